/-! SHORTEST WALKS over five nodes: what a set of bounds 'a - b at most c' gives; no machine here -/
/-- raw bounds: the least c known for a pair -/
abbrev sp_E : Type := Nat → Nat → Option Int
/-- a walk of k edges from a to b of weight w -/
def sp_W (E : sp_E) : Nat → Nat → Nat → Int → Prop
  | 0, a, b, w => a = b ∧ a < 5 ∧ w = 0
  | k + 1, a, b, w => ∃ (x : Nat) (u v : Int), x < 5 ∧ b < 5 ∧ sp_W E k a x u ∧ E x b = some v ∧ w = u + v
theorem sp_W_lt {E : sp_E} : ∀ {k a b : Nat} {w : Int}, sp_W E k a b w → a < 5 ∧ b < 5
  | 0, a, b, w, h => ⟨h.2.1, h.1 ▸ h.2.1⟩
  | k + 1, a, b, w, ⟨x, u, v, hx, hb, hw, _⟩ => ⟨(sp_W_lt hw).1, hb⟩
theorem sp_W_app {E : sp_E} {j : Nat} {a x : Nat} {u : Int} (h : sp_W E j a x u) : ∀ {k b : Nat} {v : Int}, sp_W E k x b v → sp_W E (j + k) a b (u + v)
  | 0, b, v, h2 => by
    obtain ⟨rfl, -, rfl⟩ := h2
    simpa using h
  | k + 1, b, v, h2 => by
    obtain ⟨z, p, q, hz, hb, hw, he, rfl⟩ := h2
    exact ⟨z, u + p, q, hz, hb, sp_W_app h hw, he, by omega⟩
theorem sp_W_one {E : sp_E} {a b : Nat} {v : Int} (ha : a < 5) (hb : b < 5) (h : E a b = some v) : sp_W E 1 a b v := ⟨a, 0, v, ha, hb, ⟨rfl, ha, rfl⟩, h, by omega⟩
/-- a walk cut in two behind its first i edges -/
theorem sp_W_cut {E : sp_E} : ∀ {k a b : Nat} {w : Int} (i : Nat), i ≤ k → sp_W E k a b w → ∃ (x : Nat) (u v : Int), sp_W E i a x u ∧ sp_W E (k - i) x b v ∧ w = u + v
  | 0, a, b, w, i, hi, h => by
    have : i = 0 := by omega
    subst this
    exact ⟨b, w, 0, h, ⟨rfl, (sp_W_lt h).2, rfl⟩, by omega⟩
  | k + 1, a, b, w, i, hi, h => by
    by_cases hik : i = k + 1
    · subst hik
      exact ⟨b, w, 0, h, by rw [Nat.sub_self]; exact ⟨rfl, (sp_W_lt h).2, rfl⟩, by omega⟩
    · obtain ⟨z, p, q, hz, hb, hw, he, rfl⟩ := h
      obtain ⟨x, u, v, h1, h2, rfl⟩ := sp_W_cut i (by omega) hw
      refine ⟨x, u, v + q, h1, ?_, by omega⟩
      rw [show k + 1 - i = (k - i) + 1 by omega]
      exact ⟨z, v, q, hz, hb, h2, he, rfl⟩
/-- the nodes of a walk, at each of its places -/
theorem sp_W_nodes {E : sp_E} {k a b : Nat} {w : Int} (h : sp_W E k a b w) : ∃ p : Nat → Nat, (∀ i, i ≤ k → p i < 5) ∧ ∀ i j, i ≤ j → j ≤ k → ∃ u v z : Int, sp_W E i a (p i) u ∧ sp_W E (j - i) (p i) (p j) v ∧ sp_W E (k - j) (p j) b z ∧ w = u + v + z := by
  induction k generalizing b w with
  | zero =>
    obtain ⟨rfl, ha, rfl⟩ := h
    refine ⟨fun _ => a, fun _ _ => ha, fun i j hi hj => ?_⟩
    have hj0 : j = 0 := by omega
    have hi0 : i = 0 := by omega
    subst hj0; subst hi0
    exact ⟨0, 0, 0, ⟨rfl, ha, rfl⟩, ⟨rfl, ha, rfl⟩, ⟨rfl, ha, rfl⟩, by omega⟩
  | succ k ih =>
    obtain ⟨x, u, v, hx, hb, hw, he, rfl⟩ := h
    obtain ⟨p, hp, hq⟩ := ih hw
    have hpk : p k = x := by
      obtain ⟨_, _, _, _, _, h3, _⟩ := hq k k (Nat.le_refl _) (Nat.le_refl _)
      rw [Nat.sub_self] at h3
      exact h3.1
    refine ⟨fun i => if i ≤ k then p i else b, fun i hi => ?_, fun i j hij hj => ?_⟩
    · dsimp only
      split
      · next h => exact hp i h
      · exact hb
    · dsimp only
      by_cases hjk : j ≤ k
      · rw [if_pos hjk, if_pos (by omega)]
        obtain ⟨u1, v1, z1, g1, g2, g3, g4⟩ := hq i j hij hjk
        refine ⟨u1, v1, z1 + v, g1, g2, ?_, by omega⟩
        rw [show k + 1 - j = (k - j) + 1 by omega]
        exact ⟨x, z1, v, hx, hb, g3, he, rfl⟩
      · have hj1 : j = k + 1 := by omega
        subst hj1
        rw [if_neg hjk]
        by_cases hik : i ≤ k
        · rw [if_pos hik]
          obtain ⟨u1, v1, z1, g1, g2, g3, g4⟩ := hq i k hik (Nat.le_refl _)
          rw [hpk] at g2 g3
          rw [Nat.sub_self] at g3
          obtain ⟨-, -, rfl⟩ := g3
          refine ⟨u1, v1 + v, 0, g1, ?_, ?_, by omega⟩
          · rw [show k + 1 - i = (k - i) + 1 by omega]
            exact ⟨x, v1, v, hx, hb, g2, he, rfl⟩
          · rw [Nat.sub_self]
            exact ⟨rfl, hb, rfl⟩
        · have hi1 : i = k + 1 := by omega
          subst hi1
          rw [if_neg hik]
          refine ⟨u + v, 0, 0, ⟨x, u, v, hx, hb, hw, he, rfl⟩, ?_, ?_, by omega⟩
          · rw [Nat.sub_self]; exact ⟨rfl, hb, rfl⟩
          · rw [Nat.sub_self]; exact ⟨rfl, hb, rfl⟩
/-- of six numbers below five two are the same -/
theorem sp_pigeon (p : Nat → Nat) (h : ∀ i, i ≤ 5 → p i < 5) : ∃ i j, i < j ∧ j ≤ 5 ∧ p i = p j := by
  have key : ∀ n : Nat, ∀ p : Nat → Nat, (∀ i, i ≤ n → p i < n) → ∃ i j, i < j ∧ j ≤ n ∧ p i = p j := by
    intro n
    induction n with
    | zero => intro p hp; exact absurd (hp 0 (Nat.le_refl _)) (by omega)
    | succ n ih =>
      intro p hp
      by_cases hx : ∃ i, i ≤ n ∧ p i = p (n + 1)
      · obtain ⟨i, hi, he⟩ := hx
        exact ⟨i, n + 1, by omega, Nat.le_refl _, he⟩
      · -- the value of the last is taken by no other: swap it with n
        have hne : ∀ i, i ≤ n → p i ≠ p (n + 1) := fun i hi he => hx ⟨i, hi, he⟩
        have hq : ∀ i, i ≤ n → (if p i = n then p (n + 1) else p i) < n := by
          intro i hi
          have h1 := hp i (by omega)
          have h2 := hp (n + 1) (Nat.le_refl _)
          have h3 := hne i hi
          by_cases h4 : p i = n
          · rw [if_pos h4]; omega
          · rw [if_neg h4]; omega
        obtain ⟨i, j, hij, hj, he⟩ := ih (fun i => if p i = n then p (n + 1) else p i) hq
        refine ⟨i, j, hij, by omega, ?_⟩
        have g1 := hne i (by omega)
        have g2 := hne j hj
        by_cases h4 : p i = n <;> by_cases h5 : p j = n
        · rw [h4, h5]
        · rw [if_pos h4, if_neg h5] at he; exact absurd he.symm g2
        · rw [if_neg h4, if_pos h5] at he; exact absurd he g1
        · rw [if_neg h4, if_neg h5] at he; exact he
  exact key 5 p h
/-- where no closed walk is below 0, four edges are enough -/
theorem sp_short {E : sp_E} (hc : ∀ (k x : Nat) (w : Int), sp_W E k x x w → 0 ≤ w) : ∀ (k a b : Nat) (w : Int), sp_W E k a b w → ∃ (j : Nat) (u : Int), j ≤ 4 ∧ u ≤ w ∧ sp_W E j a b u := by
  intro k
  induction k using Nat.strongRecOn with
  | _ k ih =>
    intro a b w h
    by_cases hk : k ≤ 4
    · exact ⟨k, w, hk, Int.le_refl _, h⟩
    · obtain ⟨p, hp, hq⟩ := sp_W_nodes h
      obtain ⟨i, j, hij, hj, he⟩ := sp_pigeon p (fun i hi => hp i (by omega))
      obtain ⟨u, v, z, g1, g2, g3, rfl⟩ := hq i j (by omega) (by omega)
      rw [← he] at g2 g3
      have hv := hc _ _ _ g2
      obtain ⟨n, t, h1, h2, h3⟩ := ih (i + (k - j)) (by omega) a b (u + z) (sp_W_app g1 g3)
      exact ⟨n, t, h1, by omega, h3⟩
/-- the least weight of the walks of at most t edges -/
def sp_M (E : sp_E) (t a b : Nat) : Option Int → Prop
  | none => ∀ (k : Nat) (w : Int), k ≤ t → ¬ sp_W E k a b w
  | some m => (∃ k, k ≤ t ∧ sp_W E k a b m) ∧ ∀ (k : Nat) (w : Int), k ≤ t → sp_W E k a b w → m ≤ w
theorem sp_M_uniq {E : sp_E} {t a b : Nat} {x z : Option Int} (h1 : sp_M E t a b x) (h2 : sp_M E t a b z) : x = z := by
  cases x with
  | none =>
    cases z with
    | none => rfl
    | some m => obtain ⟨⟨k, hk, hw⟩, -⟩ := h2; exact absurd hw (h1 k m hk)
  | some m =>
    cases z with
    | none => obtain ⟨⟨k, hk, hw⟩, -⟩ := h1; exact absurd hw (h2 k m hk)
    | some n =>
      obtain ⟨⟨k, hk, hw⟩, hm⟩ := h1
      obtain ⟨⟨j, hj, hv⟩, hn⟩ := h2
      have := hm j n hj hv
      have := hn k m hk hw
      congr 1; omega
/-- the least weights of all, by walks of at most four edges -/
def sp_C (E : sp_E) (C : sp_E) : Prop := ∀ a b, a < 5 → b < 5 → match C a b with
  | none => ∀ (k : Nat) (w : Int), ¬ sp_W E k a b w
  | some m => (∃ k, k ≤ 4 ∧ sp_W E k a b m) ∧ ∀ (k : Nat) (w : Int), sp_W E k a b w → m ≤ w
theorem sp_C_some {E C : sp_E} (h : sp_C E C) {a b : Nat} {m : Int} (ha : a < 5) (hb : b < 5) (hm : C a b = some m) : (∃ k, k ≤ 4 ∧ sp_W E k a b m) ∧ ∀ (k : Nat) (w : Int), sp_W E k a b w → m ≤ w := by
  have := h a b ha hb
  rwa [hm] at this
theorem sp_C_none {E C : sp_E} (h : sp_C E C) {a b : Nat} (ha : a < 5) (hb : b < 5) (hm : C a b = none) : ∀ (k : Nat) (w : Int), ¬ sp_W E k a b w := by
  have := h a b ha hb
  rwa [hm] at this
theorem sp_C_of {E C : sp_E} (h : sp_C E C) {a b k : Nat} {w : Int} (hw : sp_W E k a b w) : ∃ m, C a b = some m ∧ m ≤ w := by
  obtain ⟨ha, hb⟩ := sp_W_lt hw
  cases hm : C a b with
  | none => exact absurd hw (sp_C_none h ha hb hm k w)
  | some m => exact ⟨m, rfl, (sp_C_some h ha hb hm).2 k w hw⟩
theorem sp_C_self {E C : sp_E} (h : sp_C E C) {a : Nat} (ha : a < 5) : C a a = some 0 := by
  obtain ⟨m, hm, hle⟩ := sp_C_of h (show sp_W E 0 a a 0 from ⟨rfl, ha, rfl⟩)
  obtain ⟨⟨k, -, hk⟩, -⟩ := sp_C_some h ha ha hm
  -- a closed walk of weight m below 0 could be walked twice
  have h2 := (sp_C_some h ha ha hm).2 _ _ (sp_W_app hk hk)
  rw [hm]; congr 1; omega
theorem sp_C_M {E C : sp_E} (h : sp_C E C) {a b t : Nat} (ha : a < 5) (hb : b < 5) (ht : 4 ≤ t) : sp_M E t a b (C a b) := by
  cases hm : C a b with
  | none => exact fun k w _ => sp_C_none h ha hb hm k w
  | some m =>
    obtain ⟨⟨k, hk, hw⟩, hle⟩ := sp_C_some h ha hb hm
    exact ⟨⟨k, by omega, hw⟩, fun j w _ hj => hle j w hj⟩
/-- one more bound -/
def sp_add (E : sp_E) (a b : Nat) (c : Int) : sp_E := fun x z => if x = a ∧ z = b then some (match E a b with | none => c | some v => if v ≤ c then v else c) else E x z
theorem sp_add_le {E : sp_E} {a b x z : Nat} {c v : Int} (h : E x z = some v) : ∃ v', sp_add E a b c x z = some v' ∧ v' ≤ v := by
  unfold sp_add
  by_cases hq : x = a ∧ z = b
  · obtain ⟨rfl, rfl⟩ := hq
    rw [if_pos ⟨rfl, rfl⟩, h]
    refine ⟨_, rfl, ?_⟩
    dsimp only
    split <;> omega
  · rw [if_neg hq]
    exact ⟨v, h, Int.le_refl _⟩
theorem sp_add_new {E : sp_E} {a b : Nat} {c : Int} : ∃ v', sp_add E a b c a b = some v' ∧ v' ≤ c := by
  unfold sp_add
  rw [if_pos ⟨rfl, rfl⟩]
  refine ⟨_, rfl, ?_⟩
  cases E a b with
  | none => exact Int.le_refl _
  | some v => dsimp only; split <;> omega
theorem sp_add_of {E : sp_E} {a b x z : Nat} {c v : Int} (h : sp_add E a b c x z = some v) : E x z = some v ∨ (x = a ∧ z = b ∧ v = c) := by
  unfold sp_add at h
  by_cases hq : x = a ∧ z = b
  · obtain ⟨rfl, rfl⟩ := hq
    rw [if_pos ⟨rfl, rfl⟩] at h
    cases he : E x z with
    | none => rw [he] at h; exact Or.inr ⟨rfl, rfl, (Option.some.inj h).symm⟩
    | some u =>
      rw [he] at h
      have h1 := Option.some.inj h
      dsimp only at h1
      by_cases hu : u ≤ c
      · rw [if_pos hu] at h1; rw [h1]; exact Or.inl rfl
      · rw [if_neg hu] at h1; exact Or.inr ⟨rfl, rfl, h1.symm⟩
  · rw [if_neg hq] at h
    exact Or.inl h
theorem sp_W_add {E : sp_E} {a b : Nat} {c : Int} : ∀ {k x z : Nat} {w : Int}, sp_W E k x z w → ∃ w', w' ≤ w ∧ sp_W (sp_add E a b c) k x z w'
  | 0, x, z, w, h => ⟨w, Int.le_refl _, h⟩
  | k + 1, x, z, w, ⟨q, u, v, hq, hz, hw, he, hs⟩ => by
    obtain ⟨u', hu, h1⟩ := sp_W_add hw
    obtain ⟨v', h2, hv⟩ := sp_add_le (a := a) (b := b) (c := c) he
    exact ⟨u' + v', by omega, q, u', v', hq, hz, h1, h2, rfl⟩
def sp_plus : Option Int → Option Int → Option Int
  | some x, some z => some (x + z)
  | _, _ => none
def sp_min : Option Int → Option Int → Option Int
  | none, z => z
  | x, none => x
  | some x, some z => some (if z < x then z else x)
/-- the least weights behind one more bound -/
def sp_lrn (C : sp_E) (a b : Nat) (c : Int) : sp_E := fun f t => sp_min (C f t) (sp_plus (sp_plus (C f a) (some c)) (C b t))
theorem sp_min_some {x z : Option Int} {m : Int} (h : sp_min x z = some m) : (x = some m ∨ z = some m) ∧ (∀ v, x = some v → m ≤ v) ∧ ∀ v, z = some v → m ≤ v := by
  cases x with
  | none => cases z with
    | none => cases h
    | some v => exact ⟨Or.inr h, fun v hv => (by cases hv), fun w hw => (by cases hw; cases h; omega)⟩
  | some u => cases z with
    | none => exact ⟨Or.inl h, fun v hv => (by cases hv; cases h; omega), fun v hv => (by cases hv)⟩
    | some v =>
      have h1 := Option.some.inj h
      refine ⟨?_, fun w hw => ?_, fun w hw => ?_⟩
      · split at h1
        · exact Or.inr (by rw [h1])
        · exact Or.inl (by rw [h1])
      · cases hw; split at h1 <;> omega
      · cases hw; split at h1 <;> omega
theorem sp_min_left {x z : Option Int} {v : Int} (h : x = some v) : ∃ m, sp_min x z = some m ∧ m ≤ v := by
  subst h
  cases z with
  | none => exact ⟨v, rfl, Int.le_refl _⟩
  | some u => exact ⟨_, rfl, by split <;> omega⟩
theorem sp_min_right {x z : Option Int} {v : Int} (h : z = some v) : ∃ m, sp_min x z = some m ∧ m ≤ v := by
  subst h
  cases x with
  | none => exact ⟨v, rfl, Int.le_refl _⟩
  | some u => exact ⟨_, rfl, by split <;> omega⟩
theorem sp_plus_some {x z : Option Int} {m : Int} (h : sp_plus x z = some m) : ∃ u v, x = some u ∧ z = some v ∧ m = u + v := by
  cases x with
  | none => cases h
  | some u => cases z with
    | none => cases h
    | some v => exact ⟨u, v, rfl, rfl, (Option.some.inj h).symm⟩
/-- a walk over the bounds with one more is no less than what sp_lrn says -/
theorem sp_lrn_le {E C : sp_E} (h : sp_C E C) {a b : Nat} {c : Int} (ha : a < 5) (hb : b < 5) (hn : ∀ w, C b a = some w → 0 ≤ w + c) : ∀ {k f t : Nat} {w : Int}, sp_W (sp_add E a b c) k f t w → ∃ m, sp_lrn C a b c f t = some m ∧ m ≤ w
  | 0, f, t, w, hw => by
    obtain ⟨rfl, hf, rfl⟩ := hw
    exact sp_min_left (sp_C_self h hf)
  | k + 1, f, t, w, ⟨x, u, v, hx, ht, hw, he, hs⟩ => by
    obtain ⟨m, hm, hle⟩ := sp_lrn_le h ha hb hn hw
    obtain ⟨h1, -, -⟩ := sp_min_some hm
    have hf := (sp_W_lt hw).1
    rcases sp_add_of he with he | ⟨rfl, rfl, rfl⟩
    · rcases h1 with h1 | h1
      · obtain ⟨⟨j, -, hj⟩, -⟩ := sp_C_some h hf hx h1
        obtain ⟨m2, hm2, hle2⟩ := sp_C_of h (show sp_W E (j + 1) f t (m + v) from ⟨x, m, v, hx, ht, hj, he, rfl⟩)
        obtain ⟨m3, hm3, hle3⟩ := sp_min_left (z := sp_plus (sp_plus (C f a) (some c)) (C b t)) hm2
        exact ⟨m3, hm3, by omega⟩
      · obtain ⟨p, q, hp, hq, rfl⟩ := sp_plus_some h1
        obtain ⟨p1, p2, hp1, hp2, rfl⟩ := sp_plus_some hp
        cases hp2
        obtain ⟨⟨j, -, hj⟩, -⟩ := sp_C_some h hb hx hq
        obtain ⟨m2, hm2, hle2⟩ := sp_C_of h (show sp_W E (j + 1) b t (q + v) from ⟨x, q, v, hx, ht, hj, he, rfl⟩)
        obtain ⟨m3, hm3, hle3⟩ := sp_min_right (x := C f t) (show sp_plus (sp_plus (C f a) (some c)) (C b t) = some (p1 + c + m2) by rw [hp1, hm2]; rfl)
        exact ⟨m3, hm3, by omega⟩
    · -- the new bound itself
      have hfa : ∃ p, C f x = some p ∧ (m = p ∨ ∃ q, C t x = some q ∧ m = p + v + q) := by
        rcases h1 with h1 | h1
        · exact ⟨m, h1, Or.inl rfl⟩
        · obtain ⟨p, q, hp, hq, rfl⟩ := sp_plus_some h1
          obtain ⟨p1, p2, hp1, hp2, rfl⟩ := sp_plus_some hp
          cases hp2
          exact ⟨p1, hp1, Or.inr ⟨q, hq, rfl⟩⟩
      obtain ⟨p, hp, hcase⟩ := hfa
      obtain ⟨m3, hm3, hle3⟩ := sp_min_right (x := C f t) (show sp_plus (sp_plus (C f x) (some v)) (C t t) = some (p + v + 0) by rw [hp, sp_C_self h ht]; rfl)
      refine ⟨m3, hm3, ?_⟩
      rcases hcase with rfl | ⟨q, hq, rfl⟩
      · omega
      · have := hn q hq
        omega
/-- what sp_lrn says is some walk's weight -/
theorem sp_lrn_at {E C : sp_E} (h : sp_C E C) {a b f t : Nat} {c m : Int} (ha : a < 5) (hb : b < 5) (hf : f < 5) (ht : t < 5) (hm : sp_lrn C a b c f t = some m) : ∃ (k : Nat) (w : Int), w ≤ m ∧ sp_W (sp_add E a b c) k f t w := by
  obtain ⟨h1, -, -⟩ := sp_min_some hm
  rcases h1 with h1 | h1
  · obtain ⟨⟨j, -, hj⟩, -⟩ := sp_C_some h hf ht h1
    obtain ⟨w, hw, h2⟩ := sp_W_add (a := a) (b := b) (c := c) hj
    exact ⟨j, w, hw, h2⟩
  · obtain ⟨p, q, hp, hq, rfl⟩ := sp_plus_some h1
    obtain ⟨p1, p2, hp1, hp2, rfl⟩ := sp_plus_some hp
    cases hp2
    obtain ⟨⟨j, -, hj⟩, -⟩ := sp_C_some h hf ha hp1
    obtain ⟨⟨i, -, hi⟩, -⟩ := sp_C_some h hb ht hq
    obtain ⟨w1, hw1, g1⟩ := sp_W_add (a := a) (b := b) (c := c) hj
    obtain ⟨w2, hw2, g2⟩ := sp_W_add (a := a) (b := b) (c := c) hi
    obtain ⟨v, hv, hvc⟩ := sp_add_new (E := E) (a := a) (b := b) (c := c)
    exact ⟨_, _, by omega, sp_W_app (sp_W_app g1 (sp_W_one ha hb hv)) g2⟩
/-- without contradiction the least weights go on being so -/
theorem sp_C_lrn {E C : sp_E} (h : sp_C E C) {a b : Nat} {c : Int} (ha : a < 5) (hb : b < 5) (hn : ∀ w, C b a = some w → 0 ≤ w + c) : sp_C (sp_add E a b c) (sp_lrn C a b c) := by
  have hz : ∀ (k x : Nat) (w : Int), sp_W (sp_add E a b c) k x x w → 0 ≤ w := by
    intro k x w hw
    have hx := (sp_W_lt hw).1
    obtain ⟨m, hm, hle⟩ := sp_lrn_le h ha hb hn hw
    obtain ⟨h1, -, -⟩ := sp_min_some hm
    rcases h1 with h1 | h1
    · rw [sp_C_self h hx] at h1; cases h1; omega
    · obtain ⟨p, q, hp, hq, rfl⟩ := sp_plus_some h1
      obtain ⟨p1, p2, hp1, hp2, rfl⟩ := sp_plus_some hp
      cases hp2
      obtain ⟨⟨j, -, hj⟩, -⟩ := sp_C_some h hx ha hp1
      obtain ⟨⟨i, -, hi⟩, -⟩ := sp_C_some h hb hx hq
      obtain ⟨m2, hm2, hle2⟩ := sp_C_of h (sp_W_app hi hj)
      have := hn m2 hm2
      omega
  intro f t hf ht
  cases hm : sp_lrn C a b c f t with
  | none =>
    intro k w hw
    obtain ⟨m, hm2, -⟩ := sp_lrn_le h ha hb hn hw
    rw [hm] at hm2; cases hm2
  | some m =>
    have hle : ∀ (k : Nat) (w : Int), sp_W (sp_add E a b c) k f t w → m ≤ w := by
      intro k w hw
      obtain ⟨m2, hm2, hle⟩ := sp_lrn_le h ha hb hn hw
      rw [hm] at hm2; cases hm2; exact hle
    refine ⟨?_, hle⟩
    obtain ⟨k, w, hw, hk⟩ := sp_lrn_at h ha hb hf ht hm
    obtain ⟨j, u, hj, hu, hs⟩ := sp_short hz k f t w hk
    have := hle j u hs
    have e : u = m := by omega
    exact ⟨j, hj, e ▸ hs⟩
/-- a contradiction: a closed walk of at most five edges below 0 -/
theorem sp_bad {E C : sp_E} (h : sp_C E C) {a b : Nat} {c w : Int} (ha : a < 5) (hb : b < 5) (hw : C b a = some w) (hn : w + c < 0) : ∃ (k : Nat) (u : Int), k ≤ 5 ∧ u < 0 ∧ sp_W (sp_add E a b c) k a a u := by
  obtain ⟨⟨k, hk, hs⟩, -⟩ := sp_C_some h hb ha hw
  obtain ⟨w', hw', g⟩ := sp_W_add (a := a) (b := b) (c := c) hs
  obtain ⟨v, hv, hvc⟩ := sp_add_new (E := E) (a := a) (b := b) (c := c)
  exact ⟨1 + k, v + w', by omega, by omega, sp_W_app (sp_W_one ha hb hv) g⟩
/-- a closed walk below 0 stays one when bounds are added -/
theorem sp_bad_add {E : sp_E} {a b x k : Nat} {c u : Int} (hu : u < 0) (h : sp_W E k x x u) : ∃ u', u' < 0 ∧ sp_W (sp_add E a b c) k x x u' := by
  obtain ⟨w, hw, g⟩ := sp_W_add (a := a) (b := b) (c := c) h
  exact ⟨w, by omega, g⟩
/-- nothing known -/
theorem sp_C_0 : sp_C (fun _ _ => none) (fun a b => if a = b then some 0 else none) := by
  have key : ∀ (k a b : Nat) (w : Int), sp_W (fun _ _ => none) k a b w → a = b ∧ w = 0 := by
    intro k a b w h
    cases k with
    | zero => exact ⟨h.1, h.2.2⟩
    | succ k => obtain ⟨_, _, _, _, _, _, he, _⟩ := h; cases he
  intro a b ha hb
  by_cases hab : a = b
  · subst hab
    have e : (fun a b : Nat => if a = b then (some 0 : Option Int) else none) a a = some 0 := if_pos rfl
    rw [e]
    exact ⟨⟨0, by omega, rfl, ha, rfl⟩, fun k w hw => by rw [(key k a a w hw).2]; omega⟩
  · have e : (fun a b : Nat => if a = b then (some 0 : Option Int) else none) a b = none := if_neg hab
    rw [e]
    exact fun k w hw => hab (key k a b w hw).1
