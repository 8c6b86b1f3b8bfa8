/-! the class's state and the reference's, side by side -/
theorem nI_24 {a b : Nat} (ha : a < 24) (hb : b < 24) : nI a = nI b ↔ a = b := nI_eq (by omega) (by omega)
def iv1 (A B : ab_Me) : Prop := B.1 = A.1 ∧ B.2.2 = A.2.2 ∧ B.2.1.length = A.2.1.length ∧ (∀ e, e ∈ B.2.1 ↔ e ∈ A.2.1) ∧ A.2.1.Pairwise (fun a b => a.1 < b.1) ∧ (∃ C, A.2.1[0]? = some (0, C)) ∧ (∃ C, B.2.1[0]? = some (0, C)) ∧ (∀ (i j : Nat) (e f : Nat × ab_Cu), B.2.1[i]? = some e → B.2.1[j]? = some f → e.1 = f.1 → i = j) ∧ (∀ e ∈ A.2.1, e.1 < 24 ∧ (∀ t ∈ e.2.2.1.2, t.1 ≤ 100) ∧ (∀ t ∈ e.2.2.2.2, t.1 ≤ 100)) ∧ ∀ t ∈ A.1, -1000 ≤ t.2.toInt ∧ t.2.toInt ≤ 1000
def iv (S U : Nat → ab_Me) : Prop := ∀ j, iv1 (S j) (U j)
theorem pw_idx {l : List (Nat × ab_Cu)} (h : l.Pairwise (fun a b => a.1 < b.1)) {i j : Nat} {e f : Nat × ab_Cu} (hi : l[i]? = some e) (hj : l[j]? = some f) (he : e.1 = f.1) : i = j := by
  obtain ⟨hi1, hi2⟩ := List.getElem?_eq_some_iff.mp hi
  obtain ⟨hj1, hj2⟩ := List.getElem?_eq_some_iff.mp hj
  rw [List.pairwise_iff_getElem] at h
  rcases Nat.lt_trichotomy i j with hlt | rfl | hlt
  · have := h i j hi1 hj1 hlt
    rw [hi2, hj2] at this
    omega
  · rfl
  · have := h j i hj1 hi1 hlt
    rw [hi2, hj2] at this
    omega
theorem pw_mem {l : List (Nat × ab_Cu)} (h : l.Pairwise (fun a b => a.1 < b.1)) {e f : Nat × ab_Cu} (hi : e ∈ l) (hj : f ∈ l) (he : e.1 = f.1) : e = f := by
  obtain ⟨i, hi'⟩ := List.mem_iff_getElem?.mp hi
  obtain ⟨j, hj'⟩ := List.mem_iff_getElem?.mp hj
  have := pw_idx h hi' hj' he
  subst this
  rw [hi'] at hj'
  exact Option.some.inj hj'
theorem iv1_0 : iv1 ([], [(0, cu_0)], false) ([], [(0, cu_0)], false) := ⟨rfl, rfl, rfl, fun _ => Iff.rfl, List.pairwise_singleton _ _, ⟨cu_0, rfl⟩, ⟨cu_0, rfl⟩, fun i j e f hi hj _ => by
  have h1 := ge_lt hi (Nat.le_refl _)
  have h2 := ge_lt hj (Nat.le_refl _)
  simp only [List.length_singleton] at h1 h2
  omega, fun e he => by
  simp only [List.mem_singleton] at he
  subst he
  exact ⟨by decide, fun t ht => (by cases ht), fun t ht => (by cases ht)⟩, fun t ht => by cases ht⟩
theorem iv1.flag {A B : ab_Me} (h : iv1 A B) (b : Bool) : iv1 (A.1, A.2.1, b) (B.1, B.2.1, b) := by
  obtain ⟨h1, h2, h3, h4, h5, h6, h7, h8, h9, h10⟩ := h
  exact ⟨h1, rfl, h3, h4, h5, h6, h7, h8, h9, h10⟩
theorem iv.chg {S U : Nat → ab_Me} (h : iv S U) (k : Nat) : iv (cc_chg k S) (cc_chg k U) := fun j => by
  unfold cc_chg
  by_cases hk : k ≤ j
  · rw [if_pos hk, if_pos hk]; exact (h j).flag false
  · rw [if_neg hk, if_neg hk]; exact h j
theorem iv.up {S U : Nat → ab_Me} (h : iv S U) {k : Nat} {A B : ab_Me} (hk : iv1 A B) : iv (va_up S k A) (va_up U k B) := fun j => by
  by_cases he : j = k
  · subst he; rw [gw_up_eq, gw_up_eq]; exact hk
  · rw [gw_up_ne he, gw_up_ne he]; exact h j
theorem iv1.put {A B : ab_Me} (h : iv1 A B) {kd : Nat} {z : Int32} (hz : -1000 ≤ z ∧ z ≤ 1000) : iv1 (A.1 ++ [(kd, z)], A.2) (B.1 ++ [(kd, z)], B.2) := by
  obtain ⟨h1, h2, h3, h4, h5, h6, h7, h8, h9, h10⟩ := h
  refine ⟨by show B.1 ++ _ = A.1 ++ _; rw [h1], h2, h3, h4, h5, h6, h7, h8, h9, fun t ht => ?_⟩
  rcases List.mem_append.mp ht with ht | ht
  · exact h10 t ht
  · rw [List.mem_singleton.mp ht]
    have e1 := Int32.le_iff_toInt_le.mp hz.1
    have e2 := Int32.le_iff_toInt_le.mp hz.2
    rw [show (-1000 : Int32).toInt = -1000 by decide] at e1
    rw [show (1000 : Int32).toInt = 1000 by decide] at e2
    exact ⟨e1, e2⟩
theorem cs_ins_mem {a p : Nat} {l : List (Nat × ab_Cu)} {e : Nat × ab_Cu} : e ∈ cs_ins a p l ↔ e ∈ l ∨ e = (p, cu_0) := by
  unfold cs_ins
  rw [List.mem_append, List.mem_cons]
  have := List.take_append_drop a l
  constructor
  · intro h
    rcases h with h | h | h
    · exact Or.inl (List.mem_of_mem_take h)
    · exact Or.inr h
    · exact Or.inl (List.mem_of_mem_drop h)
  · intro h
    rcases h with h | h
    · rw [← this] at h
      rcases List.mem_append.mp h with h | h
      · exact Or.inl h
      · exact Or.inr (Or.inr h)
    · exact Or.inr (Or.inl h)
theorem iv1.cut {A B : ab_Me} (h : iv1 A B) {a p : Nat} (ha : a ≤ A.2.1.length) (hp : p < 24) (hnew : ∀ c ∈ A.2.1, c.1 ≠ p) (h1' : ∀ i c, A.2.1[i]? = some c → a ≤ i → p < c.1) (h2' : 0 < a → ∃ c, A.2.1[a - 1]? = some c ∧ c.1 ≤ p) : iv1 (A.1, cs_ins a p A.2.1, A.2.2) (B.1, B.2.1 ++ [(p, cu_0)], B.2.2) := by
  obtain ⟨h1, h2, h3, h4, h5, ⟨C, h6⟩, ⟨D, h7⟩, h8, h9, h10⟩ := h
  have h0 : 0 < p := Nat.pos_of_ne_zero (fun e => hnew _ (List.mem_of_getElem? h6) (by rw [e]))
  have ha0 : 0 < a := by
    rcases Nat.eq_zero_or_pos a with e | e
    · have := h1' 0 _ h6 (by omega)
      simp only at this
      omega
    · exact e
  have hlt : ∀ i c, A.2.1[i]? = some c → i < a → c.1 < p := fun i c hc hi => by
    obtain ⟨d, hd, hdp⟩ := h2' ha0
    have hle : c.1 ≤ d.1 := by
      by_cases he : i = a - 1
      · subst he; rw [hc] at hd; cases hd; exact Nat.le_refl _
      · obtain ⟨x1, x2⟩ := List.getElem?_eq_some_iff.mp hc
        obtain ⟨y1, y2⟩ := List.getElem?_eq_some_iff.mp hd
        have := List.pairwise_iff_getElem.mp h5 i (a - 1) x1 y1 (by omega)
        rw [x2, y2] at this
        omega
    have := hnew c (List.mem_of_getElem? hc)
    omega
  refine ⟨h1, h2, ?_, fun e => ?_, ?_, ⟨C, ?_⟩, ⟨D, ?_⟩, fun i j e f hi hj he => ?_, fun e he => ?_, h10⟩
  · show (B.2.1 ++ [(p, cu_0)]).length = (cs_ins a p A.2.1).length
    unfold cs_ins
    simp only [List.length_append, List.length_cons, List.length_take, List.length_drop, List.length_nil]
    omega
  · show e ∈ B.2.1 ++ [(p, cu_0)] ↔ e ∈ cs_ins a p A.2.1
    rw [cs_ins_mem, List.mem_append, List.mem_singleton, h4]
  · show (cs_ins a p A.2.1).Pairwise _
    unfold cs_ins
    rw [List.pairwise_append, List.pairwise_cons]
    refine ⟨h5.sublist (List.take_sublist _ _), ⟨fun c hc => ?_, h5.sublist (List.drop_sublist _ _)⟩, fun x hx y hy => ?_⟩
    · obtain ⟨i, hi⟩ := List.mem_iff_getElem?.mp hc
      rw [List.getElem?_drop] at hi
      exact h1' _ c hi (by omega)
    · obtain ⟨i, hi⟩ := List.mem_iff_getElem?.mp hx
      have hia : i < a := by have := ge_lt hi (Nat.le_refl _); rw [List.length_take] at this; omega
      rw [List.getElem?_take_of_lt hia] at hi
      have hxp := hlt i x hi hia
      rcases List.mem_cons.mp hy with rfl | hy
      · exact hxp
      · obtain ⟨j, hj⟩ := List.mem_iff_getElem?.mp hy
        rw [List.getElem?_drop] at hj
        have := h1' _ y hj (by omega)
        omega
  · show (cs_ins a p A.2.1)[0]? = _
    unfold cs_ins
    rw [List.getElem?_append_left (by rw [List.length_take]; have := ge_lt h6 (Nat.le_refl _); omega), List.getElem?_take_of_lt ha0]
    exact h6
  · show (B.2.1 ++ [(p, cu_0)])[0]? = _
    rw [List.getElem?_append_left (ge_lt h7 (Nat.le_refl _))]
    exact h7
  · rcases ap_or hi with ⟨i1, i2⟩ | ⟨i1, i2⟩
    · rcases ap_or hj with ⟨j1, j2⟩ | ⟨j1, j2⟩
      · exact h8 i j e f i2 j2 he
      · exact absurd (by rw [he, j2]) (hnew e ((h4 e).mp (List.mem_of_getElem? i2)))
    · rcases ap_or hj with ⟨j1, j2⟩ | ⟨j1, j2⟩
      · exact absurd (by rw [← he, i2]) (hnew f ((h4 f).mp (List.mem_of_getElem? j2)))
      · omega
  · rcases cs_ins_mem.mp he with he | rfl
    · exact h9 e he
    · exact ⟨hp, fun t ht => (by cases ht), fun t ht => (by cases ht)⟩
theorem set_mem {l : List (Nat × ab_Cu)} (hu : ∀ (i j : Nat) (e f : Nat × ab_Cu), l[i]? = some e → l[j]? = some f → e.1 = f.1 → i = j) {i : Nat} {e : Nat × ab_Cu} (hi : l[i]? = some e) {C : ab_Cu} {x : Nat × ab_Cu} : x ∈ l.set i (e.1, C) ↔ x = (e.1, C) ∨ (x ∈ l ∧ x.1 ≠ e.1) := by
  constructor
  · intro h
    obtain ⟨j, hj⟩ := List.mem_iff_getElem?.mp h
    rcases st_or hj with ⟨rfl, rfl⟩ | ⟨hne, hj⟩
    · exact Or.inl rfl
    · exact Or.inr ⟨List.mem_of_getElem? hj, fun he => hne (hu j i x e hj hi he)⟩
  · intro h
    rcases h with rfl | ⟨h, hne⟩
    · exact List.mem_of_getElem? (i := i) (List.getElem?_set_self (ge_lt hi (Nat.le_refl _)))
    · obtain ⟨j, hj⟩ := List.mem_iff_getElem?.mp h
      have hij : i ≠ j := fun he => by subst he; rw [hi] at hj; cases hj; exact hne rfl
      exact List.mem_of_getElem? (i := j) (by rw [List.getElem?_set_ne hij]; exact hj)
theorem iv1.set {A B : ab_Me} (h : iv1 A B) {i j : Nat} {e : Nat × ab_Cu} {C : ab_Cu} (hi : A.2.1[i]? = some e) (hj : B.2.1[j]? = some e) (hC0 : ∀ t ∈ C.2.1.2, t.1 ≤ 100) (hC1 : ∀ t ∈ C.2.2.2, t.1 ≤ 100) : iv1 (A.1, A.2.1.set i (e.1, C), A.2.2) (B.1, B.2.1.set j (e.1, C), B.2.2) := by
  obtain ⟨h1, h2, h3, h4, h5, ⟨C6, h6⟩, ⟨C7, h7⟩, h8, h9, h10⟩ := h
  have huA : ∀ (i j : Nat) (e f : Nat × ab_Cu), A.2.1[i]? = some e → A.2.1[j]? = some f → e.1 = f.1 → i = j := fun i j e f => pw_idx h5
  have hz : ∀ (l : List (Nat × ab_Cu)) (k : Nat) (C8 : ab_Cu), l[k]? = some e → l[0]? = some (0, C8) → ∃ C9, (l.set k (e.1, C))[0]? = some (0, C9) := fun l k C8 hk h0 => by
    by_cases he : k = 0
    · subst he
      rw [hk] at h0
      cases h0
      exact ⟨C, List.getElem?_set_self (ge_lt hk (Nat.le_refl _))⟩
    · exact ⟨C8, by rw [List.getElem?_set_ne he]; exact h0⟩
  refine ⟨h1, h2, by show (B.2.1.set j _).length = (A.2.1.set i _).length; rw [List.length_set, List.length_set]; exact h3, fun x => ?_, ?_, hz _ i _ hi h6, hz _ j _ hj h7, fun a b x y hx hy hxy => ?_, fun x hx => ?_, h10⟩
  · show x ∈ B.2.1.set j (e.1, C) ↔ x ∈ A.2.1.set i (e.1, C)
    rw [set_mem h8 hj, set_mem huA hi, h4]
  · show (A.2.1.set i (e.1, C)).Pairwise _
    rw [List.pairwise_iff_getElem]
    intro a b ha hb hab
    have ea : ((A.2.1.set i (e.1, C))[a]).1 = (A.2.1[a]'(by rw [List.length_set] at ha; exact ha)).1 := by
      rw [List.getElem_set]
      split
      · rename_i he; subst he; obtain ⟨_, q⟩ := List.getElem?_eq_some_iff.mp hi; rw [q]
      · rfl
    have eb : ((A.2.1.set i (e.1, C))[b]).1 = (A.2.1[b]'(by rw [List.length_set] at hb; exact hb)).1 := by
      rw [List.getElem_set]
      split
      · rename_i he; subst he; obtain ⟨_, q⟩ := List.getElem?_eq_some_iff.mp hi; rw [q]
      · rfl
    rw [ea, eb]
    exact List.pairwise_iff_getElem.mp h5 a b _ _ hab
  · have key : ∀ (k : Nat) (w : Nat × ab_Cu), (B.2.1.set j (e.1, C))[k]? = some w → ∃ w', B.2.1[k]? = some w' ∧ w'.1 = w.1 := fun k w hw => by
      rcases st_or hw with ⟨rfl, rfl⟩ | ⟨_, hk⟩
      · exact ⟨e, hj, rfl⟩
      · exact ⟨w, hk, rfl⟩
    obtain ⟨x', hx1, hx2⟩ := key a x hx
    obtain ⟨y', hy1, hy2⟩ := key b y hy
    exact h8 a b x' y' hx1 hy1 (by rw [hx2, hy2]; exact hxy)
  · rcases (set_mem huA hi).mp hx with rfl | ⟨hx, _⟩
    · exact ⟨(h9 e (List.mem_of_getElem? hi)).1, hC0, hC1⟩
    · exact h9 x hx
theorem iv.uok {S U : Nat → ab_Me} (h : iv S U) : u_ok U := fun m _ => by
  obtain ⟨h1, h2, h3, h4, h5, h6, h7, h8, h9, h10⟩ := h m
  refine ⟨h7, fun i j e f hi hj he => h8 i j e f hi hj ((nI_24 (h9 e ((h4 e).mp (List.mem_of_getElem? hi))).1 (h9 f ((h4 f).mp (List.mem_of_getElem? hj))).1).mp he), fun e he => ?_, by rw [h1]; exact h10⟩
  have := h9 e ((h4 e).mp he)
  exact ⟨this.2.1, this.2.2, this.1⟩
theorem iv.sok {S U : Nat → ab_Me} (h : iv S U) : st_ok S := fun m _ => by
  obtain ⟨h1, h2, h3, h4, h5, ⟨C, h6⟩, h7, h8, h9, h10⟩ := h m
  exact ⟨h10, fun e => (by rw [e] at h6; cases h6), fun i j e f hi hj he => pw_idx h5 hi hj ((nI_24 (h9 e (List.mem_of_getElem? hi)).1 (h9 f (List.mem_of_getElem? hj)).1).mp he)⟩
theorem iv.pl {S U : Nat → ab_Me} (h : iv S U) : ∀ k, k < 4 → ∀ c ∈ (S k).2.1, c.1 < 24 := fun k _ c hc => ((h k).2.2.2.2.2.2.2.2.1 c hc).1
theorem iv.un {S U : Nat → ab_Me} (h : iv S U) : ∀ k, k < 4 → ∀ (i j : Nat) (e f : Nat × ab_Cu), (S k).2.1[i]? = some e → (S k).2.1[j]? = some f → e.1 = f.1 → i = j := fun k _ i j e f => pw_idx (h k).2.2.2.2.1
theorem iv.same {S U : Nat → ab_Me} (h : iv S U) {k i j : Nat} {e e' : Nat × ab_Cu} (hi : (S k).2.1[i]? = some e) (hj : (U k).2.1[j]? = some e') (he : nI e.1 = nI e'.1) : e' = e := by
  obtain ⟨h1, h2, h3, h4, h5, h6, h7, h8, h9, h10⟩ := h k
  have m1 := List.mem_of_getElem? hi
  have m2 := (h4 e').mp (List.mem_of_getElem? hj)
  exact pw_mem h5 m2 m1 ((nI_24 (h9 e m1).1 (h9 e' m2).1).mp he).symm
theorem iv.cu {S U : Nat → ab_Me} (h : iv S U) (j : Nat) (p : Int32) : cu_of (S j).2.1 p = cu_of (U j).2.1 p := by
  obtain ⟨h1, h2, h3, h4, h5, h6, h7, h8, h9, h10⟩ := h j
  by_cases he : ∃ c ∈ (S j).2.1, nI c.1 = p
  · obtain ⟨c, hc, hp⟩ := he
    obtain ⟨i, hi⟩ := List.mem_iff_getElem?.mp hc
    obtain ⟨i', hi'⟩ := List.mem_iff_getElem?.mp ((h4 c).mpr hc)
    rw [cu_of_some hp (fun i j e f hi hj he => pw_idx h5 hi hj ((nI_24 (h9 e (List.mem_of_getElem? hi)).1 (h9 f (List.mem_of_getElem? hj)).1).mp he)) hi, cu_of_some hp (fun i j e f hi hj he => h8 i j e f hi hj ((nI_24 (h9 e ((h4 e).mp (List.mem_of_getElem? hi))).1 (h9 f ((h4 f).mp (List.mem_of_getElem? hj))).1).mp he)) hi']
  · rw [cu_of_none (fun c hc hp => he ⟨c, hc, hp⟩), cu_of_none (fun c hc hp => he ⟨c, (h4 c).mp hc, hp⟩)]
theorem iv.first {S U : Nat → ab_Me} (h : iv S U) (j : Nat) : cu_first (S j) = cu_first (U j) := by
  obtain ⟨h1, h2, h3, h4, h5, ⟨C, h6⟩, ⟨D, h7⟩, h8, h9, h10⟩ := h j
  rw [cu_first_of h6, cu_first_of h7]
  have := pw_mem h5 (List.mem_of_getElem? h6) ((h4 _).mp (List.mem_of_getElem? h7)) rfl
  cases this
  rfl
theorem ce_do_congr {S U : Nat → ab_Me} (h : iv S U) {go : ab_Pa → Nat → Int32 × Nat} {k : Nat} {nn p : Int32} {md : Nat} {st : List ab_Sy} {lo : Nat → ab_Sy} {s : sp_E × sp_E} {b0 b1 : ab_Ba} {e : Nat} : ce_do go S k nn p md st lo s b0 b1 e = ce_do go U k nn p md st lo s b0 b1 e := by
  unfold ce_do
  split <;> first | rfl | (rw [h.first, (h _).2.1])
theorem ce_go_congr {S U : Nat → ab_Me} (h : iv S U) {m : Nat} : ∀ (f : Nat), ce_go S m f = ce_go U m f
  | 0 => rfl
  | f + 1 => by
    funext x e
    obtain ⟨p, md, st, lo, s, b0, b1⟩ := x
    unfold ce_go
    rw [ce_go_congr h f, show (fun j => (S j).1.length) = (fun j => (U j).1.length) from funext (fun j => by rw [(h j).1]), h.cu m p, ← (h m).1]
    simp only [ce_do_congr h]
theorem ce_cut_congr {S U : Nat → ab_Me} (h : iv S U) {m : Nat} {c : Nat × ab_Cu} : ce_cut S m c = ce_cut U m c := by
  unfold ce_cut
  rw [ce_go_congr h]
theorem uc_cuts {U : Nat → ab_Me} {m : Nat} : ∀ (w p : Nat) (l : List (Nat × ab_Cu)), p + w = 24 → l.Pairwise (fun a b => a.1 < b.1) → (∀ e ∈ l, p ≤ e.1 ∧ e.1 < 24) → (∀ q, p ≤ q → q < 24 → cu_of (U m).2.1 (nI q) = cu_of l (nI q)) → uc_to U m p w = ce_cuts U m l
  | 0, p, l, hw, hl, he, hc => by
    cases l with
    | nil => rfl
    | cons c l => have := he c List.mem_cons_self; omega
  | w + 1, p, l, hw, hl, he, hc => by
    unfold uc_to
    rw [hc p (Nat.le_refl _) (by omega)]
    cases l with
    | nil =>
      show uc_to U m (p + 1) w = _
      exact uc_cuts w (p + 1) [] (by omega) hl (fun e h => by cases h) (fun q h1 h2 => hc q (by omega) h2)
    | cons c l =>
      have hcp := he c List.mem_cons_self
      obtain ⟨hl1, hl2⟩ := List.pairwise_cons.mp hl
      by_cases hp : c.1 = p
      · have e1 : cu_of (c :: l) (nI p) = some c.2 := if_pos (by rw [hp])
        rw [e1]
        have e2 : (p, c.2) = c := by rw [← hp]
        dsimp only
        rw [e2]
        show _ = (if ce_cut U m c = 0 then ce_cuts U m l else 100 * nI c.1 + ce_cut U m c)
        rw [hp, uc_cuts w (p + 1) l (by omega) hl2 (fun e h => by have h1 := hl1 e h; have h2 := he e (List.mem_cons_of_mem _ h); omega) (fun q h1 h2 => by
          rw [hc q (by omega) h2]
          exact if_neg (fun hh => by have := (nI_24 (by omega) h2).mp hh; omega))]
      · have e1 : cu_of (c :: l) (nI p) = none := cu_of_none (fun e h hh => by
          have h2 := he e h
          have h3 := (nI_24 h2.2 (by omega)).mp hh
          rcases List.mem_cons.mp h with rfl | h
          · exact hp h3
          · have := hl1 e h; omega)
        rw [e1]
        exact uc_cuts w (p + 1) (c :: l) (by omega) hl (fun e h => by
          have h2 := he e h
          refine ⟨?_, h2.2⟩
          rcases List.mem_cons.mp h with rfl | h
          · omega
          · have := hl1 e h; omega) (fun q h1 h2 => hc q (by omega) h2)
theorem ce_cuts_congr {S U : Nat → ab_Me} (h : iv S U) {m : Nat} : ∀ l : List (Nat × ab_Cu), ce_cuts S m l = ce_cuts U m l
  | [] => rfl
  | c :: l => by
    unfold ce_cuts
    rw [ce_cut_congr h, ce_cuts_congr h l]
theorem iv.ans {S U : Nat → ab_Me} (h : iv S U) (m : Nat) : uc_ans U m = ce_ans S m := by
  obtain ⟨h1, h2, h3, h4, h5, h6, h7, h8, h9, h10⟩ := h m
  unfold uc_ans ce_ans
  rw [h1, uc_cuts 24 0 (S m).2.1 rfl h5 (fun e he => ⟨Nat.zero_le _, (h9 e he).1⟩) (fun q _ _ => (h.cu m (nI q)).symm), ce_cuts_congr h]
