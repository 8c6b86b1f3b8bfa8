/-! rules that read or write the memory -/
theorem gw_ad_lt (K : gw_K) {o : Nat} (h : o < 1048576) : gw_ad K o = K.1 + o := by unfold gw_ad; rw [if_pos h]
theorem gw_ad_in {K : gw_K} {M : gw_Mem} (hV : gw_V M) {o : Nat} (h : o < M.1) : gw_ad K o = K.1 + o := gw_ad_lt K (Nat.lt_of_lt_of_le h hV.1)
/-- the classes of the worlds, by number -/
def gw_c (ci : Nat) : vw_C := gw_cl.getD ci ("", fun _ => ("", "", "", false), 0)
def gw_kd : FieldType → Nat
  | .int => 0
  | .long => 1
  | .object _ => 2
  | .array _ => 2
  | .boolean => 3
  | _ => 9
def gw_Cok (ci : Nat) : Prop := gw_cl[ci]? = some (gw_c ci) ∧ (gw_c ci).2.2 = gw_N ci ∧ (∀ w ∈ u_ws (gw_c ci).1 (gw_c ci).2.1 (gw_c ci).2.2, w ∈ gw_all) ∧ (∀ k, k < (gw_c ci).2.2 → parseFieldDescriptor ((gw_c ci).2.1 k).2.2.1 = some (gw_ty ci k)) ∧ ∀ a, a < (gw_c ci).2.2 → ∀ b, b < (gw_c ci).2.2 → a ≠ b → ((gw_c ci).2.1 a).2.1 ≠ ((gw_c ci).2.1 b).2.1
/-- a field reference of class own's pool: field k of class ci, of kind kd, final or not -/
def gw_F (own : String) (idx ci k kd : Nat) (fin : Bool) : Prop := gw_Cok ci ∧ k < (gw_c ci).2.2 ∧ Cond.fieldLink own idx ((gw_c ci).2.1 k).1 ((gw_c ci).2.1 k).2.1 ((gw_c ci).2.1 k).2.2.1 ∈ gw_all ∧ gw_kd (gw_ty ci k) = kd ∧ ((gw_c ci).2.1 k).2.2.2 = fin
theorem gw_kd0 {t : FieldType} (h : gw_kd t = 0) : t = .int := by cases t <;> first | rfl | (exact absurd h (by simp [gw_kd]))
theorem gw_kd1 {t : FieldType} (h : gw_kd t = 1) : t = .long := by cases t <;> first | rfl | (exact absurd h (by simp [gw_kd]))
theorem gw_kd3 {t : FieldType} (h : gw_kd t = 3) : t = .boolean := by cases t <;> first | rfl | (exact absurd h (by simp [gw_kd]))
theorem gw_kd2 {t : FieldType} (h : gw_kd t = 2) : (∃ n, t = .object n) ∨ ∃ u, t = .array u := by cases t <;> first | exact Or.inl ⟨_, rfl⟩ | exact Or.inr ⟨_, rfl⟩ | (exact absurd h (by simp [gw_kd]))
theorem gw_fs_at {K : gw_K} {ci k : Nat} {r : Nat → Option Nat} {f : Nat → Int32} {g : Nat → Int64} (h : k < gw_N ci) : (gw_fs K ci r f g)[k]? = some (gw_fv K (gw_ty ci k) (r k) (f k) (g k)) := by
  unfold gw_fs
  rw [List.getElem?_map, List.getElem?_range h]
  rfl
theorem gw_fs_len {K : gw_K} {ci : Nat} {r : Nat → Option Nat} {f : Nat → Int32} {g : Nat → Int64} : (gw_fs K ci r f g).length = gw_N ci := by simp [gw_fs]
theorem gw_fs_set {K : gw_K} {ci k : Nat} {r r' : Nat → Option Nat} {f f' : Nat → Int32} {g g' : Nat → Int64} {v : Value} (hv : gw_fv K (gw_ty ci k) (r' k) (f' k) (g' k) = v) (ho : ∀ j, j ≠ k → r' j = r j ∧ f' j = f j ∧ g' j = g j) : (gw_fs K ci r f g).set k v = gw_fs K ci r' f' g' := by
  apply List.ext_getElem?
  intro j
  by_cases hj : j = k
  · subst hj
    by_cases hl : j < gw_N ci
    · rw [List.getElem?_set_self (by rw [gw_fs_len]; exact hl), gw_fs_at hl, hv]
    · rw [List.getElem?_eq_none (by rw [List.length_set, gw_fs_len]; omega), List.getElem?_eq_none (by rw [gw_fs_len]; omega)]
  · rw [List.getElem?_set_ne (Ne.symm hj)]
    by_cases hl : j < gw_N ci
    · obtain ⟨e1, e2, e3⟩ := ho j hj
      rw [gw_fs_at hl, gw_fs_at hl, e1, e2, e3]
    · rw [List.getElem?_eq_none (by rw [gw_fs_len]; omega), List.getElem?_eq_none (by rw [gw_fs_len]; omega)]
theorem gw_at_obj {K : gw_K} {n : Nat} {sh : Nat → Nat × Nat} {X : Nat × (Nat → Int32)} {R : Nat → Nat → Option Nat} {I : Nat → Nat → Int32} {L : Nat → Nat → Int64} {o ci : Nat} (ho : sh o = (0, ci)) : gw_at K (n, sh, X, R, I, L) o = .inr (ci, gw_fs K ci (R o) (I o) (L o)) := by
  unfold gw_at gw_cell
  dsimp only
  rw [ho]
theorem gw_at_int {K : gw_K} {n : Nat} {sh : Nat → Nat × Nat} {X : Nat × (Nat → Int32)} {R : Nat → Nat → Option Nat} {I : Nat → Nat → Int32} {L : Nat → Nat → Int64} {o len : Nat} (ho : sh o = (1, len)) : gw_at K (n, sh, X, R, I, L) o = .inl (K.2.2.1 1, len, .inl (I o)) := by
  unfold gw_at gw_cell
  dsimp only
  rw [ho]
theorem gw_at_long {K : gw_K} {n : Nat} {sh : Nat → Nat × Nat} {X : Nat × (Nat → Int32)} {R : Nat → Nat → Option Nat} {I : Nat → Nat → Int32} {L : Nat → Nat → Int64} {o len : Nat} (ho : sh o = (2, len)) : gw_at K (n, sh, X, R, I, L) o = .inl (K.2.2.1 2, len, .inr (.inl (L o))) := by
  unfold gw_at gw_cell
  dsimp only
  rw [ho]
theorem gw_at_bool {K : gw_K} {n : Nat} {sh : Nat → Nat × Nat} {X : Nat × (Nat → Int32)} {R : Nat → Nat → Option Nat} {I : Nat → Nat → Int32} {L : Nat → Nat → Int64} {o len : Nat} (ho : sh o = (3, len)) : gw_at K (n, sh, X, R, I, L) o = .inl (K.2.2.1 3, len, .inl (I o)) := by
  unfold gw_at gw_cell
  dsimp only
  rw [ho]
theorem gw_at_ref {K : gw_K} {n : Nat} {sh : Nat → Nat × Nat} {X : Nat × (Nat → Int32)} {R : Nat → Nat → Option Nat} {I : Nat → Nat → Int32} {L : Nat → Nat → Int64} {o len q : Nat} (ho : sh o = (q + 4, len)) : gw_at K (n, sh, X, R, I, L) o = .inl (K.2.2.1 (q + 4), len, .inr (.inr (.inr (.inr (fun j => (R o j).map (gw_ad K)))))) := by
  unfold gw_at gw_cell
  dsimp only
  rw [ho]
theorem gw_up_ne {α : Type} {f : Nat → α} {o j : Nat} {v : α} (h : j ≠ o) : va_up f o v j = f j := by unfold va_up; rw [if_neg h]
theorem gw_up_eq {α : Type} {f : Nat → α} {o : Nat} {v : α} : va_up f o v o = v := by unfold va_up; rw [if_pos rfl]
/-- a store: the world behind it -/
theorem gw_D.set {K : gw_K} {M M' : gw_Mem} {s : State} {H H1 : Heap} {locs locs1 : List Loc} {cells o : Nat} {c : va_E} (hD : gw_D K M s H locs cells) (ho : o < M.1) (hn : M'.1 = M.1) (hs : M'.2.1 = M.2.1) (hc : gw_at K M' o = c) (hq : ∀ j, j ≠ o → gw_at K M' j = gw_at K M j)
    (hP : va_P K.2.1 gw_cl ((gw_ws K M).set o (K.1 + o, c)) H1) (hS : va_S (gw_A K) s.heap H1 locs1) : gw_D K M' s H1 locs1 cells := by
  refine ⟨?_, hS, by rw [hn]; exact hD.2.2.1, ⟨by rw [hn]; exact hD.2.2.2.1, fun j hj => by rw [hs]; exact hD.2.2.2.2 j (by rw [← hn]; exact hj)⟩⟩
  rw [← gw_ws_upd hn ho hc hq]
  exact hP
section GM
variable {y : gw_Y} {d bc bs pc : Nat} {lv : List (Option Value)} {st : List Value} {Q : Option Value → gw_Mem → Prop} {n : Nat} {sh : Nat → Nat × Nat} {X : Nat × (Nat → Int32)} {R : Nat → Nat → Option Nat} {I : Nat → Nat → Int32} {L : Nat → Nat → Int64}
theorem go_get {idx ci k kd o : Nat} {fin : Bool} {v : Value} (hd : decode y.2.1 pc = .ok (.getfield idx, 3)) (hf : gw_F y.1.cls idx ci k kd fin) (ho : sh o = (0, ci)) (hv : ∀ K : gw_K, gw_fv K (gw_ty ci k) (R o k) (I o k) (L o k) = gw_mv K v) (kk : gw_Go y d bc bs (pc + 3) lv (v :: st) (n, sh, X, R, I, L) Q) : gw_Go y d bc bs pc lv (.ref o :: st) (n, sh, X, R, I, L) Q := by
  intro K p l e R' s m args below meth c H locs cells slots Z ls hC hD h1 h2 hL hF
  obtain ⟨⟨f1, f2, f3, f4, f5⟩, f6, f7, f8, f9⟩ := hf
  have hlt : o < n := hD.2.2.2.lt ho
  have ea : gw_ad K o = K.1 + o := gw_ad_in (M := (n, sh, X, R, I, L)) hD.2.2.2 hlt
  show W p l e R' s m args below meth c H locs cells slots Z (F0 m pc ls (.ref (gw_ad K o) :: st.map (gw_mv K)))
  rw [ea]
  refine va_get (D := K.2.1) (v := gw_mv K v) hC.1 hC.2.1 hC.2.2.2.2.1 f3 hC.2.2.2.1 hC.2.2.2.2.2.2.1.1 hD.1 o (by rw [gw_ws_at hlt, gw_at_obj ho]) f1 k f6 (hC.2.2.2.2.1 _ f7) (fun x h => h) ?_ hd (kk K p l e R' s m args below meth c H locs cells slots Z ls hC hD h1 h2 hL hF)
  rw [gw_fs_at (by rw [← f2]; exact f6), hv]
theorem go_getI {idx ci k o : Nat} {fin : Bool} (hd : decode y.2.1 pc = .ok (.getfield idx, 3)) (hf : gw_F y.1.cls idx ci k 0 fin) (ho : sh o = (0, ci)) (kk : gw_Go y d bc bs (pc + 3) lv (.int (I o k) :: st) (n, sh, X, R, I, L) Q) : gw_Go y d bc bs pc lv (.ref o :: st) (n, sh, X, R, I, L) Q :=
  go_get hd hf ho (fun K => by rw [gw_kd0 hf.2.2.2.1]; rfl) kk
theorem go_getZ {idx ci k o : Nat} {fin : Bool} (hd : decode y.2.1 pc = .ok (.getfield idx, 3)) (hf : gw_F y.1.cls idx ci k 3 fin) (ho : sh o = (0, ci)) (kk : gw_Go y d bc bs (pc + 3) lv (.int (I o k) :: st) (n, sh, X, R, I, L) Q) : gw_Go y d bc bs pc lv (.ref o :: st) (n, sh, X, R, I, L) Q :=
  go_get hd hf ho (fun K => by rw [gw_kd3 hf.2.2.2.1]; rfl) kk
theorem go_getL {idx ci k o : Nat} {fin : Bool} (hd : decode y.2.1 pc = .ok (.getfield idx, 3)) (hf : gw_F y.1.cls idx ci k 1 fin) (ho : sh o = (0, ci)) (kk : gw_Go y d bc bs (pc + 3) lv (.long (L o k) :: st) (n, sh, X, R, I, L) Q) : gw_Go y d bc bs pc lv (.ref o :: st) (n, sh, X, R, I, L) Q :=
  go_get hd hf ho (fun K => by rw [gw_kd1 hf.2.2.2.1]; rfl) kk
theorem go_getR {idx ci k o q : Nat} {fin : Bool} (hd : decode y.2.1 pc = .ok (.getfield idx, 3)) (hf : gw_F y.1.cls idx ci k 2 fin) (ho : sh o = (0, ci)) (hr : R o k = some q) (kk : gw_Go y d bc bs (pc + 3) lv (.ref q :: st) (n, sh, X, R, I, L) Q) : gw_Go y d bc bs pc lv (.ref o :: st) (n, sh, X, R, I, L) Q :=
  go_get hd hf ho (fun K => by rcases gw_kd2 hf.2.2.2.1 with ⟨z, hz⟩ | ⟨z, hz⟩ <;> (rw [hz, hr]; rfl)) kk
theorem go_put {idx ci k kd o : Nat} {v : Value} {R' : Nat → Option Nat} {I' : Nat → Int32} {L' : Nat → Int64} (hd : decode y.2.1 pc = .ok (.putfield idx, 3)) (hf : gw_F y.1.cls idx ci k kd false) (ho : sh o = (0, ci)) (hv : ∀ K : gw_K, gw_fv K (gw_ty ci k) (R' k) (I' k) (L' k) = gw_mv K v) (hj : ∀ j, j ≠ k → R' j = R o j ∧ I' j = I o j ∧ L' j = L o j) (hn : ∀ K : gw_K, narrow (gw_ty ci k) (gw_mv K v) = gw_mv K v) (hfit : ∀ K : gw_K, fits (gw_ty ci k) (gw_mv K v) = true)
    (kk : gw_Go y d bc bs (pc + 3) lv st (n, sh, X, va_up R o R', va_up I o I', va_up L o L') Q) : gw_Go y d bc bs pc lv (v :: .ref o :: st) (n, sh, X, R, I, L) Q := by
  intro K p l e R0 s m args below meth c H locs cells slots Z ls hC hD h1 h2 hL hF
  obtain ⟨⟨f1, f2, f3, f4, f5⟩, f6, f7, f8, f9⟩ := hf
  have hlt : o < n := hD.2.2.2.lt ho
  have ea : gw_ad K o = K.1 + o := gw_ad_in (M := (n, sh, X, R, I, L)) hD.2.2.2 hlt
  show W p l e R0 s m args below meth c H locs cells slots Z (F0 m pc ls (gw_mv K v :: .ref (gw_ad K o) :: st.map (gw_mv K)))
  rw [ea]
  refine va_put (D := K.2.1) (ty := gw_ty ci k) hC.1 hC.2.1 hC.2.2.2.2.1 f3 (gw_ty ci) f4 f5 hC.2.2.2.1 hC.2.2.2.2.2.2.1.1 hD.1 gw_apart hD.2.1 o (by rw [gw_ws_at hlt, gw_at_obj ho]) f1 k f6 (hC.2.2.2.2.1 _ f7) (fun x h => h) f9 (f4 k f6) (hn K) (hfit K) (by rw [gw_fs_len, ← f2]; exact f6) hd (fun H1 locs1 hP hD' hS => ?_)
  refine kk K p l e R0 s m args below meth c H1 locs1 cells slots Z ls hC (hD.set (o := o) hlt rfl rfl ?_ ?_ hP hS) h1 h2 hL hF
  · rw [gw_at_obj ho, gw_fs_set (hv K) hj, gw_up_eq, gw_up_eq, gw_up_eq]
  · intro j hjo
    unfold gw_at
    dsimp only
    rw [gw_up_ne hjo, gw_up_ne hjo, gw_up_ne hjo]
/-- a final field of the constructor's own object -/
theorem go_putF {idx ci k kd o : Nat} {v : Value} {R' : Nat → Option Nat} {I' : Nat → Int32} {L' : Nat → Int64} (hd : decode y.2.1 pc = .ok (.putfield idx, 3)) (hf : gw_F y.1.cls idx ci k kd true) (hi : y.1.name = "<init>") (hdc : ((gw_c ci).2.1 k).1 = y.1.cls) (ho : sh o = (0, ci)) (hv : ∀ K : gw_K, gw_fv K (gw_ty ci k) (R' k) (I' k) (L' k) = gw_mv K v) (hj : ∀ j, j ≠ k → R' j = R o j ∧ I' j = I o j ∧ L' j = L o j) (hn : ∀ K : gw_K, narrow (gw_ty ci k) (gw_mv K v) = gw_mv K v) (hfit : ∀ K : gw_K, fits (gw_ty ci k) (gw_mv K v) = true)
    (kk : gw_Go y d bc bs (pc + 3) lv st (n, sh, X, va_up R o R', va_up I o I', va_up L o L') Q) : gw_Go y d bc bs pc lv (v :: .ref o :: st) (n, sh, X, R, I, L) Q := by
  intro K p l e R0 s m args below meth c H locs cells slots Z ls hC hD h1 h2 hL hF
  obtain ⟨⟨f1, f2, f3, f4, f5⟩, f6, f7, f8, f9⟩ := hf
  have hlt : o < n := hD.2.2.2.lt ho
  have ea : gw_ad K o = K.1 + o := gw_ad_in (M := (n, sh, X, R, I, L)) hD.2.2.2 hlt
  show W p l e R0 s m args below meth c H locs cells slots Z (F0 m pc ls (gw_mv K v :: .ref (gw_ad K o) :: st.map (gw_mv K)))
  rw [ea]
  refine va_putF (D := K.2.1) (ty := gw_ty ci k) hC.1 hC.2.1 hC.2.2.2.2.1 f3 (gw_ty ci) f4 f5 hC.2.2.2.1 hC.2.2.2.2.2.2.1.1 hD.1 gw_apart hD.2.1 o (by rw [gw_ws_at hlt, gw_at_obj ho]) f1 k f6 (hC.2.2.2.2.1 _ f7) (fun x h => h) f9 (hC.2.2.2.2.2.1.trans hi) hdc (f4 k f6) (hn K) (hfit K) (by rw [gw_fs_len, ← f2]; exact f6) hd (fun H1 locs1 hP hD' hS => ?_)
  refine kk K p l e R0 s m args below meth c H1 locs1 cells slots Z ls hC (hD.set (o := o) hlt rfl rfl ?_ ?_ hP hS) h1 h2 hL hF
  · rw [gw_at_obj ho, gw_fs_set (hv K) hj, gw_up_eq, gw_up_eq, gw_up_eq]
  · intro j hjo
    unfold gw_at
    dsimp only
    rw [gw_up_ne hjo, gw_up_ne hjo, gw_up_ne hjo]
theorem gw_up_self {α : Type} (f : Nat → α) (o : Nat) : va_up f o (f o) = f := by
  funext j
  by_cases h : j = o
  · subst h; exact gw_up_eq
  · exact gw_up_ne h
theorem go_putI {idx ci k o : Nat} {v : Int32} (hd : decode y.2.1 pc = .ok (.putfield idx, 3)) (hf : gw_F y.1.cls idx ci k 0 false) (ho : sh o = (0, ci)) (kk : gw_Go y d bc bs (pc + 3) lv st (n, sh, X, R, va_up I o (va_up (I o) k v), L) Q) : gw_Go y d bc bs pc lv (.int v :: .ref o :: st) (n, sh, X, R, I, L) Q := by
  have ht := gw_kd0 hf.2.2.2.1
  refine go_put (R' := R o) (I' := va_up (I o) k v) (L' := L o) hd hf ho (fun K => by rw [ht, gw_up_eq]; rfl) (fun j hj => ⟨rfl, gw_up_ne hj, rfl⟩) (fun K => by rw [ht]; rfl) (fun K => by rw [ht]; rfl) ?_
  rw [gw_up_self, gw_up_self]
  exact kk
theorem go_putFI {idx ci k o : Nat} {v : Int32} (hd : decode y.2.1 pc = .ok (.putfield idx, 3)) (hf : gw_F y.1.cls idx ci k 0 true) (hi : y.1.name = "<init>") (hdc : ((gw_c ci).2.1 k).1 = y.1.cls) (ho : sh o = (0, ci)) (kk : gw_Go y d bc bs (pc + 3) lv st (n, sh, X, R, va_up I o (va_up (I o) k v), L) Q) : gw_Go y d bc bs pc lv (.int v :: .ref o :: st) (n, sh, X, R, I, L) Q := by
  have ht := gw_kd0 hf.2.2.2.1
  refine go_putF (R' := R o) (I' := va_up (I o) k v) (L' := L o) hd hf hi hdc ho (fun K => by rw [ht, gw_up_eq]; rfl) (fun j hj => ⟨rfl, gw_up_ne hj, rfl⟩) (fun K => by rw [ht]; rfl) (fun K => by rw [ht]; rfl) ?_
  rw [gw_up_self, gw_up_self]
  exact kk
theorem go_putZ {idx ci k o : Nat} {v : Int32} (hd : decode y.2.1 pc = .ok (.putfield idx, 3)) (hf : gw_F y.1.cls idx ci k 3 false) (ho : sh o = (0, ci)) (hb : v = 0 ∨ v = 1) (kk : gw_Go y d bc bs (pc + 3) lv st (n, sh, X, R, va_up I o (va_up (I o) k v), L) Q) : gw_Go y d bc bs pc lv (.int v :: .ref o :: st) (n, sh, X, R, I, L) Q := by
  have ht := gw_kd3 hf.2.2.2.1
  refine go_put (R' := R o) (I' := va_up (I o) k v) (L' := L o) hd hf ho (fun K => by rw [ht, gw_up_eq]; rfl) (fun j hj => ⟨rfl, gw_up_ne hj, rfl⟩) (fun K => by rw [ht]; rcases hb with rfl | rfl <;> rfl) (fun K => by rw [ht]; rcases hb with rfl | rfl <;> rfl) ?_
  rw [gw_up_self, gw_up_self]
  exact kk
theorem go_putL {idx ci k o : Nat} {v : Int64} (hd : decode y.2.1 pc = .ok (.putfield idx, 3)) (hf : gw_F y.1.cls idx ci k 1 false) (ho : sh o = (0, ci)) (kk : gw_Go y d bc bs (pc + 3) lv st (n, sh, X, R, I, va_up L o (va_up (L o) k v)) Q) : gw_Go y d bc bs pc lv (.long v :: .ref o :: st) (n, sh, X, R, I, L) Q := by
  have ht := gw_kd1 hf.2.2.2.1
  refine go_put (R' := R o) (I' := I o) (L' := va_up (L o) k v) hd hf ho (fun K => by rw [ht, gw_up_eq]; rfl) (fun j hj => ⟨rfl, rfl, gw_up_ne hj⟩) (fun K => by rw [ht]; rfl) (fun K => by rw [ht]; rfl) ?_
  rw [gw_up_self, gw_up_self]
  exact kk
theorem go_putR {idx ci k o q : Nat} (hd : decode y.2.1 pc = .ok (.putfield idx, 3)) (hf : gw_F y.1.cls idx ci k 2 false) (ho : sh o = (0, ci)) (kk : gw_Go y d bc bs (pc + 3) lv st (n, sh, X, va_up R o (va_up (R o) k (some q)), I, L) Q) : gw_Go y d bc bs pc lv (.ref q :: .ref o :: st) (n, sh, X, R, I, L) Q := by
  have ht := gw_kd2 hf.2.2.2.1
  refine go_put (R' := va_up (R o) k (some q)) (I' := I o) (L' := L o) hd hf ho (fun K => by rw [gw_up_eq]; rcases ht with ⟨z, hz⟩ | ⟨z, hz⟩ <;> (rw [hz]; rfl)) (fun j hj => ⟨gw_up_ne hj, rfl, rfl⟩) (fun K => by rcases ht with ⟨z, hz⟩ | ⟨z, hz⟩ <;> (rw [hz]; rfl)) (fun K => by rcases ht with ⟨z, hz⟩ | ⟨z, hz⟩ <;> (rw [hz]; rfl)) ?_
  rw [gw_up_self, gw_up_self]
  exact kk
theorem go_putFR {idx ci k o q : Nat} (hd : decode y.2.1 pc = .ok (.putfield idx, 3)) (hf : gw_F y.1.cls idx ci k 2 true) (hi : y.1.name = "<init>") (hdc : ((gw_c ci).2.1 k).1 = y.1.cls) (ho : sh o = (0, ci)) (kk : gw_Go y d bc bs (pc + 3) lv st (n, sh, X, va_up R o (va_up (R o) k (some q)), I, L) Q) : gw_Go y d bc bs pc lv (.ref q :: .ref o :: st) (n, sh, X, R, I, L) Q := by
  have ht := gw_kd2 hf.2.2.2.1
  refine go_putF (R' := va_up (R o) k (some q)) (I' := I o) (L' := L o) hd hf hi hdc ho (fun K => by rw [gw_up_eq]; rcases ht with ⟨z, hz⟩ | ⟨z, hz⟩ <;> (rw [hz]; rfl)) (fun j hj => ⟨gw_up_ne hj, rfl, rfl⟩) (fun K => by rcases ht with ⟨z, hz⟩ | ⟨z, hz⟩ <;> (rw [hz]; rfl)) (fun K => by rcases ht with ⟨z, hz⟩ | ⟨z, hz⟩ <;> (rw [hz]; rfl)) ?_
  rw [gw_up_self, gw_up_self]
  exact kk
/-! arrays -/
theorem go_iald {o len : Nat} {i : Int32} (j : Nat) (hd : decode y.2.1 pc = .ok (.iaload, 1)) (ho : sh o = (1, len)) (hi : i = nI j) (hj : j < len) (hl : len < 2 ^ 31) (kk : gw_Go y d bc bs (pc + 1) lv (.int (I o j) :: st) (n, sh, X, R, I, L) Q) : gw_Go y d bc bs pc lv (.int i :: .ref o :: st) (n, sh, X, R, I, L) Q := by
  intro K p l e R' s m args below meth c H locs cells slots Z ls hC hD h1 h2 hL hF
  have hlt : o < n := hD.2.2.2.lt ho
  have ea : gw_ad K o = K.1 + o := gw_ad_in (M := (n, sh, X, R, I, L)) hD.2.2.2 hlt
  show W p l e R' s m args below meth c H locs cells slots Z (F0 m pc ls (.int i :: .ref (gw_ad K o) :: st.map (gw_mv K)))
  rw [ea]
  have hc : i.toNatClampNeg = j := by rw [hi]; exact nI_clamp (by omega)
  refine va_iald (D := K.2.1) hC.1 hC.2.1 hC.2.2.2.2.2.2.1.1 hD.1 o 1 (by rw [gw_ws_at hlt, gw_at_int ho]) (gw_tys_at (by decide)) (by rw [hi]; exact vp_in_nI hj hl) hd ?_
  rw [hc]
  exact kk K p l e R' s m args below meth c H locs cells slots Z ls hC hD h1 h2 hL hF
theorem go_lald {o len : Nat} {i : Int32} (j : Nat) (hd : decode y.2.1 pc = .ok (.laload, 1)) (ho : sh o = (2, len)) (hi : i = nI j) (hj : j < len) (hl : len < 2 ^ 31) (kk : gw_Go y d bc bs (pc + 1) lv (.long (L o j) :: st) (n, sh, X, R, I, L) Q) : gw_Go y d bc bs pc lv (.int i :: .ref o :: st) (n, sh, X, R, I, L) Q := by
  intro K p l e R' s m args below meth c H locs cells slots Z ls hC hD h1 h2 hL hF
  have hlt : o < n := hD.2.2.2.lt ho
  have ea : gw_ad K o = K.1 + o := gw_ad_in (M := (n, sh, X, R, I, L)) hD.2.2.2 hlt
  show W p l e R' s m args below meth c H locs cells slots Z (F0 m pc ls (.int i :: .ref (gw_ad K o) :: st.map (gw_mv K)))
  rw [ea]
  have hc : i.toNatClampNeg = j := by rw [hi]; exact nI_clamp (by omega)
  refine va_lald (D := K.2.1) hC.1 hC.2.1 hC.2.2.2.2.2.2.1.1 hD.1 o 2 (by rw [gw_ws_at hlt, gw_at_long ho]) (gw_tys_at (by decide)) (by rw [hi]; exact vp_in_nI hj hl) hd ?_
  rw [hc]
  exact kk K p l e R' s m args below meth c H locs cells slots Z ls hC hD h1 h2 hL hF
theorem go_zald {o len : Nat} {i : Int32} (j : Nat) (hd : decode y.2.1 pc = .ok (.baload, 1)) (ho : sh o = (3, len)) (hi : i = nI j) (hj : j < len) (hl : len < 2 ^ 31) (kk : gw_Go y d bc bs (pc + 1) lv (.int (I o j) :: st) (n, sh, X, R, I, L) Q) : gw_Go y d bc bs pc lv (.int i :: .ref o :: st) (n, sh, X, R, I, L) Q := by
  intro K p l e R' s m args below meth c H locs cells slots Z ls hC hD h1 h2 hL hF
  have hlt : o < n := hD.2.2.2.lt ho
  have ea : gw_ad K o = K.1 + o := gw_ad_in (M := (n, sh, X, R, I, L)) hD.2.2.2 hlt
  show W p l e R' s m args below meth c H locs cells slots Z (F0 m pc ls (.int i :: .ref (gw_ad K o) :: st.map (gw_mv K)))
  rw [ea]
  have hc : i.toNatClampNeg = j := by rw [hi]; exact nI_clamp (by omega)
  refine va_zald (D := K.2.1) hC.1 hC.2.1 hC.2.2.2.2.2.2.1.1 hD.1 o 3 (by rw [gw_ws_at hlt, gw_at_bool ho]) (gw_tys_at (by decide)) (by rw [hi]; exact vp_in_nI hj hl) hd ?_
  rw [hc]
  exact kk K p l e R' s m args below meth c H locs cells slots Z ls hC hD h1 h2 hL hF
theorem go_aald {o len t q : Nat} {i : Int32} (j : Nat) (hd : decode y.2.1 pc = .ok (.aaload, 1)) (ho : sh o = (t + 4, len)) (ht : t + 4 < gw_NK) (hi : i = nI j) (hj : j < len) (hl : len < 2 ^ 31) (hr : R o j = some q) (kk : gw_Go y d bc bs (pc + 1) lv (.ref q :: st) (n, sh, X, R, I, L) Q) : gw_Go y d bc bs pc lv (.int i :: .ref o :: st) (n, sh, X, R, I, L) Q := by
  intro K p l e R' s m args below meth c H locs cells slots Z ls hC hD h1 h2 hL hF
  have hlt : o < n := hD.2.2.2.lt ho (by unfold gw_NK at ht; omega)
  have ea : gw_ad K o = K.1 + o := gw_ad_in (M := (n, sh, X, R, I, L)) hD.2.2.2 hlt
  show W p l e R' s m args below meth c H locs cells slots Z (F0 m pc ls (.int i :: .ref (gw_ad K o) :: st.map (gw_mv K)))
  rw [ea]
  have hc : i.toNatClampNeg = j := by rw [hi]; exact nI_clamp (by omega)
  obtain ⟨C, hC9⟩ := gw_kt_obj t ht
  refine va_aldq (D := K.2.1) (C := C) hC.1 hC.2.1 hC.2.2.2.2.2.2.1.1 hD.1 o (t + 4) (by rw [gw_ws_at hlt, gw_at_ref ho]) (by rw [gw_tys_at ht, hC9]) (by rw [hi]; exact vp_in_nI hj hl) hd ?_
  rw [hc, hr]
  exact kk K p l e R' s m args below meth c H locs cells slots Z ls hC hD h1 h2 hL hF
theorem go_iast {o len : Nat} {i x : Int32} (j : Nat) (hd : decode y.2.1 pc = .ok (.iastore, 1)) (ho : sh o = (1, len)) (hi : i = nI j) (hj : j < len) (hl : len < 2 ^ 31) (kk : gw_Go y d bc bs (pc + 1) lv st (n, sh, X, R, va_up I o (va_up (I o) j x), L) Q) : gw_Go y d bc bs pc lv (.int x :: .int i :: .ref o :: st) (n, sh, X, R, I, L) Q := by
  intro K p l e R' s m args below meth c H locs cells slots Z ls hC hD h1 h2 hL hF
  have hlt : o < n := hD.2.2.2.lt ho
  have ea : gw_ad K o = K.1 + o := gw_ad_in (M := (n, sh, X, R, I, L)) hD.2.2.2 hlt
  show W p l e R' s m args below meth c H locs cells slots Z (F0 m pc ls (.int x :: .int i :: .ref (gw_ad K o) :: st.map (gw_mv K)))
  rw [ea]
  have hc : i.toNatClampNeg = j := by rw [hi]; exact nI_clamp (by omega)
  refine va_iast (D := K.2.1) hC.1 hC.2.1 hC.2.2.2.2.2.2.1.1 hD.1 gw_apart hD.2.1 o 1 (by rw [gw_ws_at hlt, gw_at_int ho]) (gw_tys_at (by decide)) (by rw [hi]; exact vp_in_nI hj hl) hd (fun H1 locs1 hP hD' hS => ?_)
  rw [hc] at hP
  refine kk K p l e R' s m args below meth c H1 locs1 cells slots Z ls hC (hD.set (o := o) hlt rfl rfl ?_ ?_ hP hS) h1 h2 hL hF
  · rw [gw_at_int ho, gw_up_eq]; rfl
  · intro j hjo
    unfold gw_at
    dsimp only
    rw [gw_up_ne hjo]
theorem go_last {o len : Nat} {i : Int32} {x : Int64} (j : Nat) (hd : decode y.2.1 pc = .ok (.lastore, 1)) (ho : sh o = (2, len)) (hi : i = nI j) (hj : j < len) (hl : len < 2 ^ 31) (kk : gw_Go y d bc bs (pc + 1) lv st (n, sh, X, R, I, va_up L o (va_up (L o) j x)) Q) : gw_Go y d bc bs pc lv (.long x :: .int i :: .ref o :: st) (n, sh, X, R, I, L) Q := by
  intro K p l e R' s m args below meth c H locs cells slots Z ls hC hD h1 h2 hL hF
  have hlt : o < n := hD.2.2.2.lt ho
  have ea : gw_ad K o = K.1 + o := gw_ad_in (M := (n, sh, X, R, I, L)) hD.2.2.2 hlt
  show W p l e R' s m args below meth c H locs cells slots Z (F0 m pc ls (.long x :: .int i :: .ref (gw_ad K o) :: st.map (gw_mv K)))
  rw [ea]
  have hc : i.toNatClampNeg = j := by rw [hi]; exact nI_clamp (by omega)
  refine va_last (D := K.2.1) hC.1 hC.2.1 hC.2.2.2.2.2.2.1.1 hD.1 gw_apart hD.2.1 o 2 (by rw [gw_ws_at hlt, gw_at_long ho]) (gw_tys_at (by decide)) (by rw [hi]; exact vp_in_nI hj hl) hd (fun H1 locs1 hP hD' hS => ?_)
  rw [hc] at hP
  refine kk K p l e R' s m args below meth c H1 locs1 cells slots Z ls hC (hD.set (o := o) hlt rfl rfl ?_ ?_ hP hS) h1 h2 hL hF
  · rw [gw_at_long ho, gw_up_eq]; rfl
  · intro j hjo
    unfold gw_at
    dsimp only
    rw [gw_up_ne hjo]
theorem go_zast {o len : Nat} {i x : Int32} (j : Nat) (hd : decode y.2.1 pc = .ok (.bastore, 1)) (ho : sh o = (3, len)) (hi : i = nI j) (hj : j < len) (hl : len < 2 ^ 31) (hb : x = 0 ∨ x = 1) (kk : gw_Go y d bc bs (pc + 1) lv st (n, sh, X, R, va_up I o (va_up (I o) j x), L) Q) : gw_Go y d bc bs pc lv (.int x :: .int i :: .ref o :: st) (n, sh, X, R, I, L) Q := by
  intro K p l e R' s m args below meth c H locs cells slots Z ls hC hD h1 h2 hL hF
  have hlt : o < n := hD.2.2.2.lt ho
  have ea : gw_ad K o = K.1 + o := gw_ad_in (M := (n, sh, X, R, I, L)) hD.2.2.2 hlt
  show W p l e R' s m args below meth c H locs cells slots Z (F0 m pc ls (.int x :: .int i :: .ref (gw_ad K o) :: st.map (gw_mv K)))
  rw [ea]
  have hc : i.toNatClampNeg = j := by rw [hi]; exact nI_clamp (by omega)
  have hx : vp_nar .boolean x = x := by rcases hb with rfl | rfl <;> rfl
  refine va_zast (D := K.2.1) hC.1 hC.2.1 hC.2.2.2.2.2.2.1.1 hD.1 gw_apart hD.2.1 o 3 (by rw [gw_ws_at hlt, gw_at_bool ho]) (gw_tys_at (by decide)) (by rw [hi]; exact vp_in_nI hj hl) hd (fun H1 locs1 hP hD' hS => ?_)
  rw [hc, hx] at hP
  refine kk K p l e R' s m args below meth c H1 locs1 cells slots Z ls hC (hD.set (o := o) hlt rfl rfl ?_ ?_ hP hS) h1 h2 hL hF
  · rw [gw_at_bool ho, gw_up_eq]; rfl
  · intro j hjo
    unfold gw_at
    dsimp only
    rw [gw_up_ne hjo]
theorem go_aast {o len t ci q : Nat} {i : Int32} (j : Nat) (hd : decode y.2.1 pc = .ok (.aastore, 1)) (ho : sh o = (t + 4, len)) (ht : t + 4 < gw_NK) (hk : gw_kt (t + 4) = .object (gw_c ci).1) (hci : gw_cl[ci]? = some (gw_c ci)) (hq : sh q = (0, ci)) (hi : i = nI j) (hj : j < len) (hl : len < 2 ^ 31) (kk : gw_Go y d bc bs (pc + 1) lv st (n, sh, X, va_up R o (va_up (R o) j (some q)), I, L) Q) : gw_Go y d bc bs pc lv (.ref q :: .int i :: .ref o :: st) (n, sh, X, R, I, L) Q := by
  intro K p l e R' s m args below meth c H locs cells slots Z ls hC hD h1 h2 hL hF
  have hlt : o < n := hD.2.2.2.lt ho (by unfold gw_NK at ht; omega)
  have hlq : q < n := hD.2.2.2.lt hq
  have ea : gw_ad K o = K.1 + o := gw_ad_in (M := (n, sh, X, R, I, L)) hD.2.2.2 hlt
  have eq : gw_ad K q = K.1 + q := gw_ad_in (M := (n, sh, X, R, I, L)) hD.2.2.2 hlq
  show W p l e R' s m args below meth c H locs cells slots Z (F0 m pc ls (.ref (gw_ad K q) :: .int i :: .ref (gw_ad K o) :: st.map (gw_mv K)))
  rw [ea]
  have hc : i.toNatClampNeg = j := by rw [hi]; exact nI_clamp (by omega)
  refine va_astq (D := K.2.1) (r := gw_c ci) hC.1 hC.2.1 hC.2.2.2.2.2.2.1.1 hD.1 gw_apart hD.2.1 o (t + 4) q ci (by rw [gw_ws_at hlt, gw_at_ref ho]) (by rw [gw_tys_at ht, hk]) (by rw [gw_ws_at hlq, gw_at_obj hq, eq]) hci (by rw [hi]; exact vp_in_nI hj hl) hd (fun H1 locs1 hP hD' hS => ?_)
  rw [hc] at hP
  refine kk K p l e R' s m args below meth c H1 locs1 cells slots Z ls hC (hD.set (o := o) hlt rfl rfl ?_ ?_ hP hS) h1 h2 hL hF
  · rw [gw_at_ref ho, gw_up_eq]
    congr 7
    funext z
    by_cases hz : z = j
    · subst hz; rw [gw_up_eq, gw_up_eq]; rfl
    · rw [gw_up_ne hz, gw_up_ne hz]
  · intro j hjo
    unfold gw_at
    dsimp only
    rw [gw_up_ne hjo]
/-! the script, the class's tables -/
theorem go_sld {i : Int32} (j : Nat) (hd : decode y.2.1 pc = .ok (.iaload, 1)) (hi : i = nI j) (hj : j < X.1) (hl : X.1 < 2 ^ 31) (kk : gw_Go y d bc bs (pc + 1) lv (.int (X.2 j) :: st) (n, sh, X, R, I, L) Q) : gw_Go y d bc bs pc lv (.int i :: .ref 1048576 :: st) (n, sh, X, R, I, L) Q := by
  intro K p l e R' s m args below meth c H locs cells slots Z ls hC hD h1 h2 hL hF
  have hE := hC.2.2.2.2.2.2.2.1
  have hc : i.toNatClampNeg = j := by rw [hi]; exact nI_clamp (by omega)
  refine va_sld (b := K.2.2.2.1) hC.1 hC.2.1 hE.1 (Nat.lt_of_lt_of_le hE.2.1 hE.2.2.1) (Nat.not_le.mpr hE.2.1) hD.2.1 (by rw [hi]; exact vp_in_nI hj hl) hd ?_
  rw [hc]
  exact kk K p l e R' s m args below meth c H locs cells slots Z ls hC hD h1 h2 hL hF
theorem go_slen (hd : decode y.2.1 pc = .ok (.arraylength, 1)) (kk : gw_Go y d bc bs (pc + 1) lv (.int (nI X.1) :: st) (n, sh, X, R, I, L) Q) : gw_Go y d bc bs pc lv (.ref 1048576 :: st) (n, sh, X, R, I, L) Q := by
  intro K p l e R' s m args below meth c H locs cells slots Z ls hC hD h1 h2 hL hF
  have hE := hC.2.2.2.2.2.2.2.1
  exact va_slen (b := K.2.2.2.1) hC.1 hC.2.1 hE.1 (Nat.lt_of_lt_of_le hE.2.1 hE.2.2.1) (Nat.not_le.mpr hE.2.1) hD.2.1 hd (kk K p l e R' s m args below meth c H locs cells slots Z ls hC hD h1 h2 hL hF)
theorem go_getT {idx : Nat} (hd : decode y.2.1 pc = .ok (.getstatic idx, 3)) (hw : Cond.fieldLink y.1.cls idx gw_tC gw_tN "[I" ∈ gw_all) (kk : gw_Go y d bc bs (pc + 3) lv (.ref 1048577 :: st) (n, sh, X, R, I, L) Q) : gw_Go y d bc bs pc lv st (n, sh, X, R, I, L) Q := by
  intro K p l e R' s m args below meth c H locs cells slots Z ls hC hD h1 h2 hL hF
  have hE := hC.2.2.2.2.2.2.2.1
  exact va_gets hC.1 hC.2.1 hE.2.2.2.2.2.1 hD.2.1 hC.2.2.2.1 (hC.2.2.2.2.1 _ hw) (fun x h => h) hd (kk K p l e R' s m args below meth c H locs cells slots Z ls hC hD h1 h2 hL hF)
theorem go_getP {idx : Nat} (hd : decode y.2.1 pc = .ok (.getstatic idx, 3)) (hw : Cond.fieldLink y.1.cls idx gw_tC gw_pN "[I" ∈ gw_all) (kk : gw_Go y d bc bs (pc + 3) lv (.ref 1048578 :: st) (n, sh, X, R, I, L) Q) : gw_Go y d bc bs pc lv st (n, sh, X, R, I, L) Q := by
  intro K p l e R' s m args below meth c H locs cells slots Z ls hC hD h1 h2 hL hF
  have hE := hC.2.2.2.2.2.2.2.1
  exact va_gets hC.1 hC.2.1 hE.2.2.2.2.2.2 hD.2.1 hC.2.2.2.1 (hC.2.2.2.2.1 _ hw) (fun x h => h) hd (kk K p l e R' s m args below meth c H locs cells slots Z ls hC hD h1 h2 hL hF)
theorem go_tld {i : Int32} (j : Nat) (hd : decode y.2.1 pc = .ok (.iaload, 1)) (hi : i = nI j) (hj : j < 15) (kk : gw_Go y d bc bs (pc + 1) lv (.int (gw_tk j) :: st) (n, sh, X, R, I, L) Q) : gw_Go y d bc bs pc lv (.int i :: .ref 1048577 :: st) (n, sh, X, R, I, L) Q := by
  intro K p l e R' s m args below meth c H locs cells slots Z ls hC hD h1 h2 hL hF
  have hE := hC.2.2.2.2.2.2.2.1
  have hc : i.toNatClampNeg = j := by rw [hi]; exact nI_clamp (by omega)
  exact va_ti (v := .int (gw_tk j)) hC.1 hC.2.1 hE.2.2.2.1 hD.2.1 (by rw [hi]; exact vp_in_nI hj (by decide)) (by rw [hc]) hd (kk K p l e R' s m args below meth c H locs cells slots Z ls hC hD h1 h2 hL hF)
theorem go_pld {i : Int32} (j : Nat) (hd : decode y.2.1 pc = .ok (.iaload, 1)) (hi : i = nI j) (hj : j < 15) (kk : gw_Go y d bc bs (pc + 1) lv (.int (gw_pt j) :: st) (n, sh, X, R, I, L) Q) : gw_Go y d bc bs pc lv (.int i :: .ref 1048578 :: st) (n, sh, X, R, I, L) Q := by
  intro K p l e R' s m args below meth c H locs cells slots Z ls hC hD h1 h2 hL hF
  have hE := hC.2.2.2.2.2.2.2.1
  have hc : i.toNatClampNeg = j := by rw [hi]; exact nI_clamp (by omega)
  exact va_ti (v := .int (gw_pt j)) hC.1 hC.2.1 hE.2.2.2.2.1 hD.2.1 (by rw [hi]; exact vp_in_nI hj (by decide)) (by rw [hc]) hd (kk K p l e R' s m args below meth c H locs cells slots Z ls hC hD h1 h2 hL hF)
end GM
