/-! THE PURE MACHINE, laid over the kit's W: a memory by functions, values whose references are numbers of cells, locals by a list. gw_Go: from here a return is reached; gw_Call: a method's contract. -/
/-- how many cells; the shapes (0: object of class; 1, 2, 3: array of int, long, boolean; 4 + j: array of references to class gw_rc j), the script (length, values), references, ints, longs -/
abbrev gw_Mem : Type := Nat × (Nat → Nat × Nat) × (Nat × (Nat → Int32)) × (Nat → Nat → Option Nat) × (Nat → Nat → Int32) × (Nat → Nat → Int64)
/-- what is fixed of a run: the first address, the classes' ids and slots, the array classes' ids, the addresses of the script and of the two tables -/
abbrev gw_K : Type := Nat × va_G × (Nat → ClassId) × Nat × Nat × Nat
def gw_ad (K : gw_K) (i : Nat) : Nat := if i < 1048576 then K.1 + i else if i = 1048576 then K.2.2.2.1 else if i = 1048577 then K.2.2.2.2.1 else K.2.2.2.2.2
def gw_mv (K : gw_K) : Value → Value
  | .ref i => .ref (gw_ad K i)
  | .int v => .int v
  | .long v => .long v
  | .float v => .float v
  | .double v => .double v
  | .null => .null
  | .retAddr q => .retAddr q
theorem gw_mv_cat (K : gw_K) (v : Value) : (gw_mv K v).category = v.category := by cases v <;> rfl
theorem gw_mv_sum (K : gw_K) (st : List Value) : ((st.map (gw_mv K)).map fun v => v.category).sum = (st.map fun v => v.category).sum := by
  rw [List.map_map]
  congr 1
  apply List.map_congr_left
  intro v _
  exact gw_mv_cat K v
def gw_rv : Option Nat → Value
  | none => .null
  | some o => .ref o
theorem gw_mv_rv (K : gw_K) (r : Option Nat) : gw_mv K (gw_rv r) = va_rf (r.map (gw_ad K)) := by cases r <;> rfl
def gw_fv (K : gw_K) (t : FieldType) (r : Option Nat) (x : Int32) (z : Int64) : Value := match t with
  | .long => .long z
  | .object _ => va_rf (r.map (gw_ad K))
  | .array _ => va_rf (r.map (gw_ad K))
  | _ => .int x
def gw_fs (K : gw_K) (ci : Nat) (r : Nat → Option Nat) (f : Nat → Int32) (g : Nat → Int64) : List Value := (List.range (gw_N ci)).map (fun k => gw_fv K (gw_ty ci k) (r k) (f k) (g k))
def gw_cell (K : gw_K) (q : Nat × Nat) (r : Nat → Option Nat) (f : Nat → Int32) (g : Nat → Int64) : va_E := match q.1 with
  | 0 => .inr (q.2, gw_fs K q.2 r f g)
  | 1 => .inl (K.2.2.1 1, q.2, .inl f)
  | 2 => .inl (K.2.2.1 2, q.2, .inr (.inl g))
  | 3 => .inl (K.2.2.1 3, q.2, .inl f)
  | k + 4 => .inl (K.2.2.1 (k + 4), q.2, .inr (.inr (.inr (.inr (fun j => (r j).map (gw_ad K))))))
def gw_at (K : gw_K) (M : gw_Mem) (i : Nat) : va_E := gw_cell K (M.2.1 i) (M.2.2.2.1 i) (M.2.2.2.2.1 i) (M.2.2.2.2.2 i)
def gw_ws (K : gw_K) (M : gw_Mem) : va_W := (List.range M.1).map (fun i => (K.1 + i, gw_at K M i))
theorem gw_ws_at {K : gw_K} {M : gw_Mem} {i : Nat} (h : i < M.1) : (gw_ws K M)[i]? = some (K.1 + i, gw_at K M i) := by
  unfold gw_ws
  rw [List.getElem?_map, List.getElem?_range h]
  rfl
theorem gw_ws_of {K : gw_K} {M : gw_Mem} {i : Nat} {q : Nat × va_E} (h : (gw_ws K M)[i]? = some q) : i < M.1 ∧ q = (K.1 + i, gw_at K M i) := by
  have hl : i < M.1 := by
    have := (List.getElem?_eq_some_iff.mp h).1
    simpa [gw_ws] using this
  rw [gw_ws_at hl] at h
  exact ⟨hl, (Option.some.inj h).symm⟩
theorem gw_ws_upd {K : gw_K} {M M' : gw_Mem} {i : Nat} {c : va_E} (hn : M'.1 = M.1) (hi : i < M.1) (hc : gw_at K M' i = c) (ho : ∀ j, j ≠ i → gw_at K M' j = gw_at K M j) : (gw_ws K M).set i (K.1 + i, c) = gw_ws K M' := by
  apply List.ext_getElem?
  intro j
  by_cases hj : j = i
  · subst hj
    rw [List.getElem?_set_self (by simpa [gw_ws] using hi), gw_ws_at (by rw [hn]; exact hi), hc]
  · rw [List.getElem?_set_ne (Ne.symm hj)]
    by_cases hl : j < M.1
    · rw [gw_ws_at hl, gw_ws_at (by rw [hn]; exact hl), ho j hj]
    · rw [List.getElem?_eq_none (by simpa [gw_ws] using hl), List.getElem?_eq_none (by simp [gw_ws, hn]; omega)]
theorem gw_ws_push {K : gw_K} {M M' : gw_Mem} {c : va_E} (hn : M'.1 = M.1 + 1) (hc : gw_at K M' M.1 = c) (ho : ∀ j, j < M.1 → gw_at K M' j = gw_at K M j) : gw_ws K M ++ [(K.1 + M.1, c)] = gw_ws K M' := by
  unfold gw_ws
  rw [hn, List.range_succ, List.map_append]
  congr 1
  · apply List.map_congr_left
    intro j hj
    rw [ho j (List.mem_range.mp hj)]
  · rw [List.map_singleton, hc]
/-- numbers of cells are small; beyond the last no shape -/
def gw_V (M : gw_Mem) : Prop := M.1 ≤ 1048576 ∧ ∀ o : Nat, M.1 ≤ o → (M.2.1 o).1 = 999
theorem gw_V.lt {M : gw_Mem} (h : gw_V M) {o a b : Nat} (ho : M.2.1 o = (a, b)) (ha : a ≠ 999 := by decide) : o < M.1 := by
  by_cases hl : o < M.1
  · exact hl
  · have := h.2 o (by omega)
    rw [ho] at this
    exact absurd this ha
def gw_A (K : gw_K) : Nat → Prop := fun q => K.1 ≤ q
theorem gw_apart {K : gw_K} {M : gw_Mem} : va_D (gw_A K) (gw_ws K M) := by
  refine ⟨fun i j p q hi hj h => ?_, fun k q hk => ?_⟩
  · obtain ⟨-, rfl⟩ := gw_ws_of hi
    obtain ⟨-, rfl⟩ := gw_ws_of hj
    dsimp only at h
    omega
  · obtain ⟨-, rfl⟩ := gw_ws_of hk
    exact Nat.le_add_right _ _
/-- the array classes: kinds 0 (not used) to 9 -/
def gw_tys (K : gw_K) : List (ClassId × FieldType) := (List.range gw_NK).map (fun k => (K.2.2.1 k, gw_kt k))
theorem gw_tys_at {K : gw_K} {k : Nat} (h : k < gw_NK) : (gw_tys K)[k]? = some (K.2.2.1 k, gw_kt k) := by
  unfold gw_tys
  rw [List.getElem?_map, List.getElem?_range h]
  rfl
/-- the words that hold at every state of the run -/
def gw_all : List Cond := lw_tbl.filter goodWord
theorem gw_all_good {w : Cond} (h : w ∈ gw_all) : (w.onTables && w.keeps) = true ∨ ∃ ty, w = .arrayClass ty := good_of_word (List.mem_filter.mp h).2
/-- a method: name, code, how many locals, what it returns -/
abbrev gw_Y : Type := MethodName × ByteArray × Nat × Option FieldType
def gw_wd (y : gw_Y) : List Cond := .code y.1 y.2.1 y.2.2.1 y.2.2.2 :: gw_all
/-- what the tables say at a state -/
def gw_S (K : gw_K) (U : State) : Prop := va_K K.2.1 gw_cl (gw_tys K) U ∧ (∀ (o : String) (i : Nat) (y : MethodName) (h : String), Cond.methodLinkNest o i y h ∈ lw_tbl → va_Nw (.methodLinkNest o i y h) U) ∧ ∀ C : String, Cond.arrayOver (.object C) ∈ lw_tbl → va_AO C U
/-- the script and the two tables of the class -/
def gw_E (K : gw_K) (X : Nat × (Nat → Int32)) (U : State) (H : Heap) : Prop := va_X K.2.2.2.1 X.1 X.2 U H ∧ K.2.2.2.1 < K.1 ∧ K.1 ≤ H.size ∧ va_T .int K.2.2.2.2.1 15 (fun j => .int (gw_tk j)) (gw_A K) U H ∧ va_T .int K.2.2.2.2.2 15 (fun j => .int (gw_pt j)) (gw_A K) U H ∧ va_Z gw_tC gw_tN "[I" (.ref K.2.2.2.2.1) (gw_A K) U H ∧ va_Z gw_tC gw_pN "[I" (.ref K.2.2.2.2.2) (gw_A K) U H
theorem gw_S.moved {K : gw_K} {s U : State} (hW : s.WarmedH U.vm) (h : gw_S K s) : gw_S K U := ⟨va_K.moved hW.alike h.1, fun o i y h' hm => va_Nw.warmM hW (h.2.1 o i y h' hm), fun C hC => va_AO.moved hW.alike (h.2.2 C hC)⟩
theorem gw_S.same {K : gw_K} {s U : State} (hv : s.vm = U.vm) (h : gw_S K s) : gw_S K U := ⟨va_K.moved (hv ▸ Vm.Alike.refl s.vm) h.1, fun o i y h' hm => va_Nw.same rfl hv (h.2.1 o i y h' hm), fun C hC => va_AO.moved (hv ▸ Vm.Alike.refl s.vm) (h.2.2 C hC)⟩
theorem gw_E.moved {K : gw_K} {X : Nat × (Nat → Int32)} {u U : State} {H : Heap} (hvm : u.vm.Alike U.vm) (h : gw_E K X u H) : gw_E K X U H := ⟨va_X.moved hvm h.1, h.2.1, h.2.2.1, va_T.moved hvm h.2.2.2.1, va_T.moved hvm h.2.2.2.2.1, va_Z.moved hvm h.2.2.2.2.2.1, va_Z.moved hvm h.2.2.2.2.2.2⟩
theorem gw_E.kept {K : gw_K} {X : Nat × (Nat → Int32)} {U : State} {H H1 : Heap} (h : gw_E K X U H) (hz : H.size ≤ H1.size) (hq : ∀ a : Nat, a < H.size → ¬ gw_A K a → H1[a]? = H[a]?) : gw_E K X U H1 := by
  obtain ⟨h1, h2, h3, h4, h5, h6, h7⟩ := h
  exact ⟨h1.kept (hq _ (Nat.lt_of_lt_of_le h2 h3) (Nat.not_le.mpr h2)), h2, Nat.le_trans h3 hz, h4.kept hq, h5.kept hq, h6.kept hq, h7.kept hq⟩
/-- a state of the run -/
def gw_W (K : gw_K) (M : gw_Mem) (U : State) : Prop := gw_S K U ∧ gw_E K M.2.2.1 U U.heap ∧ va_P K.2.1 gw_cl (gw_ws K M) U.heap ∧ U.heap.size = K.1 + M.1 ∧ gw_V M
def gw_Pc (K : gw_K) (as : List Value) (M : gw_Mem) : Array Value → State → Prop := fun v U => v = (as.map (gw_mv K)).toArray ∧ gw_W K M U
def gw_Qc (K : gw_K) (X : Nat × (Nat → Int32)) (mc : Nat) (Q : Option Value → gw_Mem → Prop) : Array Value → State → Outcome → State → Prop := fun _ st oc t => (∃ (r : Option Value) (M' : gw_Mem), oc = .returned (r.map (gw_mv K)) ∧ gw_W K M' t ∧ M'.2.2.1 = X ∧ t.heap.size = st.heap.size + mc ∧ Q r M') ∧ va_F (gw_A K) st t
def gw_rm (d mc ms : Nat) : Room := { frames := d, cells := mc, slots := ms, locals := 40 * d }
/-- a method's contract: called with as on M it returns, with Q -/
def gw_Call (y : gw_Y) (d mc ms : Nat) (as : List Value) (M : gw_Mem) (Q : Option Value → gw_Mem → Prop) : Prop := ∀ (K : gw_K) (l : Launch), Met l y.1 (gw_wd y) (gw_rm d mc ms) (gw_Pc K as M) (gw_Qc K M.2.2.1 mc Q) mc ms (gw_A K)
/-! locals -/
def gw_get : List (Option Value) → Nat → Option Value
  | [], _ => none
  | a :: _, 0 => a
  | _ :: l, n + 1 => gw_get l n
def gw_set : List (Option Value) → Nat → Option Value → List (Option Value)
  | [], _, _ => []
  | _ :: l, 0, v => v :: l
  | a :: l, n + 1, v => a :: gw_set l n v
def gw_big : Option Value → Bool
  | some (.long _) => true
  | some (.double _) => true
  | _ => false
def gw_cl1 (lv : List (Option Value)) : Nat → List (Option Value)
  | 0 => lv
  | j + 1 => if gw_big (gw_get lv j) then gw_set lv j none else lv
def gw_st1 (lv : List (Option Value)) (i : Nat) (v : Value) : List (Option Value) := gw_set (gw_cl1 lv i) i (some v)
def gw_st2 (lv : List (Option Value)) (i : Nat) (v : Value) : List (Option Value) := gw_set (gw_set (gw_cl1 lv i) (i + 1) none) i (some v)
theorem gw_get_ne : ∀ (l : List (Option Value)) (i j : Nat) (v : Option Value), j ≠ i → gw_get (gw_set l i v) j = gw_get l j
  | [], _, _, _, _ => rfl
  | _ :: _, 0, 0, _, h => absurd rfl h
  | _ :: _, 0, _ + 1, _, _ => rfl
  | _ :: _, _ + 1, 0, _, _ => rfl
  | _ :: l, i + 1, j + 1, v, h => gw_get_ne l i j v (fun e => h (by rw [e]))
theorem gw_get_eq : ∀ (l : List (Option Value)) (i : Nat) (v : Option Value) (w : Value), gw_get (gw_set l i v) i = some w → v = some w
  | [], _, _, _, h => by cases h
  | _ :: _, 0, _, _, h => h
  | _ :: l, i + 1, v, w, h => gw_get_eq l i v w h
def gw_as (K : gw_K) (lv : List (Option Value)) : List (Nat × Value) := (List.range lv.length).filterMap (fun i => (gw_get lv i).map (fun v => (i, gw_mv K v)))
theorem gw_get_lt : ∀ (l : List (Option Value)) (i : Nat) (w : Value), gw_get l i = some w → i < l.length
  | [], _, _, h => by cases h
  | _ :: _, 0, _, _ => Nat.succ_pos _
  | _ :: l, i + 1, w, h => Nat.succ_lt_succ (gw_get_lt l i w h)
theorem gw_as_mem {K : gw_K} {lv : List (Option Value)} {i : Nat} {v : Value} (h : gw_get lv i = some v) : (i, gw_mv K v) ∈ gw_as K lv :=
  List.mem_filterMap.mpr ⟨i, List.mem_range.mpr (gw_get_lt lv i v h), by rw [h]; rfl⟩
theorem gw_as_of {K : gw_K} {lv : List (Option Value)} {q : Nat × Value} (h : q ∈ gw_as K lv) : ∃ v, gw_get lv q.1 = some v ∧ q.2 = gw_mv K v := by
  obtain ⟨i, -, hi⟩ := List.mem_filterMap.mp h
  cases hv : gw_get lv i with
  | none => rw [hv] at hi; cases hi
  | some v =>
    rw [hv] at hi
    cases hi
    exact ⟨v, hv, rfl⟩
def gw_L (K : gw_K) (ls : Array Slot) (n : Nat) (lv : List (Option Value)) : Prop := lv_has ls n (gw_as K lv)
theorem gw_L.at {K : gw_K} {ls : Array Slot} {n : Nat} {lv : List (Option Value)} (h : gw_L K ls n lv) {i : Nat} {v : Value} (hv : gw_get lv i = some v) : ls[i]? = some (.val (gw_mv K v)) := h.2.2 (i, gw_mv K v) (gw_as_mem hv)
theorem gw_L.of {K : gw_K} {ls : Array Slot} {n : Nat} {lv : List (Option Value)} {l : List (Nat × Value)} (h : lv_has ls n l) (hs : ∀ q ∈ gw_as K lv, q ∈ l) : gw_L K ls n lv := ⟨h.1, h.2.1, fun q hq => h.2.2 q (hs q hq)⟩
theorem gw_cl1_get {lv : List (Option Value)} {i j : Nat} {u : Value} (h : gw_get (gw_cl1 lv i) j = some u) : gw_get lv j = some u ∧ ¬ (j + 1 = i ∧ u.category = 2) := by
  cases i with
  | zero => exact ⟨h, fun z => by omega⟩
  | succ i =>
    replace h : gw_get (if gw_big (gw_get lv i) then gw_set lv i none else lv) j = some u := h
    by_cases hb : gw_big (gw_get lv i) = true
    · rw [if_pos hb] at h
      by_cases hj : j = i
      · subst hj
        exact absurd (gw_get_eq _ _ _ _ h) (by simp)
      · rw [gw_get_ne _ _ _ _ hj] at h
        exact ⟨h, fun z => hj (by omega)⟩
    · rw [if_neg hb] at h
      refine ⟨h, fun z => ?_⟩
      have hj : j = i := by omega
      subst hj
      rw [h] at hb
      cases u <;> first | exact absurd rfl hb | exact absurd z.2 (by simp [Value.category])
theorem gw_st1_sub {K : gw_K} {lv : List (Option Value)} {i : Nat} {v : Value} : ∀ q ∈ gw_as K (gw_st1 lv i v), q ∈ (i, gw_mv K v) :: (gw_as K lv).filter (fun q => !(q.1 == i) && !(q.1 + 1 == i && q.2.category == 2)) := by
  intro q hq
  obtain ⟨u, hu, hw⟩ := gw_as_of hq
  obtain ⟨j, w⟩ := q
  dsimp only at hu hw
  subst hw
  by_cases hj : j = i
  · subst hj
    have := gw_get_eq _ _ _ _ hu
    cases this
    exact List.mem_cons_self
  · unfold gw_st1 at hu
    rw [gw_get_ne _ _ _ _ hj] at hu
    obtain ⟨h1, h2⟩ := gw_cl1_get hu
    refine List.mem_cons_of_mem _ (List.mem_filter.mpr ⟨gw_as_mem h1, ?_⟩)
    rw [gw_mv_cat]
    simp only [Bool.and_eq_true, Bool.not_eq_true', beq_eq_false_iff_ne, ne_eq, Bool.and_eq_false_iff]
    refine ⟨hj, ?_⟩
    by_cases h3 : j + 1 = i
    · exact Or.inr fun z => h2 ⟨h3, z⟩
    · exact Or.inl h3
theorem gw_st2_sub {K : gw_K} {lv : List (Option Value)} {i : Nat} {v : Value} : ∀ q ∈ gw_as K (gw_st2 lv i v), q ∈ (i, gw_mv K v) :: (gw_as K lv).filter (fun q => !(q.1 == i) && (!(q.1 == i + 1) && !(q.1 + 1 == i && q.2.category == 2))) := by
  intro q hq
  obtain ⟨u, hu, hw⟩ := gw_as_of hq
  obtain ⟨j, w⟩ := q
  dsimp only at hu hw
  subst hw
  by_cases hj : j = i
  · subst hj
    have := gw_get_eq _ _ _ _ hu
    cases this
    exact List.mem_cons_self
  · unfold gw_st2 at hu
    rw [gw_get_ne _ _ _ _ hj] at hu
    by_cases hj2 : j = i + 1
    · subst hj2
      exact absurd (gw_get_eq _ _ _ _ hu) (by simp)
    · rw [gw_get_ne _ _ _ _ hj2] at hu
      obtain ⟨h1, h2⟩ := gw_cl1_get hu
      refine List.mem_cons_of_mem _ (List.mem_filter.mpr ⟨gw_as_mem h1, ?_⟩)
      rw [gw_mv_cat]
      simp only [Bool.and_eq_true, Bool.not_eq_true', beq_eq_false_iff_ne, ne_eq, Bool.and_eq_false_iff]
      refine ⟨hj, hj2, ?_⟩
      by_cases h3 : j + 1 = i
      · exact Or.inr fun z => h2 ⟨h3, z⟩
      · exact Or.inl h3
/-! the judgement -/
/-- how a method ends at pc with r -/
def gw_end (y : gw_Y) (pc : Nat) : Option Value → Prop
  | none => decode y.2.1 pc = .ok (.return_, 1) ∧ y.2.2.2 = none
  | some (.int v) => decode y.2.1 pc = .ok (.ireturn, 1) ∧ ∃ ty, y.2.2.2 = some ty ∧ narrow ty (.int v) = .int v
  | some (.long _) => decode y.2.1 pc = .ok (.lreturn, 1) ∧ y.2.2.2 = some .long
  | some (.ref _) => decode y.2.1 pc = .ok (.areturn, 1) ∧ ∃ rt, y.2.2.2 = some rt ∧ ((∃ n, rt = .object n) ∨ ∃ t, rt = .array t)
  | some .null => decode y.2.1 pc = .ok (.areturn, 1) ∧ ∃ rt, y.2.2.2 = some rt ∧ ((∃ n, rt = .object n) ∨ ∃ t, rt = .array t)
  | _ => False
def gw_C (y : gw_Y) (d : Nat) (K : gw_K) (p : Program) (R : Room) (s : State) (m : MethodId) (args : Array Value) (meth : Method) (c : Code) (X : Nat × (Nat → Int32)) : Prop :=
  p.tables.exec = Jvm.exec ∧ c.code = y.2.1 ∧ c.maxLocals = y.2.2.1 ∧ s.vm.findClass y.1.cls = some m.cls ∧ (∀ w ∈ gw_all, w.before args s = true) ∧ meth.name = y.1.name ∧ gw_S K s ∧ gw_E K X s s.heap ∧ d ≤ R.frames ∧ 40 * d ≤ R.locals
def gw_D (K : gw_K) (M : gw_Mem) (s : State) (H : Heap) (locs : List Loc) (cells : Nat) : Prop := va_P K.2.1 gw_cl (gw_ws K M) H ∧ va_S (gw_A K) s.heap H locs ∧ s.heap.size + cells = K.1 + M.1 ∧ gw_V M
def gw_Go (y : gw_Y) (d bc bs pc : Nat) (lv : List (Option Value)) (st : List Value) (M : gw_Mem) (Q : Option Value → gw_Mem → Prop) : Prop :=
  ∀ (K : gw_K) (p : Program) (l : Launch) (e : Env) (R : Room) (s : State) (m : MethodId) (args : Array Value) (below : List Frame) (meth : Method) (c : Code) (H : Heap) (locs : List Loc) (cells slots : Nat) (Z : State → Prop) (ls : Array Slot),
    gw_C y d K p R s m args meth c M.2.2.1 → gw_D K M s H locs cells → cells + bc ≤ R.cells → slots + bs ≤ R.slots → gw_L K ls y.2.2.1 lv →
    (∀ (r : Option Value) (M' : gw_Mem) (H' : Heap) (locs' : List Loc) (slots' pc' : Nat) (ls' : Array Slot), gw_end y pc' r → Q r M' → M'.2.2.1 = M.2.2.1 → gw_D K M' s H' locs' (cells + bc) → slots' ≤ slots + bs → H'.size = K.1 + M'.1 →
      W p l e R s m args below meth c H' locs' (cells + bc) slots' Z (F0 m pc' ls' (r.toList.map (gw_mv K)))) →
    W p l e R s m args below meth c H locs cells slots Z (F0 m pc ls (st.map (gw_mv K)))
theorem gw_size {p : Program} {l : Launch} {e : Env} {R : Room} {s : State} {m : MethodId} {args : Array Value} {below : List Frame} {meth : Method} {c : Code} {H : Heap} {locs : List Loc} {cells slots : Nat} {Z : State → Prop} {g : JFrame}
    (k : H.size ≤ s.heap.size + cells → W p l e R s m args below meth c H locs cells slots Z g) : W p l e R s m args below meth c H locs cells slots Z g :=
  fun T hT X => k (by rw [← hT]; exact X.same.2.2.1) T hT X
theorem gw_D.ge {K : gw_K} {M : gw_Mem} {s : State} {H : Heap} {locs : List Loc} {cells : Nat} (h : gw_D K M s H locs cells) (h0 : K.1 ≤ s.heap.size) : K.1 + M.1 ≤ H.size := by
  cases hM : M.1 with
  | zero => have := h.2.1.1; omega
  | succ n =>
    have h1 := (h.1 n _ (gw_ws_at (by omega))).lt
    dsimp only at h1
    omega
