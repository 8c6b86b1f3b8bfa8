/-! THE CLAIM OUT OF ONE WALK OF THE LAW'S BODY. Your part is whole_start (and what it stands on); all else here is the same for every law, but numbers. -/
def R_law : String := "CostCheckerLaw"
def lw_P (b : Addr) (xs : List Int32) (args : Array Value) (s : State) : Prop := args = #[.ref b] ∧ s.IntsAt b xs ∧ xs.length ≤ 3072 ∧ (Jvm.Cond.and given_1 narrow_1).before args s = true
def lw_Q (_ : Array Value) (s : State) (o : Outcome) (t : State) : Prop := o = .returned (some (.int 1)) ∧ Framed s o t [] 600000 7302250
def lw_Z (below : List Frame) (a : Array Value) (s : State) : State → Prop := fun t => ∃ o, t.status = .running ∧ Ended t below o ∧ lw_Q a s o t
/-- the law's own end, with 1 on the stack, nothing written that was there before, its room as the claim has it -/
theorem lw_ret {p : Program} {l : Launch} {e : Env} {s : State} {m : MethodId} {below : List Frame} {meth : Method} {c : Code} {b : Nat} (hx : p.tables.exec = Jvm.exec) (hb : c.code = code) (hr : meth.sig.returnType = ret) (hlocks : meth.locks = false) {pc : Nat} {H : Heap} {ls : Array Slot} (hdg : decode code pc = .ok (.ireturn, 1)) : W p l e room_1 s m #[Value.ref b] below meth c H [] 600000 7302250 (lw_Z below #[Value.ref b] s) (F0 m pc ls [.int 1]) := by
  intro T hT X
  obtain ⟨fs, hret, hrun, hended, hW, hframe⟩ := X.leave (v := some (.int 1)) (hlocks := hlocks) (fun h => by rw [hr] at h; cases h)
  have hmeth' : T.vm.method? m = some meth := X.method'
  refine ⟨T.setFrames fs, ?_, .returned (some (.int 1)), hrun, hended, rfl, ⟨_, rfl⟩, hW, hframe⟩
  jvm_step X.here [X.here.top, hx, hb, hdg, hmeth', hr, ret, narrow_b1]
  (try refine ⟨rfl, ?_⟩); (try refine ⟨rfl, ?_⟩)
  first | (intro acts; rw [hret _ acts rfl rfl rfl]) | rw [hret _ _ rfl rfl rfl]
  exact Steps.refl _
/-- what holds at the law's entry: the machine, the code, the tables' words (any of lw_tbl by 'hts w (by decide +kernel)'), the script of L ints xs at the cell b, what the Statement gives of the start (any of its parts by flat_of_before) -/
def lw_At (p : Program) (s : State) (m : MethodId) (meth : Method) (c : Code) (b L : Nat) (xs : Nat → Int32) : Prop :=
  p.tables.exec = Jvm.exec ∧ c.code = code ∧ meth.sig.returnType = ret ∧ c.maxLocals = 4 ∧ s.vm.findClass R_law = some m.cls ∧ (∀ w ∈ lw_tbl, w.before #[Value.ref b] s = true) ∧ va_X b L xs s s.heap ∧ b < s.heap.size ∧ meth.locks = false ∧ (Jvm.Cond.and given_1 narrow_1).before #[Value.ref b] s = true
theorem whole_start {p : Program} {e : Env} {s : State} {m : MethodId} {below : List Frame} {meth : Method} {c : Code} (l : Launch) {b L : Nat} {xs : Nat → Int32} (hL : L ≤ 3072) (C0 : lw_At p s m meth c b L xs) : W p l e room_1 s m #[Value.ref b] below meth c s.heap [] 0 0 (lw_Z below #[Value.ref b] s) (entryFrame m ([Value.ref b] : List Value).toArray 4) := by
  obtain ⟨hx, hb, hr, hml, hown, hts, hX, hbl, hlocks, hgv⟩ := C0
  have htg : ∀ w ∈ gw_all, w.before #[Value.ref b] s = true := fun w hw => hts w (List.mem_filter.mp hw).1
  have hA : ∀ a : Nat, a < s.heap.size → ¬ s.heap.size ≤ a := fun a h => by omega
  have hcl : ∀ c : Nat, ∃ P : ClassId × (Nat → Nat), ∀ q, gw_cl[c]? = some q → u_Kn s q.1 q.2.1 q.2.2 P.1 P.2 := by
    have one : ∀ ci, gw_C2 ci → ∃ P : ClassId × (Nat → Nat), ∀ q, gw_cl[ci]? = some q → u_Kn s q.1 q.2.1 q.2.2 P.1 P.2 := fun ci h => by
      obtain ⟨⟨h1, h2, h3, h4⟩, h5, h6, h7⟩ := h
      obtain ⟨cC, iS, hk⟩ := u_known (ws := gw_all) htg h3 (htg _ h6)
      exact ⟨(cC, iS), fun q hq => by rw [h1] at hq; cases hq; exact hk⟩
    intro c
    match c with
    | 0 => exact one 0 gw_k2CC
    | 1 => exact one 1 gw_k2Me
    | 2 => exact one 2 gw_k2Cu
    | 3 => exact one 3 gw_k2Po
    | 4 => exact one 4 gw_k2Ma
    | 5 => exact one 5 gw_k2Fr
    | 6 => exact one 6 gw_k2Ch
    | 7 => exact one 7 gw_k2Pa
    | 8 => exact one 8 gw_k2Sy
    | 9 => exact one 9 gw_k2Kn
    | 10 => exact one 10 gw_k2Ba
    | 11 => exact one 11 gw_k2Mo
    | c + 12 =>
      obtain ⟨P, _⟩ := one 0 gw_k2CC
      exact ⟨P, fun q hq => by
        rw [List.getElem?_eq_none (by have h12 : gw_cl.length = 12 := rfl; omega)] at hq
        cases hq⟩
  obtain ⟨P, hP⟩ := Classical.axiomOfChoice hcl
  have harr : ∀ k : Nat, ∃ cA : ClassId, k < gw_NK → ArrOfT s cA (gw_kt k) ∧ va_RA s cA (gw_kt k) := by
    have hi : ∃ cA : ClassId, ArrOfT s cA .int ∧ va_RA s cA .int := by
      obtain ⟨cA, kA, comp, h1, h2, h3⟩ := Cond.arrayClass_spec (htg _ gw_aI)
      exact ⟨cA, fun n z => ⟨fun k h => (by cases h), kA, h2, comp, h3⟩, h1⟩
    have hl : ∃ cA : ClassId, ArrOfT s cA .long ∧ va_RA s cA .long := by
      obtain ⟨cA, kA, comp, h1, h2, h3⟩ := Cond.arrayClass_spec (htg _ gw_aL)
      exact ⟨cA, fun n z => ⟨fun k h => (by cases h), kA, h2, comp, h3⟩, h1⟩
    have hz : ∃ cA : ClassId, ArrOfT s cA .boolean ∧ va_RA s cA .boolean := by
      obtain ⟨cA, kA, comp, h1, h2, h3⟩ := Cond.arrayClass_spec (htg _ gw_aZ)
      exact ⟨cA, fun n z => ⟨fun k h => (by cases h), kA, h2, comp, h3⟩, h1⟩
    have ho : ∀ C : String, Cond.arrayOver (.object C) ∈ lw_tbl → ∃ cA : ClassId, ArrOfT s cA (.object C) ∧ va_RA s cA (.object C) := fun C h => by
      obtain ⟨comp, c, k, h1, h2, h3, h4, h5⟩ := Cond.arrayOver_spec (hts _ h)
      exact ⟨c, fun n z => ⟨fun k h => (by cases h), k, h3, comp, h4⟩, k, comp, h3, h4, h1, h5⟩
    have of : ∀ {ty : FieldType} {k : Nat}, gw_kt k = ty → (∃ cA : ClassId, ArrOfT s cA ty ∧ va_RA s cA ty) → ∃ cA : ClassId, k < gw_NK → ArrOfT s cA (gw_kt k) ∧ va_RA s cA (gw_kt k) := fun h ⟨cA, q⟩ => ⟨cA, fun _ => by rw [h]; exact q⟩
    intro k
    match k with
    | 0 => exact of rfl hi
    | 1 => exact of rfl hi
    | 2 => exact of rfl hl
    | 3 => exact of rfl hz
    | 4 => exact of rfl (ho _ v_Me)
    | 5 => exact of rfl (ho _ v_Cu)
    | 6 => exact of rfl (ho _ v_Po)
    | 7 => exact of rfl (ho _ v_Fr)
    | 8 => exact of rfl (ho _ v_Pa)
    | 9 => exact of rfl (ho _ v_Ba)
    | k + 10 =>
      obtain ⟨cA, _⟩ := hi
      exact ⟨cA, fun h => by unfold gw_NK at h; omega⟩
  obtain ⟨cA, hcA⟩ := Classical.axiomOfChoice harr
  have hfl := flat_of_before _ hgv
  have hk : ∀ j, j < 15 → Cond.eq (.elem (.static "CostChecker" "TAKES" "[I") (.int (Int32.ofNat j))) (.int (gw_tk j)) ∈ flatC (Jvm.Cond.and given_1 narrow_1) := by decide +kernel
  have hp : ∀ j, j < 15 → Cond.eq (.elem (.static "CostChecker" "PUTS" "[I") (.int (Int32.ofNat j))) (.int (gw_pt j)) ∈ flatC (Jvm.Cond.and given_1 narrow_1) := by decide +kernel
  have hk0 : Cond.arrayOf (.static "CostChecker" "TAKES" "[I") .int ∈ flatC (Jvm.Cond.and given_1 narrow_1) ∧ Cond.eq (.length (.static "CostChecker" "TAKES" "[I")) (.int (Int32.ofNat 15)) ∈ flatC (Jvm.Cond.and given_1 narrow_1) := by decide +kernel
  have hp0 : Cond.arrayOf (.static "CostChecker" "PUTS" "[I") .int ∈ flatC (Jvm.Cond.and given_1 narrow_1) ∧ Cond.eq (.length (.static "CostChecker" "PUTS" "[I")) (.int (Int32.ofNat 15)) ∈ flatC (Jvm.Cond.and given_1 narrow_1) := by decide +kernel
  obtain ⟨t1, ht1, hT1⟩ := va_Tof (tm := .static "CostChecker" "TAKES" "[I") (ty := .int) (N := 15) (f := fun j => .int (gw_tk j)) (A := fun q => s.heap.size ≤ q) (by decide) (hfl _ hk0.1) (va_eqt (hfl _ hk0.2)) (fun j hj => va_eqt (hfl _ (hk j hj))) hA
  obtain ⟨t2, ht2, hT2⟩ := va_Tof (tm := .static "CostChecker" "PUTS" "[I") (ty := .int) (N := 15) (f := fun j => .int (gw_pt j)) (A := fun q => s.heap.size ≤ q) (by decide) (hfl _ hp0.1) (va_eqt (hfl _ hp0.2)) (fun j hj => va_eqt (hfl _ (hp j hj))) hA
  have hZ1 : va_Z "CostChecker" "TAKES" "[I" (.ref t1) (fun q => s.heap.size ≤ q) s s.heap := va_Zref (hts (.laysStatic "CostChecker" "TAKES" "[I") (by decide +kernel)) (hts (.initialized "CostChecker") (by decide +kernel)) ht1 hA
  have hZ2 : va_Z "CostChecker" "PUTS" "[I" (.ref t2) (fun q => s.heap.size ≤ q) s s.heap := va_Zref (hts (.laysStatic "CostChecker" "PUTS" "[I") (by decide +kernel)) (hts (.initialized "CostChecker") (by decide +kernel)) ht2 hA
  obtain ⟨K, hK⟩ : ∃ K : gw_K, K = (s.heap.size, ((fun c => (P c).1), (fun c => (P c).2)), cA, b, t1, t2) := ⟨_, rfl⟩
  have hS : gw_S K s := by
    subst hK
    refine ⟨⟨fun c q hq => hP c q hq, fun k q hq => ?_⟩, fun o i y h hm => va_Nw.of rfl (hts _ hm), fun C hC => va_AO.of (hts _ hC)⟩
    have hk10 : k < gw_NK := by
      have := ge_lt hq (Nat.le_refl _)
      simpa [gw_tys] using this
    rw [gw_tys_at hk10] at hq
    cases hq
    exact hcA k hk10
  have hE : gw_E K (L, xs) s s.heap := by
    subst hK
    exact ⟨hX, hbl, Nat.le_refl _, hT1, hT2, hZ1, hZ2⟩
  have hK1 : K.1 = s.heap.size := by rw [hK]
  have hKb : gw_ad K 1048576 = b := by rw [hK]; rfl
  have hC : gw_C (y_La meth.name) (0 + 40) K p room_1 s m #[Value.ref b] meth c (L, xs) := ⟨hx, hb, hml, hown, htg, rfl, hS, hE, by decide, by decide⟩
  have hl0 := lv_entry [Value.ref b] (n := 4) (Nat.le_of_ble_eq_true rfl)
  rw [lg_entry_eq]
  generalize (lg_sl [Value.ref b] ++ List.replicate (4 - (lg_sl [Value.ref b]).length) Slot.unset).toArray = ls at hl0 ⊢
  refine la_start (nm := meth.name) (d := 0) (X := (L, xs)) (sh := fun _ => (999, 0)) (R := fun _ _ => none) (I := fun _ _ => 0) (L := fun _ _ => 0) (Q := fun r _ => r = some (.int 1)) hL (fun _ => rfl) K p l e room_1 s m #[Value.ref b] below meth c s.heap [] 0 0 (lw_Z below #[Value.ref b] s) ls hC ⟨fun k q hq => (by cases hq), va_S.rf, by show s.heap.size + 0 = K.1 + 0; omega, ⟨Nat.zero_le _, fun _ _ => rfl⟩⟩ (by decide) (by decide) (gw_L.of hl0 (fun q hq => ?_)) ?_
  · obtain ⟨v, hv, hw⟩ := gw_as_of hq
    obtain ⟨i, w⟩ := q
    dsimp only at hv hw
    match i with
    | 0 =>
      cases hv
      rw [hw, show gw_mv K (.ref 1048576) = .ref b by show Value.ref (gw_ad K 1048576) = _; rw [hKb]]
      exact List.mem_cons_self
    | 1 => cases hv
    | 2 => cases hv
    | 3 => cases hv
    | i + 4 => cases hv
  · intro r M' H' locs' slots' pc' ls' hend hQ hX' hD' hsl hz'
    subst hQ
    refine va_forget (fun q hq => ?_) ?_
    · have := hD'.2.1.2.2 q hq
      have h2 : K.1 ≤ q.base := this
      omega
    · refine W.widen (k := 600000) (n := 7302250) (by omega) (by omega) ?_
      exact lw_ret hx hb hr hlocks hend.1
set_option maxHeartbeats 4000000 in
theorem lw_walk (l : Launch) (b : Addr) (xs : List Int32) : MetFree l x (headSpec (Jvm.Cond.code x code maxLocals ret :: tables_1) room_1) (lw_P b xs) (fun _ _ _ _ _ => True) lw_Q := by
  refine MetFree.of_bodyS (code := code) (maxLocals := maxLocals) (ret := ret) (by decide) ?_ ?_
  · intro args s m h hn
    obtain ⟨meth, c, h1, h2, h3, h4, h5, h6, -, -⟩ := Cond.code_spec hn (atoms_spec (ws := Jvm.Cond.code x code maxLocals ret :: tables_1) h _ List.mem_cons_self)
    exact ⟨meth, c, h1, h2, h3, h4, h5, h6⟩
  · intro p e s m args below meth c s₁ B hml0 hP _
    obtain ⟨rfl, hx, hbd, hgv⟩ := hP
    obtain ⟨scr, harrAt, hlist, hof, hsmall⟩ := hx
    obtain ⟨hcb, hkn, -, -⟩ := State.arrayAt?_spec harrAt
    have hown : s.vm.findClass R_law = some m.cls := findClass_of_methodNamed B.named
    have hts0 : ∀ c ∈ (Jvm.Cond.code x code maxLocals ret :: tables_1), c.before #[Value.ref b] s = true := atoms_spec (ws := Jvm.Cond.code x code maxLocals ret :: tables_1) B.pre
    have hts : ∀ w ∈ lw_tbl, w.before #[Value.ref b] s = true := k2_hts_sels lw_privs (fun w hw => hts0 w (List.mem_cons_of_mem _ hw)) lw_privs_ok
    have hml : c.maxLocals = 4 := B.maxLocals_eq (hts0 _ List.mem_cons_self)
    have X₀ : Stand p l e room_1 s m #[Value.ref b] below meth c s₁ [] 0 0 := Stand.of_body B
    have hh0 : s₁.heap = s.heap := by rw [B.state]; rfl
    have hsz : scr.slots.size = xs.length := by rw [← Array.length_toList, hlist, List.length_map]
    have hval : ∀ j : Nat, j < xs.length → scr.slots[j]? = some (.int (xs.getD j 0)) := fun j hj => by
      rw [← Array.getElem?_toList, hlist]
      simp [hj]
    have hbl : b < s.heap.size := (Array.getElem?_eq_some_iff.mp hcb).1
    have hX : va_X b xs.length (fun j => xs.getD j 0) s s.heap := ⟨scr, hcb, hof, hkn, hsz, hval⟩
    have K : W p l e room_1 s m #[Value.ref b] below meth c s₁.heap [] 0 0 (lw_Z below #[Value.ref b] s) (entryFrame m ([Value.ref b] : List Value).toArray 4) := by
      rw [hh0]
      exact whole_start l hbd ⟨B.exec, B.bytes, B.returns, hml, hown, hts, hX, hbl, B.notSynchronized, hgv⟩
    obtain ⟨t, a1, o, b1, b2, b3⟩ := K s₁ rfl X₀
    exact ⟨t, o, a1, b1, b2, b3⟩
theorem lw_pre_spec {args : Array Value} {s : State} (h : (Jvm.Cond.and given_1 narrow_1).before args s = true) (hr : rest_1_c.before args s = true) : ∃ (b : Addr) (xs : List Int32), lw_P b xs args s := by
  have hs := flat_of_before _ h
  have hq := flat_of_before _ hr
  have hc : (Cond.count 1).before args s = true := hs _ (by decide +kernel)
  have harr : (Cond.arrayOf (.arg 0) .int).before args s = true := hs _ (by decide +kernel)
  have hle : (Cond.le (.length (.arg 0)) (.int 3072)).before args s = true := hs _ (by decide +kernel)
  have hlen : (Cond.isInt (.length (.arg 0))).before args s = true := hq _ (by decide +kernel)
  have hall : (Cond.all (.arg 0) (.isInt (.elem (.arg 0) (.index 0)))).before args s = true := hq _ (by decide +kernel)
  obtain ⟨b, xs, hb, hx⟩ := State.ints_of_pre rfl harr hlen hall
  have hsm : xs.length < 2 ^ 31 := hx.choose_spec.2.2.2
  have hev : (Term.length (.arg 0)).eval args s none [] s = some (.int xs.length.toInt32) := hx.length_eval hb
  have hv := Cond.le_ints hev (show (Term.int 3072).eval args s none [] s = some (.int 3072) from rfl)
  have hd : xs.length.toInt32 ≤ 3072 := by
    simpa [Cond.before, Cond.holds, hv] using hle
  have hN : xs.length ≤ 3072 := (Int32.ofNat_le_ofNat hsm (by decide)).mp (show Int32.ofNat xs.length ≤ Int32.ofNat 3072 from hd)
  exact ⟨b, xs, Cond.one_arg hc (show args[0]? = some (.ref b) from hb), hx, hN, h⟩
theorem lw_comes (l : Launch) : Comes l x (Jvm.Cond.code x code maxLocals ret :: tables_1) room_1 (fun tb e args s => Calls_1 tb e args s ∧ rest_1 tb e args s ∧ Pre_1 tb e args s)
    (fun _ _ args s o t => lw_Q args s o t) := by
  intro p e ha hc hk s m args below hf hfit hheap happ hpre
  obtain ⟨b, xs, hP⟩ := lw_pre_spec hpre.2.2 hpre.2.1
  obtain ⟨k, o, h1, h2, h3, hQ⟩ := lw_walk l b xs p e ha hc hk s m args below hf ((Spec.applies_iff_loose hf).mp happ).1 hP trivial
  exact ⟨k, o, h1, h2, h3, hQ⟩
theorem lw_frame {s t : State} {o : Outcome} {args : Array Value} (h : Framed s o t [] 600000 7302250) :
    Framed s o t (fieldLocs frame_1_writes args s ++ arrayLocs frame_1_arrays args s ++ staticLocs frame_1_statics s) 600000 7302250 := h
theorem lw_limb (L : Cond) (hL : ∀ (args : Array Value) (s t : State), L.after args s (.returned (some (.int 1))) t = true) :
    ArmFor flags0 classFile x code maxLocals ret World_1 tables_1 room_1 Calls_1 rest_1 Pre_1
      (fun tb e a s o t => postC L tb e a s o t ∧ Framed s o t (fieldLocs frame_1_writes a s ++ arrayLocs frame_1_arrays a s ++ staticLocs frame_1_statics s) 600000 7302250) := by
  intro l _ _ _ p e ha hc hk s m args below hf hfit hheap happ hpre
  obtain ⟨k, o, h1, h2, h3, rfl, hF⟩ := lw_comes l p e ha hc hk s m args below hf hfit hheap happ hpre
  exact ⟨k, _, h1, h2, h3, hL args s _, lw_frame hF⟩
theorem i_vc : Claimed_1_1 ∧ Claimed_1_2 := ⟨lw_limb limb_1_1 (fun args s t => by simp [limb_1_1, Cond.after, Cond.holds, Cond.value]), lw_limb limb_1_2 (fun args s t => Cond.after_iff.mpr (by
  first | (rw [show limb_1_2 = Cond.eq .result (.int 1) from rfl, Cond.eq_ints (x := 1) (y := 1) rfl rfl]; simp; done) | (simp [limb_1_2, Cond.value, Term.eval]; done)))⟩
