/-! calls, returns, makings -/
def gw_Ok (y : gw_Y) (nA : Nat) : Prop := Cond.code y.1 y.2.1 y.2.2.1 y.2.2.2 ∈ gw_all ∧ Cond.initialized y.1.cls ∈ gw_all ∧ (y.1.cls ≠ "java/lang/invoke/MethodHandle" ∧ y.1.cls ≠ "java/lang/invoke/VarHandle" ∧ (parseMethodDescriptor y.1.desc).map (fun d => d.parameters.length) = some nA) ∧ y.2.2.1 ≤ 21 ∧ plainName y.1.cls = true
def gw_Lk (own : String) (idx : Nat) (y : gw_Y) : Prop := Cond.methodLink own idx y.1 ∈ gw_all ∨ ∃ host, Cond.methodLinkNest own idx y.1 host ∈ lw_tbl
def gw_KS (own : String) (idx : Nat) (y : gw_Y) (nA : Nat) : Prop := gw_Ok y nA ∧ gw_Lk own idx y ∧ Cond.static y.1 ∈ gw_all
def gw_KV (own : String) (idx : Nat) (y : gw_Y) (ci nA : Nat) : Prop := gw_Ok y nA ∧ gw_Lk own idx y ∧ Cond.instanceMethod y.1 ∈ gw_all ∧ Cond.selects y.1.cls y.1 y.1 ∈ gw_all ∧ gw_cl[ci]? = some (gw_c ci) ∧ (gw_c ci).1 = y.1.cls
def gw_KI (own : String) (idx : Nat) (y : gw_Y) (nA : Nat) : Prop := gw_Ok y nA ∧ gw_Lk own idx y ∧ Cond.instanceMethod y.1 ∈ gw_all ∧ y.1.name = "<init>" ∧ y.2.2.2 = none
theorem gw_blind {K : gw_K} {as : List Value} {M : gw_Mem} : FrameBlind (gw_Pc K as M) := by
  intro a U g mk h
  obtain ⟨h1, hS, hE, hP, hz, hV⟩ := h
  exact ⟨h1, gw_S.same (s := U) (U := U.calling g mk a) rfl hS, gw_E.moved (u := U) (U := U.calling g mk a) (Vm.Alike.refl U.vm) hE, hP, hz, hV⟩
theorem gw_goodIn {y : gw_Y} {nA : Nat} (h : gw_Ok y nA) : GoodIn gw_all (gw_wd y) := by
  intro w hw
  rcases List.mem_cons.mp hw with rfl | hw
  · exact ⟨h.1, gw_all_good h.1⟩
  · exact ⟨hw, gw_all_good hw⟩
section GC
variable {p : Program} {l : Launch} {e : Env} {R : Room} {s : State} {m : MethodId} {args : Array Value} {below : List Frame} {meth : Method} {c : Code} {H : Heap} {locs : List Loc} {cells slots : Nat} {Z : State → Prop}
variable {y : gw_Y} {d bc bs pc : Nat} {lv : List (Option Value)} {st : List Value} {M : gw_Mem} {Q : Option Value → gw_Mem → Prop} {K : gw_K} {ls : Array Slot}
theorem gw_exact (hC : gw_C y d K p R s m args meth c M.2.2.1) (hD : gw_D K M s H locs cells) (h : H.size ≤ s.heap.size + cells) : H.size = K.1 + M.1 := by
  have h1 := hD.ge hC.2.2.2.2.2.2.2.1.2.2.1
  have h2 := hD.2.2.1
  omega
theorem gw_preW (hC : gw_C y d K p R s m args meth c M.2.2.1) (hD : gw_D K M s H locs cells) (hz : H.size = K.1 + M.1) : ∀ U : State, U.heap = H → s.WarmedH U.vm → gw_W K M U := by
  intro U hU hW
  obtain ⟨hS, hE, -⟩ := hC.2.2.2.2.2.2
  refine ⟨gw_S.moved hW hS, ?_, by rw [hU]; exact hD.1, by rw [hU]; exact hz, hD.2.2.2⟩
  rw [hU]
  exact gw_E.moved hW.alike (hE.kept hD.2.1.1 hD.2.1.2.1)
theorem gw_behind {mc ms : Nat} {st0 rest : List Value} {a : Array Value} (hr : va_Run p l e R s m args below meth c H locs cells slots mc ms (F0 m pc ls st0) (rest.map (gw_mv K)) (gw_Qc K M.2.2.1 mc (fun r M' => gw_Go y d bc bs (pc + 3) lv (r.toList ++ rest) M' Q) a) (gw_A K))
    (hC : gw_C y d K p R s m args meth c M.2.2.1) (hD : gw_D K M s H locs cells) (hz : H.size = K.1 + M.1) (h1 : cells + (bc + mc) ≤ R.cells) (h2 : slots + (bs + ms) ≤ R.slots) (hL : gw_L K ls y.2.2.1 lv)
    (hF : ∀ (r : Option Value) (M' : gw_Mem) (H' : Heap) (locs' : List Loc) (slots' pc' : Nat) (ls' : Array Slot), gw_end y pc' r → Q r M' → M'.2.2.1 = M.2.2.1 → gw_D K M' s H' locs' (cells + (bc + mc)) → slots' ≤ slots + (bs + ms) → H'.size = K.1 + M'.1 →
      W p l e R s m args below meth c H' locs' (cells + (bc + mc)) slots' Z (F0 m pc' ls' (r.toList.map (gw_mv K)))) : W p l e R s m args below meth c H locs cells slots Z (F0 m pc ls st0) := by
  intro T hT X
  obtain ⟨v, st₀, t, T', L, h0, X', hLo, e1, e2, ⟨⟨r, M', hv, hW, hX, hzt, hgo⟩, hzF, hkF⟩, hst⟩ := hr T hT X
  have hv' : v = r.map (gw_mv K) := Outcome.returned.inj hv
  subst hv'
  rw [h0] at hzt hzF hkF
  have ec : cells + mc + bc = cells + (bc + mc) := by omega
  have hW2 := hW.2.2.2.1
  have hs1 := hD.2.2.1
  have hS1 : va_S (gw_A K) s.heap T'.heap (locs ++ L) := ⟨Nat.le_trans hD.2.1.1 (by rw [e1]; exact hzF), fun q g1 g2 => by rw [e1, hkF q (Nat.lt_of_lt_of_le g1 hD.2.1.1) g2]; exact hD.2.1.2.1 q g1 g2, fun q hq => by
    rcases List.mem_append.mp hq with h | h
    · exact hD.2.1.2.2 q h
    · exact hLo q h⟩
  have hgo' := hgo K p l e R s m args below meth c T'.heap (locs ++ L) (cells + mc) (slots + ms) Z ls (by rw [hX]; exact hC) ⟨by rw [e1]; exact hW.2.2.1, hS1, by omega, hW.2.2.2.2⟩ (by omega) (by omega) hL (fun r' M2 H' locs' slots' pc' ls' g1 g2 g3 g4 g5 g6 => by
    rw [ec] at g4 ⊢
    exact hF r' M2 H' locs' slots' pc' ls' g1 g2 (g3.trans hX) g4 (by omega) g6)
  obtain ⟨t2, a1, b1⟩ := hgo' T' rfl X'
  refine ⟨t2, hst t2 ?_, b1⟩
  have e5 : (r.toList ++ rest).map (gw_mv K) = (r.map (gw_mv K)).toList ++ rest.map (gw_mv K) := by cases r <;> rfl
  rw [e5] at a1
  exact a1
end GC
section GR
variable {y : gw_Y} {d bc bs pc : Nat} {lv : List (Option Value)} {st : List Value} {M : gw_Mem} {Q : Option Value → gw_Mem → Prop}
theorem go_callS {y' : gw_Y} {mc ms idx nA : Nat} (as rest : List Value) (hd : decode y.2.1 pc = .ok (.invokestatic idx, 3)) (hk : gw_KS y.1.cls idx y' nA) (hn : as.length = nA) (hw : (rest.map fun v => v.category).sum ≤ 8) (hc : gw_Call y' d mc ms as M (fun r M' => gw_Go y (d + 1) bc bs (pc + 3) lv (r.toList ++ rest) M' Q)) : gw_Go y (d + 1) (bc + mc) (bs + ms) pc lv (as.reverse ++ rest) M Q := by
  intro K p l e R s m args below meth c H locs cells slots Z ls hC hD h1 h2 hL hF
  refine gw_size (fun hz0 => ?_)
  have hz := gw_exact hC hD hz0
  obtain ⟨hok, hlk, hst⟩ := hk
  have hts := hC.2.2.2.2.1
  have hfr := hC.2.2.2.2.2.2.2.2
  have hroom : (gw_rm d mc ms).frames + 1 ≤ R.frames ∧ 8 + (y'.2.2.1 + 11) + (gw_rm d mc ms).locals ≤ R.locals := ⟨hfr.1, by have h9 := hok.2.2.2.1; have h8 := hfr.2; show 8 + (y'.2.2.1 + 11) + 40 * d ≤ R.locals; omega⟩
  rw [List.map_append, List.map_reverse]
  refine gw_behind (rest := rest) (a := (as.map (gw_mv K)).toArray) ?_ hC hD hz h1 h2 hL hF
  rcases hlk with hl | ⟨host, hl⟩
  · exact va_runS (As := as.map (gw_mv K)) (Ts := gw_all) ⟨hC.1, hC.2.1, hC.2.2.1, hC.2.2.2.1, hts⟩ (hc K l) ⟨callB_of nA hts (gw_goodIn hok) rfl rfl rfl (hts _ hok.2.1) (hts _ hl) hok.2.2.1 hroom, hts _ hst⟩ ⟨gw_blind, fun U hU hW => ⟨rfl, gw_preW hC hD hz U hU hW⟩⟩ rfl (by rw [List.length_map]; exact hn) hL.1 rfl (lv_room (by rw [gw_mv_sum]; exact hw)) hd ⟨by omega, by omega⟩
  · exact va_runSN (host := host) (As := as.map (gw_mv K)) (Ts := gw_all) ⟨hC.1, hC.2.1, hC.2.2.1, hC.2.2.2.1, hts⟩ (hc K l) ⟨va_cnB nA hts (gw_goodIn hok) rfl rfl rfl (hC.2.2.2.2.2.2.1.2.1 _ _ _ _ hl) (hts _ hok.2.1) hok.2.2.1 hroom, hts _ hst, trivial⟩ ⟨gw_blind, fun U hU hW => ⟨rfl, gw_preW hC hD hz U hU hW⟩⟩ rfl (by rw [List.length_map]; exact hn) hL.1 rfl (lv_room (by rw [gw_mv_sum]; exact hw)) hd ⟨by omega, by omega⟩
theorem go_callV {y' : gw_Y} {mc ms idx nA ci o n : Nat} {sh : Nat → Nat × Nat} {X : Nat × (Nat → Int32)} {R0 : Nat → Nat → Option Nat} {I : Nat → Nat → Int32} {L0 : Nat → Nat → Int64} (as rest : List Value) (hd : decode y.2.1 pc = .ok (.invokevirtual idx, 3)) (hk : gw_KV y.1.cls idx y' ci nA) (ho : sh o = (0, ci)) (hn : as.length = nA) (hw : (rest.map fun v => v.category).sum ≤ 8) (hc : gw_Call y' d mc ms (.ref o :: as) (n, sh, X, R0, I, L0) (fun r M' => gw_Go y (d + 1) bc bs (pc + 3) lv (r.toList ++ rest) M' Q)) : gw_Go y (d + 1) (bc + mc) (bs + ms) pc lv (as.reverse ++ .ref o :: rest) (n, sh, X, R0, I, L0) Q := by
  intro K p l e R s m args below meth c H locs cells slots Z ls hC hD h1 h2 hL hF
  refine gw_size (fun hz0 => ?_)
  have hz := gw_exact hC hD hz0
  obtain ⟨hok, hlk, hst, hse, hci, hcn⟩ := hk
  have hts := hC.2.2.2.2.1
  have hfr := hC.2.2.2.2.2.2.2.2
  have hroom : (gw_rm d mc ms).frames + 1 ≤ R.frames ∧ 8 + (y'.2.2.1 + 11) + (gw_rm d mc ms).locals ≤ R.locals := ⟨hfr.1, by have h9 := hok.2.2.2.1; have h8 := hfr.2; show 8 + (y'.2.2.1 + 11) + 40 * d ≤ R.locals; omega⟩
  have hlt : o < n := hD.2.2.2.lt ho
  have ead : gw_ad K o = K.1 + o := gw_ad_in (M := (n, sh, X, R0, I, L0)) hD.2.2.2 hlt
  have hrecv : ∃ cell : Cell, H[gw_ad K o]? = some cell ∧ cell.vm.isStatics = false ∧ s.vm.findClass y'.1.cls = some cell.cls := by
    rw [ead, ← hcn]
    exact va_recv hC.2.2.2.2.2.2.1.1 hD.1 hci (by rw [gw_ws_at (M := (n, sh, X, R0, I, L0)) hlt, gw_at_obj ho])
  rw [List.map_append, List.map_reverse]
  refine gw_behind (rest := rest) (a := (gw_mv K (.ref o) :: as.map (gw_mv K)).toArray) ?_ hC hD hz h1 h2 hL hF
  rcases hlk with hl | ⟨host, hl⟩
  · exact va_runV (b := gw_ad K o) (C := y'.1.cls) (As := as.map (gw_mv K)) (Ts := gw_all) ⟨hC.1, hC.2.1, hC.2.2.1, hC.2.2.2.1, hts⟩ (hc K l) ⟨callB_of nA hts (gw_goodIn hok) rfl rfl rfl (hts _ hok.2.1) (hts _ hl) hok.2.2.1 hroom, hts _ hst, hts _ hse⟩ ⟨gw_blind, hrecv, fun U hU hW => ⟨rfl, gw_preW hC hD hz U hU hW⟩⟩ rfl (by rw [List.length_map]; exact hn) hL.1 rfl (lv_room (by rw [gw_mv_sum]; exact hw)) hd ⟨by omega, by omega⟩
  · exact va_runVN (host := host) (b := gw_ad K o) (C := y'.1.cls) (As := as.map (gw_mv K)) (Ts := gw_all) ⟨hC.1, hC.2.1, hC.2.2.1, hC.2.2.2.1, hts⟩ (hc K l) ⟨va_cnB nA hts (gw_goodIn hok) rfl rfl rfl (hC.2.2.2.2.2.2.1.2.1 _ _ _ _ hl) (hts _ hok.2.1) hok.2.2.1 hroom, hts _ hst, hts _ hse⟩ ⟨gw_blind, hrecv, fun U hU hW => ⟨rfl, gw_preW hC hD hz U hU hW⟩⟩ rfl (by rw [List.length_map]; exact hn) hL.1 rfl (lv_room (by rw [gw_mv_sum]; exact hw)) hd ⟨by omega, by omega⟩
theorem go_callI {y' : gw_Y} {mc ms idx nA o : Nat} (as rest : List Value) (hd : decode y.2.1 pc = .ok (.invokespecial idx, 3)) (hk : gw_KI y.1.cls idx y' nA) (hn : as.length = nA) (hw : (rest.map fun v => v.category).sum ≤ 8) (hc : gw_Call y' d mc ms (.ref o :: as) M (fun r M' => gw_Go y (d + 1) bc bs (pc + 3) lv (r.toList ++ rest) M' Q)) : gw_Go y (d + 1) (bc + mc) (bs + ms) pc lv (as.reverse ++ .ref o :: rest) M Q := by
  intro K p l e R s m args below meth c H locs cells slots Z ls hC hD h1 h2 hL hF
  refine gw_size (fun hz0 => ?_)
  have hz := gw_exact hC hD hz0
  obtain ⟨⟨y1, y2, y3, y4⟩, hy⟩ : ∃ z : gw_Y, z = y' := ⟨_, rfl⟩
  obtain ⟨hok, hlk, hst, hnm, hret⟩ := hk
  subst hy
  dsimp only at hret
  subst hret
  have hts := hC.2.2.2.2.1
  have hfr := hC.2.2.2.2.2.2.2.2
  have hroom : (gw_rm d mc ms).frames + 1 ≤ R.frames ∧ 8 + (y3 + 11) + (gw_rm d mc ms).locals ≤ R.locals := ⟨hfr.1, by have h9 : y3 ≤ 21 := hok.2.2.2.1; have h8 := hfr.2; show 8 + (y3 + 11) + 40 * d ≤ R.locals; omega⟩
  rw [List.map_append, List.map_reverse]
  refine gw_behind (rest := rest) (a := (gw_mv K (.ref o) :: as.map (gw_mv K)).toArray) ?_ hC hD hz h1 h2 hL hF
  rcases hlk with hl | ⟨host, hl⟩
  · exact va_runI (b := gw_ad K o) (As := as.map (gw_mv K)) (Ts := gw_all) ⟨hC.1, hC.2.1, hC.2.2.1, hC.2.2.2.1, hts⟩ (hc K l) ⟨callB_of nA hts (gw_goodIn hok) rfl rfl rfl (hts _ hok.2.1) (hts _ hl) hok.2.2.1 hroom, hnm, hts _ hst⟩ ⟨gw_blind, fun U hU hW => ⟨rfl, gw_preW hC hD hz U hU hW⟩⟩ rfl (by rw [List.length_map]; exact hn) hL.1 rfl (lv_room (by rw [gw_mv_sum]; exact hw)) hd ⟨by omega, by omega⟩
  · exact va_runIN (host := host) (b := gw_ad K o) (As := as.map (gw_mv K)) (Ts := gw_all) ⟨hC.1, hC.2.1, hC.2.2.1, hC.2.2.2.1, hts⟩ (hc K l) ⟨va_cnB nA hts (gw_goodIn hok) rfl rfl rfl (hC.2.2.2.2.2.2.1.2.1 _ _ _ _ hl) (hts _ hok.2.1) hok.2.2.1 hroom, hnm, hts _ hst⟩ ⟨gw_blind, fun U hU hW => ⟨rfl, gw_preW hC hD hz U hU hW⟩⟩ rfl (by rw [List.length_map]; exact hn) hL.1 rfl (lv_room (by rw [gw_mv_sum]; exact hw)) hd ⟨by omega, by omega⟩
/-! returns -/
theorem go_ret {r : Option Value} (he : gw_end y pc r) (hq : Q r M) : gw_Go y d 0 bs pc lv r.toList M Q := by
  intro K p l e R s m args below meth c H locs cells slots Z ls hC hD h1 h2 hL hF
  refine gw_size (fun hz0 => ?_)
  have hz := gw_exact hC hD hz0
  exact hF r M H locs slots pc ls he hq rfl hD (by omega) hz
theorem go_iret {v : Int32} (hd : decode y.2.1 pc = .ok (.ireturn, 1)) (hr : y.2.2.2 = some .int) (hq : Q (some (.int v)) M) : gw_Go y d 0 bs pc lv [.int v] M Q := go_ret (r := some (.int v)) ⟨hd, .int, hr, rfl⟩ hq
theorem go_zret {v : Int32} (hd : decode y.2.1 pc = .ok (.ireturn, 1)) (hr : y.2.2.2 = some .boolean) (hb : v = 0 ∨ v = 1) (hq : Q (some (.int v)) M) : gw_Go y d 0 bs pc lv [.int v] M Q := go_ret (r := some (.int v)) ⟨hd, .boolean, hr, by rcases hb with rfl | rfl <;> rfl⟩ hq
theorem go_lret {v : Int64} (hd : decode y.2.1 pc = .ok (.lreturn, 1)) (hr : y.2.2.2 = some .long) (hq : Q (some (.long v)) M) : gw_Go y d 0 bs pc lv [.long v] M Q := go_ret (r := some (.long v)) ⟨hd, hr⟩ hq
theorem go_aret {q : Nat} {C : String} (hd : decode y.2.1 pc = .ok (.areturn, 1)) (hr : y.2.2.2 = some (.object C)) (hq : Q (some (.ref q)) M) : gw_Go y d 0 bs pc lv [.ref q] M Q := go_ret (r := some (.ref q)) ⟨hd, _, hr, Or.inl ⟨_, rfl⟩⟩ hq
theorem go_nret {C : String} (hd : decode y.2.1 pc = .ok (.areturn, 1)) (hr : y.2.2.2 = some (.object C)) (hq : Q (some .null) M) : gw_Go y d 0 bs pc lv [.null] M Q := go_ret (r := some .null) ⟨hd, _, hr, Or.inl ⟨_, rfl⟩⟩ hq
theorem go_vret (hd : decode y.2.1 pc = .ok (.return_, 1)) (hr : y.2.2.2 = none) (hq : Q none M) : gw_Go y d 0 bs pc lv [] M Q := go_ret (r := none) ⟨hd, hr⟩ hq
end GR
/-! a method's contract out of its walk -/
def gw_sl : List Value → List (Option Value)
  | [] => []
  | v :: vs => match gw_big (some v) with
    | true => some v :: none :: gw_sl vs
    | false => some v :: gw_sl vs
def gw_en (as : List Value) (n : Nat) : List (Option Value) := gw_sl as ++ List.replicate (n - (gw_sl as).length) none
theorem gw_big_cat (v : Value) : gw_big (some v) = true ↔ v.category = 2 := by cases v <;> simp [gw_big, Value.category]
theorem gw_sl_len (K : gw_K) : ∀ as : List Value, (lg_sl (as.map (gw_mv K))).length = (gw_sl as).length
  | [] => rfl
  | v :: vs => by
    have ih := gw_sl_len K vs
    unfold lg_sl at ih ⊢
    rw [List.map_cons, List.flatMap_cons, List.length_append, ih, gw_mv_cat]
    have e : gw_sl (v :: vs) = match gw_big (some v) with | true => some v :: none :: gw_sl vs | false => some v :: gw_sl vs := rfl
    rw [e]
    cases hb : gw_big (some v) with
    | true => rw [if_pos ((gw_big_cat v).mp hb)]; simp only [List.length_cons, List.length_nil]; omega
    | false => rw [if_neg (fun h => by rw [(gw_big_cat v).mpr h] at hb; cases hb)]; simp only [List.length_cons, List.length_nil]; omega
theorem gw_rep_get (n : Nat) : ∀ i : Nat, gw_get (List.replicate n none) i = none := by
  induction n with
  | zero => intro i; rfl
  | succ n ih => intro i; cases i with
    | zero => rfl
    | succ i => exact ih i
theorem gw_en_sub (K : gw_K) (n : Nat) : ∀ (as : List Value) (off i : Nat) (v : Value), gw_get (gw_sl as ++ List.replicate n none) i = some v → (off + i, gw_mv K v) ∈ lv_args off (as.map (gw_mv K))
  | [], off, i, v, h => by
    rw [show gw_sl [] ++ List.replicate n none = List.replicate n none from rfl, gw_rep_get] at h
    cases h
  | w :: ws, off, i, v, h => by
    unfold gw_sl at h
    rw [List.map_cons]
    unfold lv_args
    rw [gw_mv_cat]
    cases hb : gw_big (some w) with
    | true =>
      rw [hb] at h
      rw [if_pos ((gw_big_cat w).mp hb)]
      cases i with
      | zero => cases h; exact List.mem_cons_self
      | succ i =>
        cases i with
        | zero => cases h
        | succ i =>
          refine List.mem_cons_of_mem _ ?_
          have := gw_en_sub K n ws (off + 2) i v h
          rw [show off + (i + 1 + 1) = off + 2 + i by omega]
          exact this
    | false =>
      rw [hb] at h
      rw [if_neg (fun h9 => by rw [(gw_big_cat w).mpr h9] at hb; cases hb)]
      cases i with
      | zero => cases h; exact List.mem_cons_self
      | succ i =>
        refine List.mem_cons_of_mem _ ?_
        have := gw_en_sub K n ws (off + 1) i v h
        rw [show off + (i + 1) = off + 1 + i by omega]
        exact this
theorem gw_call {y : gw_Y} {d mc ms nA : Nat} {as : List Value} {M : gw_Mem} {Q : Option Value → gw_Mem → Prop} (hok : gw_Ok y nA) (hl : (gw_sl as).length ≤ y.2.2.1) (h : gw_Go y d mc ms 0 (gw_en as y.2.2.1) [] M Q) : gw_Call y d mc ms as M Q := by
  intro K l
  refine Met.ofW (cc := y.2.1) (maxL := y.2.2.1) (ret := y.2.2.2) hok.2.2.2.2 rfl ?_
  intro p e s m args below meth c s₁ B hml hv
  obtain ⟨rfl, hS, hE, hP, hz, hV⟩ := hv
  have hts := atoms_spec (ws := gw_wd y) B.pre
  have hC : gw_C y d K p (gw_rm d mc ms) s m (as.map (gw_mv K)).toArray meth c M.2.2.1 := ⟨B.exec, B.bytes, hml, findClass_of_methodNamed B.named, fun w hw => hts w (List.mem_cons_of_mem _ hw), (name_of_methodNamed B.named B.method).1, hS, hE, Nat.le_refl _, Nat.le_refl _⟩
  have hl0 := lv_entry (as.map (gw_mv K)) (n := y.2.2.1) (by rw [gw_sl_len]; exact hl)
  rw [lg_entry_eq]
  generalize (lg_sl (as.map (gw_mv K)) ++ List.replicate (y.2.2.1 - (lg_sl (as.map (gw_mv K))).length) Slot.unset).toArray = ls at hl0 ⊢
  refine h K p l e (gw_rm d mc ms) s m _ below meth c s.heap [] 0 0 _ ls hC ⟨hP, va_S.rf, by omega, hV⟩ (by show 0 + mc ≤ mc; omega) (by show 0 + ms ≤ ms; omega) (gw_L.of hl0 (fun q hq => ?_)) ?_
  · obtain ⟨v, hv, hw⟩ := gw_as_of hq
    obtain ⟨i, w⟩ := q
    dsimp only at hv hw
    subst hw
    have := gw_en_sub K _ as 0 i v hv
    rwa [Nat.zero_add] at this
  · intro r M' H' locs' slots' pc' ls' hend hQ hX hD' hsl hz'
    refine W.widen (k := mc) (n := ms) (by omega) (by omega) ?_
    have hq : ∀ t : State, t.heap = H' → s.WarmedH t.vm → gw_Qc K M.2.2.1 mc Q (as.map (gw_mv K)).toArray s (.returned (r.map (gw_mv K))) t := by
      intro t ht hW
      have hs2 := hD'.2.2.1
      refine ⟨⟨r, M', rfl, ⟨gw_S.moved hW hS, ?_, by rw [ht]; exact hD'.1, by rw [ht]; exact hz', hD'.2.2.2⟩, hX, by rw [ht]; omega, hQ⟩, hD'.2.1.F ht⟩
      rw [ht, hX]
      exact gw_E.moved hW.alike (hE.kept hD'.2.1.1 hD'.2.1.2.1)
    cases r with
    | none => exact W.vret B.exec B.bytes (B.returns.trans hend.2) hq hD'.2.1.2.2 hend.1
    | some v =>
      cases v with
      | int v =>
        obtain ⟨g1, ty, g2, g3⟩ := hend
        exact W.zret B.exec B.bytes (B.returns.trans g2) g3 hq hD'.2.1.2.2 g1
      | long v => exact W.lret B.exec B.bytes (B.returns.trans hend.2) hq hD'.2.1.2.2 hend.1
      | ref a =>
        obtain ⟨g1, rt, g2, g3⟩ := hend
        exact W.aret B.exec B.bytes (B.returns.trans g2) g3 (Or.inr ⟨_, rfl⟩) hq hD'.2.1.2.2 g1
      | null =>
        obtain ⟨g1, rt, g2, g3⟩ := hend
        exact W.aret B.exec B.bytes (B.returns.trans g2) g3 (Or.inl rfl) hq hD'.2.1.2.2 g1
      | float v => exact hend.elim
      | double v => exact hend.elim
      | retAddr v => exact hend.elim
