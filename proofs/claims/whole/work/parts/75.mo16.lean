/-! the reference: claims and terms at an end and at a call -/
section GX
variable {p : Program} {l : Launch} {e : Env} {R : Room} {s : State} {m : MethodId} {args : Array Value} {below : List Frame} {meth : Method} {c : Code} {H : Heap} {locs : List Loc} {cells slots : Nat} {y : MethodName} {bytes cc : ByteArray} {maxL nL mc ms n index : Nat} {ret : Option FieldType} {ws : List Cond} {rm : Room} {Pc : Array Value → State → Prop} {Qc : Array Value → State → Outcome → State → Prop} {free : Addr → Prop} {Ts : List Cond} {own C : String} {b : Addr} {As rest : List Value} {g : JFrame}
/-- a call with up to 16 words left on the stack below it -/
theorem gw_runVw (S : CallFix p m c cc nL s args Ts own) (hM : Met l y ws rm Pc Qc mc ms free) (cw : CallW R s args own C index y bytes maxL ret ws rm mc ms n) (hlo : 16 + (maxL + 11) + rm.locals ≤ R.locals) (hp : PreV s H C b Pc As) (hg : g.method = m) (hn : As.length = n) (hsize : g.locals.size = nL) (hstack : g.stack = As.reverse ++ .ref b :: rest) (hW : 2 * g.monitorRoom + (rest.map fun v => v.category).sum ≤ 16) (hdg : decode cc g.pc = .ok (.invokevirtual index, 3)) (hf : cells + mc ≤ R.cells ∧ slots + ms ≤ R.slots) : va_Run p l e R s m args below meth c H locs cells slots mc ms g rest (Qc (Value.ref b :: As).toArray) free := by
  obtain ⟨⟨k1, k2, k3, -, k5, k6, k7, k8, k9, k10, k11⟩, k12, k13⟩ := cw
  have hB : Back l R p e below s args y 3 16 (PreOf R mc ms Pc) (PostOf Qc mc ms free) := back_of (bytes := bytes) (maxL := maxL) (ret := ret) hM hp.1 k1 k2 k3 hlo k5 k6 (fun a' U hU => word_at hU (Or.inl (by first | rfl | simp [Cond.onTables, Cond.keeps, Cond.steady])) k8)
  obtain ⟨q1, q2, q3, q4, -⟩ := S
  obtain ⟨-, ⟨cell, d1, d2, d3⟩, d4⟩ := hp
  intro T hT hX
  have hc := callV hX q1 (C := C) (bytes := bytes) (maxL := maxL) (ret := ret) q4 k11 k12 k13 k7 k9 hB (by rw [hT]; exact d1) d2 d3 hg (hsize.trans q3.symm) (argsL := As) (rest := rest) (fun sig h => hn.trans (k10 sig h)) hstack hW (by rw [q2]; exact hdg) (fun vm1 hv => ⟨hf.1, hf.2, d4 (T.setVm vm1) hT hv⟩)
  obtain ⟨v, vm1, ⟨U1, l2, c2, s2⟩, -, hX1, ⟨g1, mk, t, Lo, e1, e2, e3, e4, e5, e6, e7⟩, hst⟩ := hc
  dsimp only [Pt.U, Pt.locs, Pt.cells, Pt.slots] at hX1 e1 e2 e4 e6 e7 hst
  subst e4
  subst e6
  subst e7
  exact ⟨v, (T.setVm vm1).calling g1 mk (Value.ref b :: As).toArray, t, U1, Lo, hT, hX1, e5, e1, e2, e3, hst⟩
end GX
section GR
variable {y : gw_Y} {d bc bs pc : Nat} {lv : List (Option Value)} {st : List Value} {M : gw_Mem} {Q : Option Value → gw_Mem → Prop}
theorem go_callVw {y' : gw_Y} {mc ms idx nA ci o n : Nat} {sh : Nat → Nat × Nat} {X : Nat × (Nat → Int32)} {R0 : Nat → Nat → Option Nat} {I : Nat → Nat → Int32} {L0 : Nat → Nat → Int64} (as rest : List Value) (hd : decode y.2.1 pc = .ok (.invokevirtual idx, 3)) (hk : gw_KV y.1.cls idx y' ci nA) (hl : Cond.methodLink y.1.cls idx y'.1 ∈ gw_all) (ho : sh o = (0, ci)) (hn : as.length = nA) (hw : (rest.map fun v => v.category).sum ≤ 16) (h13 : y'.2.2.1 ≤ 13) (hc : gw_Call y' d mc ms (.ref o :: as) (n, sh, X, R0, I, L0) (fun r M' => gw_Go y (d + 1) bc bs (pc + 3) lv (r.toList ++ rest) M' Q)) : gw_Go y (d + 1) (bc + mc) (bs + ms) pc lv (as.reverse ++ .ref o :: rest) (n, sh, X, R0, I, L0) Q := by
  intro K p l e R s m args below meth c H locs cells slots Z ls hC hD h1 h2 hL hF
  refine gw_size (fun hz0 => ?_)
  have hz := gw_exact hC hD hz0
  obtain ⟨hok, -, hst, hse, hci, hcn⟩ := hk
  have hts := hC.2.2.2.2.1
  have hfr := hC.2.2.2.2.2.2.2.2
  have hroom : (gw_rm d mc ms).frames + 1 ≤ R.frames ∧ 16 + (y'.2.2.1 + 11) + (gw_rm d mc ms).locals ≤ R.locals := ⟨hfr.1, by have h8 := hfr.2; show 16 + (y'.2.2.1 + 11) + 40 * d ≤ R.locals; omega⟩
  have hlt : o < n := hD.2.2.2.lt ho
  have ead : gw_ad K o = K.1 + o := gw_ad_in (M := (n, sh, X, R0, I, L0)) hD.2.2.2 hlt
  have hrecv : ∃ cell : Cell, H[gw_ad K o]? = some cell ∧ cell.vm.isStatics = false ∧ s.vm.findClass y'.1.cls = some cell.cls := by
    rw [ead, ← hcn]
    exact va_recv hC.2.2.2.2.2.2.1.1 hD.1 hci (by rw [gw_ws_at (M := (n, sh, X, R0, I, L0)) hlt, gw_at_obj ho])
  rw [List.map_append, List.map_reverse]
  refine gw_behind (rest := rest) (a := (gw_mv K (.ref o) :: as.map (gw_mv K)).toArray) ?_ hC hD hz h1 h2 hL hF
  exact gw_runVw (b := gw_ad K o) (C := y'.1.cls) (As := as.map (gw_mv K)) (Ts := gw_all) ⟨hC.1, hC.2.1, hC.2.2.1, hC.2.2.2.1, hts⟩ (hc K l) ⟨callB_of nA hts (gw_goodIn hok) rfl rfl rfl (hts _ hok.2.1) (hts _ hl) hok.2.2.1 ⟨hroom.1, by have := hroom.2; omega⟩, hts _ hst, hts _ hse⟩ hroom.2 ⟨gw_blind, hrecv, fun U hU hW => ⟨rfl, gw_preW hC hD hz U hU hW⟩⟩ rfl (by rw [List.length_map]; exact hn) hL.1 rfl (by show 2 * 0 + _ ≤ 16; rw [gw_mv_sum]; omega) hd ⟨by omega, by omega⟩
theorem go_W1 {y' : gw_Y} {idx ci o n : Nat} {sh : Nat → Nat × Nat} {X : Nat × (Nat → Int32)} {R : Nat → Nat → Option Nat} {I : Nat → Nat → Int32} {L : Nat → Nat → Int64} {a1 : Value} (hd : decode y.2.1 pc = .ok (.invokevirtual idx, 3)) (hk : gw_KV y.1.cls idx y' ci 1) (ho : sh o = (0, ci)) (hw : (st.map fun v => v.category).sum ≤ 16) (h13 : y'.2.2.1 ≤ 13) (hl : Cond.methodLink y.1.cls idx y'.1 ∈ gw_all) (hc : gw_Call y' d 0 0 (.ref o :: [a1]) (n, sh, X, R, I, L) (fun r M' => gw_Go y (d + 1) bc bs (pc + 3) lv (r.toList ++ st) M' Q)) : gw_Go y (d + 1) bc bs pc lv (a1 :: .ref o :: st) (n, sh, X, R, I, L) Q := go_callVw (mc := 0) (ms := 0) [a1] st hd hk hl ho rfl hw h13 hc
theorem go_W2 {y' : gw_Y} {idx ci o n : Nat} {sh : Nat → Nat × Nat} {X : Nat × (Nat → Int32)} {R : Nat → Nat → Option Nat} {I : Nat → Nat → Int32} {L : Nat → Nat → Int64} {a1 a2 : Value} (hd : decode y.2.1 pc = .ok (.invokevirtual idx, 3)) (hk : gw_KV y.1.cls idx y' ci 2) (ho : sh o = (0, ci)) (hw : (st.map fun v => v.category).sum ≤ 16) (h13 : y'.2.2.1 ≤ 13) (hl : Cond.methodLink y.1.cls idx y'.1 ∈ gw_all) (hc : gw_Call y' d 0 0 (.ref o :: [a1, a2]) (n, sh, X, R, I, L) (fun r M' => gw_Go y (d + 1) bc bs (pc + 3) lv (r.toList ++ st) M' Q)) : gw_Go y (d + 1) bc bs pc lv (a2 :: a1 :: .ref o :: st) (n, sh, X, R, I, L) Q := go_callVw (mc := 0) (ms := 0) [a1, a2] st hd hk hl ho rfl hw h13 hc
theorem go_W3 {y' : gw_Y} {idx ci o n : Nat} {sh : Nat → Nat × Nat} {X : Nat × (Nat → Int32)} {R : Nat → Nat → Option Nat} {I : Nat → Nat → Int32} {L : Nat → Nat → Int64} {a1 a2 a3 : Value} (hd : decode y.2.1 pc = .ok (.invokevirtual idx, 3)) (hk : gw_KV y.1.cls idx y' ci 3) (ho : sh o = (0, ci)) (hw : (st.map fun v => v.category).sum ≤ 16) (h13 : y'.2.2.1 ≤ 13) (hl : Cond.methodLink y.1.cls idx y'.1 ∈ gw_all) (hc : gw_Call y' d 0 0 (.ref o :: [a1, a2, a3]) (n, sh, X, R, I, L) (fun r M' => gw_Go y (d + 1) bc bs (pc + 3) lv (r.toList ++ st) M' Q)) : gw_Go y (d + 1) bc bs pc lv (a3 :: a2 :: a1 :: .ref o :: st) (n, sh, X, R, I, L) Q := go_callVw (mc := 0) (ms := 0) [a1, a2, a3] st hd hk hl ho rfl hw h13 hc
theorem go_W4 {y' : gw_Y} {idx ci o n : Nat} {sh : Nat → Nat × Nat} {X : Nat × (Nat → Int32)} {R : Nat → Nat → Option Nat} {I : Nat → Nat → Int32} {L : Nat → Nat → Int64} {a1 a2 a3 a4 : Value} (hd : decode y.2.1 pc = .ok (.invokevirtual idx, 3)) (hk : gw_KV y.1.cls idx y' ci 4) (ho : sh o = (0, ci)) (hw : (st.map fun v => v.category).sum ≤ 16) (h13 : y'.2.2.1 ≤ 13) (hl : Cond.methodLink y.1.cls idx y'.1 ∈ gw_all) (hc : gw_Call y' d 0 0 (.ref o :: [a1, a2, a3, a4]) (n, sh, X, R, I, L) (fun r M' => gw_Go y (d + 1) bc bs (pc + 3) lv (r.toList ++ st) M' Q)) : gw_Go y (d + 1) bc bs pc lv (a4 :: a3 :: a2 :: a1 :: .ref o :: st) (n, sh, X, R, I, L) Q := go_callVw (mc := 0) (ms := 0) [a1, a2, a3, a4] st hd hk hl ho rfl hw h13 hc
theorem go_W5 {y' : gw_Y} {idx ci o n : Nat} {sh : Nat → Nat × Nat} {X : Nat × (Nat → Int32)} {R : Nat → Nat → Option Nat} {I : Nat → Nat → Int32} {L : Nat → Nat → Int64} {a1 a2 a3 a4 a5 : Value} (hd : decode y.2.1 pc = .ok (.invokevirtual idx, 3)) (hk : gw_KV y.1.cls idx y' ci 5) (ho : sh o = (0, ci)) (hw : (st.map fun v => v.category).sum ≤ 16) (h13 : y'.2.2.1 ≤ 13) (hl : Cond.methodLink y.1.cls idx y'.1 ∈ gw_all) (hc : gw_Call y' d 0 0 (.ref o :: [a1, a2, a3, a4, a5]) (n, sh, X, R, I, L) (fun r M' => gw_Go y (d + 1) bc bs (pc + 3) lv (r.toList ++ st) M' Q)) : gw_Go y (d + 1) bc bs pc lv (a5 :: a4 :: a3 :: a2 :: a1 :: .ref o :: st) (n, sh, X, R, I, L) Q := go_callVw (mc := 0) (ms := 0) [a1, a2, a3, a4, a5] st hd hk hl ho rfl hw h13 hc
end GR
theorem neg64 {k : Nat} (h : k < 2147483648) : (-(nI k)).toInt64 = (-1 : Int32).toInt64 * (nI k).toInt64 := by
  have e1 : (nI k).toInt = (k : Int) := nI_toInt (by omega)
  have e2 : (-(nI k)).toInt = -(k : Int) := by rw [Int32.toInt_neg, e1]; exact Int.bmod_eq_of_le (by omega) (by omega)
  rw [i_64, i_64 (nI k), e1, e2, show (-1 : Int32).toInt64 = Int64.ofInt (-1) from rfl, ← Int64.ofInt_mul]
  exact congrArg _ (by omega)
section MO
variable {d n : Nat} {sh : Nat → Nat × Nat} {X : Nat × (Nat → Int32)} {R : Nat → Nat → Option Nat} {I : Nat → Nat → Int32} {L : Nat → Nat → Int64} {Q : Option Value → gw_Mem → Prop}
theorem ca_ms {r f : Nat} {x y z0 : ab_Sy} {L1 : Nat → Nat → Int64} (hms : ∀ v, v < 5 → ms_at (cs_v (L 549) f v) (cn_v (L 549) f v) (ca_sy x y z0 v)) (hf49 : f + 6 ≤ 104 * r + 49) (hfr : ∀ i, i < 104 * r + 49 ∨ 104 * r + 104 ≤ i → L1 549 i = L 549 i) {v : Nat} (hv : v < 5) : ms_at (cs_v (L1 549) f v) (cn_v (L1 549) f v) (ca_sy x y z0 v) := by
  have h := hms v hv
  unfold cs_v cn_v at h ⊢
  by_cases h3 : v < 3
  · rw [if_pos h3, if_pos h3] at h ⊢
    rw [hfr _ (by omega), hfr _ (by omega)]
    exact h
  · rw [if_neg h3, if_neg h3] at h ⊢
    exact h
theorem c_Mo_endC {r md : Nat} {p : Int32} {st : List ab_Sy} {lo : Nat → ab_Sy} {E : sp_E} {b0 b1 : ab_Ba}  {c : Nat} {A : ab_Cu} {K : sp_E} (hp : pt_Mo sh R) (hr : r < 42) (hc : c < 24) (hA : mu_at I c A) (hbt : bt_at L K) (hK : kn_bd K 400000000000) (h : rw_at (L 549) (104 * r) p md st lo E b0 b1) (hsb : ∀ v, v < 5 → sb 45000000000 (lo v)) (hf : ¬ kn_sh K (lo) A.1 → Q (some (.int 8)) (n, sh, X, R, I, L)) (next : kn_sh K (lo) A.1 → ∀ (z3 : Int32) (o4 o5 o6 o7 o8 o9 : Option Value), gw_Go y_Mo_end (d + 2) 0 0 168 [some (.ref 533), some (.int (nI r)), some (.int (nI c)), some (.int z3), o4, o5, o6, o7, o8, o9] [] (n, sh, X, R, I, L) Q) : ∀ (ts : List (Nat × Nat × Int32)) (j : Nat) (z : Int32) (o4 o5 o6 o7 o8 o9 : Option Value), z = nI (6 * c + j) → j ≤ A.1.length → A.1.drop j = ts → (kn_sh K (lo) A.1 ↔ kn_sh K (lo) ts) → gw_Go y_Mo_end (d + 2) 0 0 60 [some (.ref 533), some (.int (nI r)), some (.int (nI c)), some (.int z), o4, o5, o6, o7, o8, o9] [] (n, sh, X, R, I, L) Q := by
  have hp0 := hp
  obtain ⟨s533, s534, s535, s536, s537, s538, s539, s540, s541, s542, s543, s544, s545, s546, s547, s548, s549, s550, s551, s552, s553, s554, s555, s556, s557, r534, r535, r536, r537, r538, r539, r540, r541, r542, r543, r544, r545, r546, r547, r548, r549, r550, r551, r552, r553, r554, r555, r556, r557⟩ := hp
  obtain ⟨u1, u2, u3, u4, u5⟩ := hA
  intro ts
  induction ts with
  | nil =>
    intro j z o4 o5 o6 o7 o8 o9 hz hj hd hs
    have hl := gw_dropE hd
    refine go_iload_n 2 d_Mo_end_60 rfl rfl ?_
    refine go_if_lt 168 d_Mo_end_61 rfl (fun hn => absurd hn (nI_pos (by omega))) (fun _ => ?_)
    refine go_iload_n 3 d_Mo_end_64 rfl rfl ?_
    refine go_bipush (v := 6) d_Mo_end_65 rfl ?_
    refine go_iload_n 2 d_Mo_end_67 rfl rfl ?_
    refine go_imul d_Mo_end_68 ?_
    refine go_aload_n 0 d_Mo_end_69 rfl rfl ?_
    refine go_getR d_Mo_end_70 f_Mo_29 (by assumption) (by assumption) ?_
    refine go_iload_n 2 d_Mo_end_73 rfl rfl ?_
    refine go_iald (c) d_Mo_end_74 (by assumption) (rfl) (by omega) (by decide) ?_
    refine go_iadd d_Mo_end_75 ?_
    refine go_icmp_ge 168 d_Mo_end_76 rfl (fun _ => ?_) (fun hn => absurd (by rw [u1, hz, show (6 : Int32) * nI c + nI A.1.length = nI (6 * c + A.1.length) from ix (a := 6)]; exact (nI_leI (by omega) (by omega)).mpr (by omega)) hn)
    exact next (hs.mpr (fun t ht => by cases ht)) _ _ _ _ _ _ _
  | cons t ts ih =>
    intro j z o4 o5 o6 o7 o8 o9 hz hj hd hs
    obtain ⟨hj1, hj2, hj3⟩ := gw_drop hd
    obtain ⟨t1, t2, t3, t4, t5⟩ := u3 j t hj2
    have mA := h.ls (v := t.1) t4
    have mB := h.ls (v := t.2.1) t5
    cases hqA : (lo) t.1 with
    | none =>
      rw [hqA] at mA
      have eA : ls_v (L 549) (104 * r) t.1 = -1 := mA
      have eB : ls_v (L 549) (104 * r) t.2.1 = ls_v (L 549) (104 * r) t.2.1 := rfl
      refine go_iload_n 2 d_Mo_end_60 rfl rfl ?_
      refine go_if_lt 168 d_Mo_end_61 rfl (fun hn => absurd hn (nI_pos (by omega))) (fun _ => ?_)
      refine go_iload_n 3 d_Mo_end_64 rfl rfl ?_
      refine go_bipush (v := 6) d_Mo_end_65 rfl ?_
      refine go_iload_n 2 d_Mo_end_67 rfl rfl ?_
      refine go_imul d_Mo_end_68 ?_
      refine go_aload_n 0 d_Mo_end_69 rfl rfl ?_
      refine go_getR d_Mo_end_70 f_Mo_29 (by assumption) (by assumption) ?_
      refine go_iload_n 2 d_Mo_end_73 rfl rfl ?_
      refine go_iald (c) d_Mo_end_74 (by assumption) (rfl) (by omega) (by decide) ?_
      refine go_iadd d_Mo_end_75 ?_
      refine go_icmp_ge 168 d_Mo_end_76 rfl (fun hn => absurd hn (by rw [u1, hz, show (6 : Int32) * nI c + nI A.1.length = nI (6 * c + A.1.length) from ix (a := 6)]; exact nI_ge (by omega) (by omega))) (fun _ => ?_)
      refine go_aload_n 0 d_Mo_end_79 rfl rfl ?_
      refine go_iload_n 1 d_Mo_end_80 rfl rfl ?_
      refine go_aload_n 0 d_Mo_end_81 rfl rfl ?_
      refine go_getR d_Mo_end_82 f_Mo_32 (by assumption) (by assumption) ?_
      refine go_iload_n 3 d_Mo_end_85 rfl rfl ?_
      refine go_iald (6 * c + j) d_Mo_end_86 (by assumption) (hz) (by omega) (by decide) ?_
      rw [t1]
      refine go_V2 d_Mo_end_87 k_Mo_211 (by assumption) (Nat.le_of_ble_eq_true rfl) (c_Mo_localSide hp0 hr t4 ?_)
      rw [eA]
      refine go_lstore d_Mo_end_90 (Nat.le_of_ble_eq_true rfl) ?_
      refine go_aload_n 0 d_Mo_end_92 rfl rfl ?_
      refine go_iload_n 1 d_Mo_end_93 rfl rfl ?_
      refine go_aload_n 0 d_Mo_end_94 rfl rfl ?_
      refine go_getR d_Mo_end_95 f_Mo_35 (by assumption) (by assumption) ?_
      refine go_iload_n 3 d_Mo_end_98 rfl rfl ?_
      refine go_iald (6 * c + j) d_Mo_end_99 (by assumption) (hz) (by omega) (by decide) ?_
      rw [t2]
      refine go_V2 d_Mo_end_100 k_Mo_211 (by assumption) (Nat.le_of_ble_eq_true rfl) (c_Mo_localSide hp0 hr t5 ?_)
      rw [eB]
      refine go_lstore d_Mo_end_103 (Nat.le_of_ble_eq_true rfl) ?_
      simp only [gw_st1, gw_st2, gw_cl1, gw_get, gw_set, gw_big, Bool.false_eq_true, if_false, if_true, ↓reduceIte]
      refine go_lload d_Mo_end_105 rfl ?_
      refine go_lconst (v := 0) d_Mo_end_107 rfl ?_
      refine go_lcmp_lt 159 d_Mo_end_108 d_Mo_end_109 rfl (fun _ => ?_) (fun hn => by first | exact absurd hn (by decide) | exact absurd (by decide) hn)
      refine go_bipush (v := 8) d_Mo_end_159 rfl ?_
      exact go_iret d_Mo_end_161 rfl (hf (fun h => by (obtain ⟨q, q', w, h1, _⟩ := hs.mp h t List.mem_cons_self; rw [hqA] at h1; cases h1)))
    | some q => cases hqB : (lo) t.2.1 with
      | none =>
        rw [hqA] at mA
        rw [hqB] at mB
        have eA : ls_v (L 549) (104 * r) t.1 = lN q.1 := mA.1
        have eB : ls_v (L 549) (104 * r) t.2.1 = -1 := mB
        refine go_iload_n 2 d_Mo_end_60 rfl rfl ?_
        refine go_if_lt 168 d_Mo_end_61 rfl (fun hn => absurd hn (nI_pos (by omega))) (fun _ => ?_)
        refine go_iload_n 3 d_Mo_end_64 rfl rfl ?_
        refine go_bipush (v := 6) d_Mo_end_65 rfl ?_
        refine go_iload_n 2 d_Mo_end_67 rfl rfl ?_
        refine go_imul d_Mo_end_68 ?_
        refine go_aload_n 0 d_Mo_end_69 rfl rfl ?_
        refine go_getR d_Mo_end_70 f_Mo_29 (by assumption) (by assumption) ?_
        refine go_iload_n 2 d_Mo_end_73 rfl rfl ?_
        refine go_iald (c) d_Mo_end_74 (by assumption) (rfl) (by omega) (by decide) ?_
        refine go_iadd d_Mo_end_75 ?_
        refine go_icmp_ge 168 d_Mo_end_76 rfl (fun hn => absurd hn (by rw [u1, hz, show (6 : Int32) * nI c + nI A.1.length = nI (6 * c + A.1.length) from ix (a := 6)]; exact nI_ge (by omega) (by omega))) (fun _ => ?_)
        refine go_aload_n 0 d_Mo_end_79 rfl rfl ?_
        refine go_iload_n 1 d_Mo_end_80 rfl rfl ?_
        refine go_aload_n 0 d_Mo_end_81 rfl rfl ?_
        refine go_getR d_Mo_end_82 f_Mo_32 (by assumption) (by assumption) ?_
        refine go_iload_n 3 d_Mo_end_85 rfl rfl ?_
        refine go_iald (6 * c + j) d_Mo_end_86 (by assumption) (hz) (by omega) (by decide) ?_
        rw [t1]
        refine go_V2 d_Mo_end_87 k_Mo_211 (by assumption) (Nat.le_of_ble_eq_true rfl) (c_Mo_localSide hp0 hr t4 ?_)
        rw [eA]
        refine go_lstore d_Mo_end_90 (Nat.le_of_ble_eq_true rfl) ?_
        refine go_aload_n 0 d_Mo_end_92 rfl rfl ?_
        refine go_iload_n 1 d_Mo_end_93 rfl rfl ?_
        refine go_aload_n 0 d_Mo_end_94 rfl rfl ?_
        refine go_getR d_Mo_end_95 f_Mo_35 (by assumption) (by assumption) ?_
        refine go_iload_n 3 d_Mo_end_98 rfl rfl ?_
        refine go_iald (6 * c + j) d_Mo_end_99 (by assumption) (hz) (by omega) (by decide) ?_
        rw [t2]
        refine go_V2 d_Mo_end_100 k_Mo_211 (by assumption) (Nat.le_of_ble_eq_true rfl) (c_Mo_localSide hp0 hr t5 ?_)
        rw [eB]
        refine go_lstore d_Mo_end_103 (Nat.le_of_ble_eq_true rfl) ?_
        simp only [gw_st1, gw_st2, gw_cl1, gw_get, gw_set, gw_big, Bool.false_eq_true, if_false, if_true, ↓reduceIte]
        refine go_lload d_Mo_end_105 rfl ?_
        refine go_lconst (v := 0) d_Mo_end_107 rfl ?_
        refine go_lcmp_lt 159 d_Mo_end_108 d_Mo_end_109 rfl (fun hn => absurd hn ((fun hh => absurd ((lN_lt (b := 0) (by have := mA.2.1; omega) (by decide)).mp hh) (by omega)))) (fun _ => ?_)
        refine go_lload d_Mo_end_112 rfl ?_
        refine go_lconst (v := 0) d_Mo_end_114 rfl ?_
        refine go_lcmp_lt 159 d_Mo_end_115 d_Mo_end_116 rfl (fun _ => ?_) (fun hn => by first | exact absurd hn (by decide) | exact absurd (by decide) hn)
        refine go_bipush (v := 8) d_Mo_end_159 rfl ?_
        exact go_iret d_Mo_end_161 rfl (hf (fun h => by (obtain ⟨q1, q', w, h1, h2, _⟩ := hs.mp h t List.mem_cons_self; rw [hqB] at h2; cases h2)))
      | some q' =>
        rw [hqA] at mA
        rw [hqB] at mB
        have eA : ls_v (L 549) (104 * r) t.1 = lN q.1 := mA.1
        have eB : ls_v (L 549) (104 * r) t.2.1 = lN q'.1 := mB.1
        have bA := hsb t.1 t4 q hqA
        have bB := hsb t.2.1 t5 q' hqB
        refine go_iload_n 2 d_Mo_end_60 rfl rfl ?_
        refine go_if_lt 168 d_Mo_end_61 rfl (fun hn => absurd hn (nI_pos (by omega))) (fun _ => ?_)
        refine go_iload_n 3 d_Mo_end_64 rfl rfl ?_
        refine go_bipush (v := 6) d_Mo_end_65 rfl ?_
        refine go_iload_n 2 d_Mo_end_67 rfl rfl ?_
        refine go_imul d_Mo_end_68 ?_
        refine go_aload_n 0 d_Mo_end_69 rfl rfl ?_
        refine go_getR d_Mo_end_70 f_Mo_29 (by assumption) (by assumption) ?_
        refine go_iload_n 2 d_Mo_end_73 rfl rfl ?_
        refine go_iald (c) d_Mo_end_74 (by assumption) (rfl) (by omega) (by decide) ?_
        refine go_iadd d_Mo_end_75 ?_
        refine go_icmp_ge 168 d_Mo_end_76 rfl (fun hn => absurd hn (by rw [u1, hz, show (6 : Int32) * nI c + nI A.1.length = nI (6 * c + A.1.length) from ix (a := 6)]; exact nI_ge (by omega) (by omega))) (fun _ => ?_)
        refine go_aload_n 0 d_Mo_end_79 rfl rfl ?_
        refine go_iload_n 1 d_Mo_end_80 rfl rfl ?_
        refine go_aload_n 0 d_Mo_end_81 rfl rfl ?_
        refine go_getR d_Mo_end_82 f_Mo_32 (by assumption) (by assumption) ?_
        refine go_iload_n 3 d_Mo_end_85 rfl rfl ?_
        refine go_iald (6 * c + j) d_Mo_end_86 (by assumption) (hz) (by omega) (by decide) ?_
        rw [t1]
        refine go_V2 d_Mo_end_87 k_Mo_211 (by assumption) (Nat.le_of_ble_eq_true rfl) (c_Mo_localSide hp0 hr t4 ?_)
        rw [eA]
        refine go_lstore d_Mo_end_90 (Nat.le_of_ble_eq_true rfl) ?_
        refine go_aload_n 0 d_Mo_end_92 rfl rfl ?_
        refine go_iload_n 1 d_Mo_end_93 rfl rfl ?_
        refine go_aload_n 0 d_Mo_end_94 rfl rfl ?_
        refine go_getR d_Mo_end_95 f_Mo_35 (by assumption) (by assumption) ?_
        refine go_iload_n 3 d_Mo_end_98 rfl rfl ?_
        refine go_iald (6 * c + j) d_Mo_end_99 (by assumption) (hz) (by omega) (by decide) ?_
        rw [t2]
        refine go_V2 d_Mo_end_100 k_Mo_211 (by assumption) (Nat.le_of_ble_eq_true rfl) (c_Mo_localSide hp0 hr t5 ?_)
        rw [eB]
        refine go_lstore d_Mo_end_103 (Nat.le_of_ble_eq_true rfl) ?_
        simp only [gw_st1, gw_st2, gw_cl1, gw_get, gw_set, gw_big, Bool.false_eq_true, if_false, if_true, ↓reduceIte]
        refine go_lload d_Mo_end_105 rfl ?_
        refine go_lconst (v := 0) d_Mo_end_107 rfl ?_
        refine go_lcmp_lt 159 d_Mo_end_108 d_Mo_end_109 rfl (fun hn => absurd hn ((fun hh => absurd ((lN_lt (b := 0) (by have := mA.2.1; omega) (by decide)).mp hh) (by omega)))) (fun _ => ?_)
        refine go_lload d_Mo_end_112 rfl ?_
        refine go_lconst (v := 0) d_Mo_end_114 rfl ?_
        refine go_lcmp_lt 159 d_Mo_end_115 d_Mo_end_116 rfl (fun hn => absurd hn ((fun hh => absurd ((lN_lt (b := 0) (by have := mB.2.1; omega) (by decide)).mp hh) (by omega)))) (fun _ => ?_)
        refine go_aload_n 0 d_Mo_end_119 rfl rfl ?_
        refine go_lload d_Mo_end_120 rfl ?_
        refine go_aload_n 0 d_Mo_end_122 rfl rfl ?_
        refine go_iload_n 1 d_Mo_end_123 rfl rfl ?_
        refine go_aload_n 0 d_Mo_end_124 rfl rfl ?_
        refine go_getR d_Mo_end_125 f_Mo_32 (by assumption) (by assumption) ?_
        refine go_iload_n 3 d_Mo_end_128 rfl rfl ?_
        refine go_iald (6 * c + j) d_Mo_end_129 (by assumption) (hz) (by omega) (by decide) ?_
        rw [t1]
        refine go_V2 d_Mo_end_130 k_Mo_215 (by assumption) (Nat.le_of_ble_eq_true rfl) (c_Mo_localNumber hp0 hr t4 ?_)
        rw [show ln_v (L 549) (104 * r) t.1 = q.2 from mA.2.2]
        refine go_lload d_Mo_end_133 rfl ?_
        refine go_aload_n 0 d_Mo_end_135 rfl rfl ?_
        refine go_iload_n 1 d_Mo_end_136 rfl rfl ?_
        refine go_aload_n 0 d_Mo_end_137 rfl rfl ?_
        refine go_getR d_Mo_end_138 f_Mo_35 (by assumption) (by assumption) ?_
        refine go_iload_n 3 d_Mo_end_141 rfl rfl ?_
        refine go_iald (6 * c + j) d_Mo_end_142 (by assumption) (hz) (by omega) (by decide) ?_
        rw [t2]
        refine go_V2 d_Mo_end_143 k_Mo_215 (by assumption) (Nat.le_of_ble_eq_true rfl) (c_Mo_localNumber hp0 hr t5 ?_)
        rw [show ln_v (L 549) (104 * r) t.2.1 = q'.2 from mB.2.2]
        refine go_aload_n 0 d_Mo_end_146 rfl rfl ?_
        refine go_getR d_Mo_end_147 f_Mo_38 (by assumption) (by assumption) ?_
        refine go_iload_n 3 d_Mo_end_150 rfl rfl ?_
        refine go_iald (6 * c + j) d_Mo_end_151 (by assumption) (hz) (by omega) (by decide) ?_
        rw [t3]
        refine go_i2l d_Mo_end_152 (rfl) ?_
        refine go_V5 d_Mo_end_153 k_Mo_200 (by assumption) (Nat.le_of_ble_eq_true rfl) (c_Mo_follows hp0 mA.2.1 mB.2.1 hbt hK (by omega) (by omega) (fun g k1 z1 => ?_))
        refine go_if_ne 162 d_Mo_end_156 rfl (fun h156 => ?_) (fun h156 => ?_)
        · refine go_iinc d_Mo_end_162 rfl rfl (Nat.le_of_ble_eq_true rfl) ?_
          refine go_goto 60 d_Mo_end_165 rfl ?_
          exact ih (j + 1) _ _ _ _ _ _ _ (gw_inc hz) (by omega) hj3 (hs.trans ⟨fun h u hu => h u (List.mem_cons_of_mem _ hu), fun h u hu => by (rcases List.mem_cons.mp hu with rfl | hu; (obtain ⟨w, hw1, hw2⟩ := k1.mp h156; exact ⟨q, q', w, hqA, hqB, hw1, hw2⟩); exact h u hu)⟩)
        · refine go_bipush (v := 8) d_Mo_end_159 rfl ?_
          exact go_iret d_Mo_end_161 rfl (hf (fun h => by (obtain ⟨q1, q2, w, h1, h2, h3, h4⟩ := hs.mp h t List.mem_cons_self; rw [hqA] at h1; cases h1; rw [hqB] at h2; cases h2; exact k1.mpr ⟨w, h3, h4⟩ h156)))
theorem c_Mo_calC {r md : Nat} {p : Int32} {st : List ab_Sy} {lo : Nat → ab_Sy} {E : sp_E} {b0 b1 : ab_Ba} {m f : Nat} {x y z0 : ab_Sy} {c : Nat} {A : ab_Cu} {K : sp_E} (hp : pt_Mo sh R) (hr : r < 42) (hc : c < 24) (hA : mu_at I c A) (hbt : bt_at L K) (hK : kn_bd K 400000000000) (hff : f + 6 < 4368) (hms : ∀ v, v < 5 → ms_at (cs_v (L 549) f v) (cn_v (L 549) f v) (ca_sy x y z0 v)) (hsb : ∀ v, v < 5 → sb 45000000000 (ca_sy x y z0 v)) (hf : ¬ kn_sh K (ca_sy x y z0) A.1 → Q (some (.int 6)) (n, sh, X, R, I, L)) (next : kn_sh K (ca_sy x y z0) A.1 → ∀ (z3 : Int32) (o6 o7 o8 o9 o10 o11 : Option Value), gw_Go y_Mo_called (d + 2) 0 0 167 [some (.ref 533), some (.int (nI r)), some (.int (nI m)), some (.int (nI f)), some (.int (nI c)), some (.int z3), o6, o7, o8, o9, o10, o11] [] (n, sh, X, R, I, L) Q) : ∀ (ts : List (Nat × Nat × Int32)) (j : Nat) (z : Int32) (o6 o7 o8 o9 o10 o11 : Option Value), z = nI (6 * c + j) → j ≤ A.1.length → A.1.drop j = ts → (kn_sh K (ca_sy x y z0) A.1 ↔ kn_sh K (ca_sy x y z0) ts) → gw_Go y_Mo_called (d + 2) 0 0 51 [some (.ref 533), some (.int (nI r)), some (.int (nI m)), some (.int (nI f)), some (.int (nI c)), some (.int z), o6, o7, o8, o9, o10, o11] [] (n, sh, X, R, I, L) Q := by
  have hp0 := hp
  obtain ⟨s533, s534, s535, s536, s537, s538, s539, s540, s541, s542, s543, s544, s545, s546, s547, s548, s549, s550, s551, s552, s553, s554, s555, s556, s557, r534, r535, r536, r537, r538, r539, r540, r541, r542, r543, r544, r545, r546, r547, r548, r549, r550, r551, r552, r553, r554, r555, r556, r557⟩ := hp
  obtain ⟨u1, u2, u3, u4, u5⟩ := hA
  intro ts
  induction ts with
  | nil =>
    intro j z o6 o7 o8 o9 o10 o11 hz hj hd hs
    have hl := gw_dropE hd
    refine go_iload d_Mo_called_51 rfl ?_
    refine go_bipush (v := 6) d_Mo_called_53 rfl ?_
    refine go_iload d_Mo_called_55 rfl ?_
    refine go_imul d_Mo_called_57 ?_
    refine go_aload_n 0 d_Mo_called_58 rfl rfl ?_
    refine go_getR d_Mo_called_59 f_Mo_29 (by assumption) (by assumption) ?_
    refine go_iload d_Mo_called_62 rfl ?_
    refine go_iald (c) d_Mo_called_64 (by assumption) (rfl) (by omega) (by decide) ?_
    refine go_iadd d_Mo_called_65 ?_
    refine go_icmp_ge 167 d_Mo_called_66 rfl (fun _ => ?_) (fun hn => absurd (by rw [u1, hz, show (6 : Int32) * nI c + nI A.1.length = nI (6 * c + A.1.length) from ix (a := 6)]; exact (nI_leI (by omega) (by omega)).mpr (by omega)) hn)
    exact next (hs.mpr (fun t ht => by cases ht)) _ _ _ _ _ _ _
  | cons t ts ih =>
    intro j z o6 o7 o8 o9 o10 o11 hz hj hd hs
    obtain ⟨hj1, hj2, hj3⟩ := gw_drop hd
    obtain ⟨t1, t2, t3, t4, t5⟩ := u3 j t hj2
    have mA := hms t.1 t4
    have mB := hms t.2.1 t5
    cases hqA : (ca_sy x y z0) t.1 with
    | none =>
      rw [hqA] at mA
      have eA : cs_v (L 549) f t.1 = -1 := mA
      have eB : cs_v (L 549) f t.2.1 = cs_v (L 549) f t.2.1 := rfl
      refine go_iload d_Mo_called_51 rfl ?_
      refine go_bipush (v := 6) d_Mo_called_53 rfl ?_
      refine go_iload d_Mo_called_55 rfl ?_
      refine go_imul d_Mo_called_57 ?_
      refine go_aload_n 0 d_Mo_called_58 rfl rfl ?_
      refine go_getR d_Mo_called_59 f_Mo_29 (by assumption) (by assumption) ?_
      refine go_iload d_Mo_called_62 rfl ?_
      refine go_iald (c) d_Mo_called_64 (by assumption) (rfl) (by omega) (by decide) ?_
      refine go_iadd d_Mo_called_65 ?_
      refine go_icmp_ge 167 d_Mo_called_66 rfl (fun hn => absurd hn (by rw [u1, hz, show (6 : Int32) * nI c + nI A.1.length = nI (6 * c + A.1.length) from ix (a := 6)]; exact nI_ge (by omega) (by omega))) (fun _ => ?_)
      refine go_aload_n 0 d_Mo_called_69 rfl rfl ?_
      refine go_iload_n 1 d_Mo_called_70 rfl rfl ?_
      refine go_iload_n 3 d_Mo_called_71 rfl rfl ?_
      refine go_aload_n 0 d_Mo_called_72 rfl rfl ?_
      refine go_getR d_Mo_called_73 f_Mo_32 (by assumption) (by assumption) ?_
      refine go_iload d_Mo_called_76 rfl ?_
      refine go_iald (6 * c + j) d_Mo_called_78 (by assumption) (hz) (by omega) (by decide) ?_
      rw [t1]
      refine go_V3 d_Mo_called_79 k_Mo_204 (by assumption) (Nat.le_of_ble_eq_true rfl) (c_Mo_side hp0 hff t4 ?_)
      rw [eA]
      refine go_lstore d_Mo_called_82 (Nat.le_of_ble_eq_true rfl) ?_
      refine go_aload_n 0 d_Mo_called_84 rfl rfl ?_
      refine go_iload_n 1 d_Mo_called_85 rfl rfl ?_
      refine go_iload_n 3 d_Mo_called_86 rfl rfl ?_
      refine go_aload_n 0 d_Mo_called_87 rfl rfl ?_
      refine go_getR d_Mo_called_88 f_Mo_35 (by assumption) (by assumption) ?_
      refine go_iload d_Mo_called_91 rfl ?_
      refine go_iald (6 * c + j) d_Mo_called_93 (by assumption) (hz) (by omega) (by decide) ?_
      rw [t2]
      refine go_V3 d_Mo_called_94 k_Mo_204 (by assumption) (Nat.le_of_ble_eq_true rfl) (c_Mo_side hp0 hff t5 ?_)
      rw [eB]
      refine go_lstore d_Mo_called_97 (Nat.le_of_ble_eq_true rfl) ?_
      simp only [gw_st1, gw_st2, gw_cl1, gw_get, gw_set, gw_big, Bool.false_eq_true, if_false, if_true, ↓reduceIte]
      refine go_lload d_Mo_called_99 rfl ?_
      refine go_lconst (v := 0) d_Mo_called_101 rfl ?_
      refine go_lcmp_lt 158 d_Mo_called_102 d_Mo_called_103 rfl (fun _ => ?_) (fun hn => by first | exact absurd hn (by decide) | exact absurd (by decide) hn)
      refine go_bipush (v := 6) d_Mo_called_158 rfl ?_
      exact go_iret d_Mo_called_160 rfl (hf (fun h => by (obtain ⟨q, q', w, h1, _⟩ := hs.mp h t List.mem_cons_self; rw [hqA] at h1; cases h1)))
    | some q => cases hqB : (ca_sy x y z0) t.2.1 with
      | none =>
        rw [hqA] at mA
        rw [hqB] at mB
        have eA : cs_v (L 549) f t.1 = lN q.1 := mA.1
        have eB : cs_v (L 549) f t.2.1 = -1 := mB
        refine go_iload d_Mo_called_51 rfl ?_
        refine go_bipush (v := 6) d_Mo_called_53 rfl ?_
        refine go_iload d_Mo_called_55 rfl ?_
        refine go_imul d_Mo_called_57 ?_
        refine go_aload_n 0 d_Mo_called_58 rfl rfl ?_
        refine go_getR d_Mo_called_59 f_Mo_29 (by assumption) (by assumption) ?_
        refine go_iload d_Mo_called_62 rfl ?_
        refine go_iald (c) d_Mo_called_64 (by assumption) (rfl) (by omega) (by decide) ?_
        refine go_iadd d_Mo_called_65 ?_
        refine go_icmp_ge 167 d_Mo_called_66 rfl (fun hn => absurd hn (by rw [u1, hz, show (6 : Int32) * nI c + nI A.1.length = nI (6 * c + A.1.length) from ix (a := 6)]; exact nI_ge (by omega) (by omega))) (fun _ => ?_)
        refine go_aload_n 0 d_Mo_called_69 rfl rfl ?_
        refine go_iload_n 1 d_Mo_called_70 rfl rfl ?_
        refine go_iload_n 3 d_Mo_called_71 rfl rfl ?_
        refine go_aload_n 0 d_Mo_called_72 rfl rfl ?_
        refine go_getR d_Mo_called_73 f_Mo_32 (by assumption) (by assumption) ?_
        refine go_iload d_Mo_called_76 rfl ?_
        refine go_iald (6 * c + j) d_Mo_called_78 (by assumption) (hz) (by omega) (by decide) ?_
        rw [t1]
        refine go_V3 d_Mo_called_79 k_Mo_204 (by assumption) (Nat.le_of_ble_eq_true rfl) (c_Mo_side hp0 hff t4 ?_)
        rw [eA]
        refine go_lstore d_Mo_called_82 (Nat.le_of_ble_eq_true rfl) ?_
        refine go_aload_n 0 d_Mo_called_84 rfl rfl ?_
        refine go_iload_n 1 d_Mo_called_85 rfl rfl ?_
        refine go_iload_n 3 d_Mo_called_86 rfl rfl ?_
        refine go_aload_n 0 d_Mo_called_87 rfl rfl ?_
        refine go_getR d_Mo_called_88 f_Mo_35 (by assumption) (by assumption) ?_
        refine go_iload d_Mo_called_91 rfl ?_
        refine go_iald (6 * c + j) d_Mo_called_93 (by assumption) (hz) (by omega) (by decide) ?_
        rw [t2]
        refine go_V3 d_Mo_called_94 k_Mo_204 (by assumption) (Nat.le_of_ble_eq_true rfl) (c_Mo_side hp0 hff t5 ?_)
        rw [eB]
        refine go_lstore d_Mo_called_97 (Nat.le_of_ble_eq_true rfl) ?_
        simp only [gw_st1, gw_st2, gw_cl1, gw_get, gw_set, gw_big, Bool.false_eq_true, if_false, if_true, ↓reduceIte]
        refine go_lload d_Mo_called_99 rfl ?_
        refine go_lconst (v := 0) d_Mo_called_101 rfl ?_
        refine go_lcmp_lt 158 d_Mo_called_102 d_Mo_called_103 rfl (fun hn => absurd hn ((fun hh => absurd ((lN_lt (b := 0) (by have := mA.2.1; omega) (by decide)).mp hh) (by omega)))) (fun _ => ?_)
        refine go_lload d_Mo_called_106 rfl ?_
        refine go_lconst (v := 0) d_Mo_called_108 rfl ?_
        refine go_lcmp_lt 158 d_Mo_called_109 d_Mo_called_110 rfl (fun _ => ?_) (fun hn => by first | exact absurd hn (by decide) | exact absurd (by decide) hn)
        refine go_bipush (v := 6) d_Mo_called_158 rfl ?_
        exact go_iret d_Mo_called_160 rfl (hf (fun h => by (obtain ⟨q1, q', w, h1, h2, _⟩ := hs.mp h t List.mem_cons_self; rw [hqB] at h2; cases h2)))
      | some q' =>
        rw [hqA] at mA
        rw [hqB] at mB
        have eA : cs_v (L 549) f t.1 = lN q.1 := mA.1
        have eB : cs_v (L 549) f t.2.1 = lN q'.1 := mB.1
        have bA := hsb t.1 t4 q hqA
        have bB := hsb t.2.1 t5 q' hqB
        refine go_iload d_Mo_called_51 rfl ?_
        refine go_bipush (v := 6) d_Mo_called_53 rfl ?_
        refine go_iload d_Mo_called_55 rfl ?_
        refine go_imul d_Mo_called_57 ?_
        refine go_aload_n 0 d_Mo_called_58 rfl rfl ?_
        refine go_getR d_Mo_called_59 f_Mo_29 (by assumption) (by assumption) ?_
        refine go_iload d_Mo_called_62 rfl ?_
        refine go_iald (c) d_Mo_called_64 (by assumption) (rfl) (by omega) (by decide) ?_
        refine go_iadd d_Mo_called_65 ?_
        refine go_icmp_ge 167 d_Mo_called_66 rfl (fun hn => absurd hn (by rw [u1, hz, show (6 : Int32) * nI c + nI A.1.length = nI (6 * c + A.1.length) from ix (a := 6)]; exact nI_ge (by omega) (by omega))) (fun _ => ?_)
        refine go_aload_n 0 d_Mo_called_69 rfl rfl ?_
        refine go_iload_n 1 d_Mo_called_70 rfl rfl ?_
        refine go_iload_n 3 d_Mo_called_71 rfl rfl ?_
        refine go_aload_n 0 d_Mo_called_72 rfl rfl ?_
        refine go_getR d_Mo_called_73 f_Mo_32 (by assumption) (by assumption) ?_
        refine go_iload d_Mo_called_76 rfl ?_
        refine go_iald (6 * c + j) d_Mo_called_78 (by assumption) (hz) (by omega) (by decide) ?_
        rw [t1]
        refine go_V3 d_Mo_called_79 k_Mo_204 (by assumption) (Nat.le_of_ble_eq_true rfl) (c_Mo_side hp0 hff t4 ?_)
        rw [eA]
        refine go_lstore d_Mo_called_82 (Nat.le_of_ble_eq_true rfl) ?_
        refine go_aload_n 0 d_Mo_called_84 rfl rfl ?_
        refine go_iload_n 1 d_Mo_called_85 rfl rfl ?_
        refine go_iload_n 3 d_Mo_called_86 rfl rfl ?_
        refine go_aload_n 0 d_Mo_called_87 rfl rfl ?_
        refine go_getR d_Mo_called_88 f_Mo_35 (by assumption) (by assumption) ?_
        refine go_iload d_Mo_called_91 rfl ?_
        refine go_iald (6 * c + j) d_Mo_called_93 (by assumption) (hz) (by omega) (by decide) ?_
        rw [t2]
        refine go_V3 d_Mo_called_94 k_Mo_204 (by assumption) (Nat.le_of_ble_eq_true rfl) (c_Mo_side hp0 hff t5 ?_)
        rw [eB]
        refine go_lstore d_Mo_called_97 (Nat.le_of_ble_eq_true rfl) ?_
        simp only [gw_st1, gw_st2, gw_cl1, gw_get, gw_set, gw_big, Bool.false_eq_true, if_false, if_true, ↓reduceIte]
        refine go_lload d_Mo_called_99 rfl ?_
        refine go_lconst (v := 0) d_Mo_called_101 rfl ?_
        refine go_lcmp_lt 158 d_Mo_called_102 d_Mo_called_103 rfl (fun hn => absurd hn ((fun hh => absurd ((lN_lt (b := 0) (by have := mA.2.1; omega) (by decide)).mp hh) (by omega)))) (fun _ => ?_)
        refine go_lload d_Mo_called_106 rfl ?_
        refine go_lconst (v := 0) d_Mo_called_108 rfl ?_
        refine go_lcmp_lt 158 d_Mo_called_109 d_Mo_called_110 rfl (fun hn => absurd hn ((fun hh => absurd ((lN_lt (b := 0) (by have := mB.2.1; omega) (by decide)).mp hh) (by omega)))) (fun _ => ?_)
        refine go_aload_n 0 d_Mo_called_113 rfl rfl ?_
        refine go_lload d_Mo_called_114 rfl ?_
        refine go_aload_n 0 d_Mo_called_116 rfl rfl ?_
        refine go_iload_n 1 d_Mo_called_117 rfl rfl ?_
        refine go_iload_n 3 d_Mo_called_118 rfl rfl ?_
        refine go_aload_n 0 d_Mo_called_119 rfl rfl ?_
        refine go_getR d_Mo_called_120 f_Mo_32 (by assumption) (by assumption) ?_
        refine go_iload d_Mo_called_123 rfl ?_
        refine go_iald (6 * c + j) d_Mo_called_125 (by assumption) (hz) (by omega) (by decide) ?_
        rw [t1]
        refine go_V3 d_Mo_called_126 k_Mo_208 (by assumption) (Nat.le_of_ble_eq_true rfl) (c_Mo_extra hp0 hff t4 ?_)
        rw [show cn_v (L 549) f t.1 = q.2 from mA.2.2]
        refine go_lload d_Mo_called_129 rfl ?_
        refine go_aload_n 0 d_Mo_called_131 rfl rfl ?_
        refine go_iload_n 1 d_Mo_called_132 rfl rfl ?_
        refine go_iload_n 3 d_Mo_called_133 rfl rfl ?_
        refine go_aload_n 0 d_Mo_called_134 rfl rfl ?_
        refine go_getR d_Mo_called_135 f_Mo_35 (by assumption) (by assumption) ?_
        refine go_iload d_Mo_called_138 rfl ?_
        refine go_iald (6 * c + j) d_Mo_called_140 (by assumption) (hz) (by omega) (by decide) ?_
        rw [t2]
        refine go_V3 d_Mo_called_141 k_Mo_208 (by assumption) (Nat.le_of_ble_eq_true rfl) (c_Mo_extra hp0 hff t5 ?_)
        rw [show cn_v (L 549) f t.2.1 = q'.2 from mB.2.2]
        refine go_aload_n 0 d_Mo_called_144 rfl rfl ?_
        refine go_getR d_Mo_called_145 f_Mo_38 (by assumption) (by assumption) ?_
        refine go_iload d_Mo_called_148 rfl ?_
        refine go_iald (6 * c + j) d_Mo_called_150 (by assumption) (hz) (by omega) (by decide) ?_
        rw [t3]
        refine go_i2l d_Mo_called_151 (rfl) ?_
        refine go_V5 d_Mo_called_152 k_Mo_200 (by assumption) (Nat.le_of_ble_eq_true rfl) (c_Mo_follows hp0 mA.2.1 mB.2.1 hbt hK (by omega) (by omega) (fun g k1 z1 => ?_))
        refine go_if_ne 161 d_Mo_called_155 rfl (fun h155 => ?_) (fun h155 => ?_)
        · refine go_iinc d_Mo_called_161 rfl rfl (Nat.le_of_ble_eq_true rfl) ?_
          refine go_goto 51 d_Mo_called_164 rfl ?_
          exact ih (j + 1) _ _ _ _ _ _ _ (gw_inc hz) (by omega) hj3 (hs.trans ⟨fun h u hu => h u (List.mem_cons_of_mem _ hu), fun h u hu => by (rcases List.mem_cons.mp hu with rfl | hu; (obtain ⟨w, hw1, hw2⟩ := k1.mp h155; exact ⟨q, q', w, hqA, hqB, hw1, hw2⟩); exact h u hu)⟩)
        · refine go_bipush (v := 6) d_Mo_called_158 rfl ?_
          exact go_iret d_Mo_called_160 rfl (hf (fun h => by (obtain ⟨q1, q2, w, h1, h2, h3, h4⟩ := hs.mp h t List.mem_cons_self; rw [hqA] at h1; cases h1; rw [hqB] at h2; cases h2; exact k1.mpr ⟨w, h3, h4⟩ h155)))
theorem c_Mo_endT0 {r md : Nat} {p : Int32} {st : List ab_Sy} {lo : Nat → ab_Sy} {E : sp_E} {b0 b1 : ab_Ba}  {c : Nat} {P : ab_Po} {s0 : ab_Ba} (hp : pt_Mo sh R) (hr : r < 42) (hc : c < 24) (hP : mp_at I (2 * c + 0) P) (hP2 : ∀ t ∈ P.2, t.1 ≤ 100)  (hf : po_no (lo) P.2 → ∀ L1 : Nat → Nat → Int64, (∀ i, i < 104 * r + 49 ∨ 104 * r + 104 ≤ i → L1 549 i = L 549 i) → (∀ q, q ≠ 549 → L1 q = L q) → Q (some (.int 9)) (n, sh, X, R, I, L1)) (next : ¬ po_no (lo) P.2 → ∀ (o6 o7 o8 o9 : Option Value) (z' : Int32) (L1 : Nat → Nat → Int64), rw_at (L1 549) (104 * r) p md st lo E (ba_add (lo) (-1 : Int32).toInt64 P.2 s0) b1 → (∀ i, i < 104 * r + 49 ∨ 104 * r + 104 ≤ i → L1 549 i = L 549 i) → (∀ q, q ≠ 549 → L1 q = L q) → gw_Go y_Mo_end (d + 2) 0 0 342 [some (.ref 533), some (.int (nI r)), some (.int (nI c)), some (.int 0), some (.int (nI (2 * c + 0))), some (.int z'), o6, o7, o8, o9] [] (n, sh, X, R, I, L1) Q) : ∀ (ts : List (Nat × Nat × Nat)) (j : Nat) (z : Int32) (L1 : Nat → Nat → Int64) (s : ab_Ba) (o6 o7 o8 o9 : Option Value), z = nI (3 * (2 * c + 0) + j) → j ≤ P.2.length → P.2.drop j = ts → rw_at (L1 549) (104 * r) p md st lo E s b1 → (∀ i, i < 104 * r + 49 ∨ 104 * r + 104 ≤ i → L1 549 i = L 549 i) → (∀ q, q ≠ 549 → L1 q = L q) → (po_no (lo) P.2 ↔ po_no (lo) ts) → ba_add (lo) (-1 : Int32).toInt64 P.2 s0 = ba_add (lo) (-1 : Int32).toInt64 ts s → gw_Go y_Mo_end (d + 2) 0 0 217 [some (.ref 533), some (.int (nI r)), some (.int (nI c)), some (.int 0), some (.int (nI (2 * c + 0))), some (.int z), o6, o7, o8, o9] [] (n, sh, X, R, I, L1) Q := by
  have hp0 := hp
  obtain ⟨s533, s534, s535, s536, s537, s538, s539, s540, s541, s542, s543, s544, s545, s546, s547, s548, s549, s550, s551, s552, s553, s554, s555, s556, s557, r534, r535, r536, r537, r538, r539, r540, r541, r542, r543, r544, r545, r546, r547, r548, r549, r550, r551, r552, r553, r554, r555, r556, r557⟩ := hp
  obtain ⟨w1, w2, w3, w4⟩ := hP
  intro ts
  induction ts with
  | nil =>
    intro j z L1 s o6 o7 o8 o9 hz hj hd hrow hfr1 hfr2 hno hs
    have hl := gw_dropE hd
    refine go_iload_n 2 d_Mo_end_217 rfl rfl ?_
    refine go_if_lt 342 d_Mo_end_218 rfl (fun hn => absurd hn (nI_pos (by omega))) (fun _ => ?_)
    refine go_iload d_Mo_end_221 rfl ?_
    refine go_iconst (v := 3) d_Mo_end_223 rfl ?_
    refine go_iload d_Mo_end_224 rfl ?_
    refine go_imul d_Mo_end_226 ?_
    refine go_aload_n 0 d_Mo_end_227 rfl rfl ?_
    refine go_getR d_Mo_end_228 f_Mo_44 (by assumption) (by assumption) ?_
    refine go_iload d_Mo_end_231 rfl ?_
    refine go_iald (2 * c + 0) d_Mo_end_233 (by assumption) (rfl) (by omega) (by decide) ?_
    refine go_iadd d_Mo_end_234 ?_
    refine go_icmp_ge 342 d_Mo_end_235 rfl (fun _ => ?_) (fun hn => absurd (by rw [w2, hz, show (3 : Int32) * nI (2 * c + 0) + nI P.2.length = nI (3 * (2 * c + 0) + P.2.length) from ix (a := 3)]; exact (nI_leI (by omega) (by omega)).mpr (by omega)) hn)
    exact next (fun h => by (obtain ⟨t, ht, _⟩ := hno.mp h; cases ht)) _ _ _ _ _ L1 (by rw [hs]; exact hrow) hfr1 hfr2
  | cons t ts ih =>
    intro j z L1 s o6 o7 o8 o9 hz hj hd hrow hfr1 hfr2 hno hs
    obtain ⟨hj1, hj2, hj3⟩ := gw_drop hd
    obtain ⟨t1, t2, t3, t4, t5⟩ := w4 j t hj2
    have ht100 := hP2 t (List.mem_of_getElem? hj2)
    have hneg : (-(nI t.1)).toInt64 = (-1 : Int32).toInt64 * (nI t.1).toInt64 := neg64 (by omega)
    have mA := hrow.ls (v := t.2.1) t4
    have mB := hrow.ls (v := t.2.2) t5
    cases hqA : (lo) t.2.1 with
    | none =>
      rw [hqA] at mA
      have eA : ls_v (L1 549) (104 * r) t.2.1 = -1 := mA
      have eB : ls_v (L1 549) (104 * r) t.2.2 = ls_v (L1 549) (104 * r) t.2.2 := rfl
      refine go_iload_n 2 d_Mo_end_217 rfl rfl ?_
      refine go_if_lt 342 d_Mo_end_218 rfl (fun hn => absurd hn (nI_pos (by omega))) (fun _ => ?_)
      refine go_iload d_Mo_end_221 rfl ?_
      refine go_iconst (v := 3) d_Mo_end_223 rfl ?_
      refine go_iload d_Mo_end_224 rfl ?_
      refine go_imul d_Mo_end_226 ?_
      refine go_aload_n 0 d_Mo_end_227 rfl rfl ?_
      refine go_getR d_Mo_end_228 f_Mo_44 (by assumption) (by assumption) ?_
      refine go_iload d_Mo_end_231 rfl ?_
      refine go_iald (2 * c + 0) d_Mo_end_233 (by assumption) (rfl) (by omega) (by decide) ?_
      refine go_iadd d_Mo_end_234 ?_
      refine go_icmp_ge 342 d_Mo_end_235 rfl (fun hn => absurd hn (by rw [w2, hz, show (3 : Int32) * nI (2 * c + 0) + nI P.2.length = nI (3 * (2 * c + 0) + P.2.length) from ix (a := 3)]; exact nI_ge (by omega) (by omega))) (fun _ => ?_)
      refine go_aload_n 0 d_Mo_end_238 rfl rfl ?_
      refine go_iload_n 1 d_Mo_end_239 rfl rfl ?_
      refine go_aload_n 0 d_Mo_end_240 rfl rfl ?_
      refine go_getR d_Mo_end_241 f_Mo_50 (by assumption) (by assumption) ?_
      refine go_iload d_Mo_end_244 rfl ?_
      refine go_iald (3 * (2 * c + 0) + j) d_Mo_end_246 (by assumption) (hz) (by omega) (by decide) ?_
      rw [t2]
      refine go_V2 d_Mo_end_247 k_Mo_211 (by assumption) (Nat.le_of_ble_eq_true rfl) (c_Mo_localSide hp0 hr t4 ?_)
      rw [eA]
      refine go_lstore d_Mo_end_250 (Nat.le_of_ble_eq_true rfl) ?_
      refine go_aload_n 0 d_Mo_end_252 rfl rfl ?_
      refine go_iload_n 1 d_Mo_end_253 rfl rfl ?_
      refine go_aload_n 0 d_Mo_end_254 rfl rfl ?_
      refine go_getR d_Mo_end_255 f_Mo_53 (by assumption) (by assumption) ?_
      refine go_iload d_Mo_end_258 rfl ?_
      refine go_iald (3 * (2 * c + 0) + j) d_Mo_end_260 (by assumption) (hz) (by omega) (by decide) ?_
      rw [t3]
      refine go_V2 d_Mo_end_261 k_Mo_211 (by assumption) (Nat.le_of_ble_eq_true rfl) (c_Mo_localSide hp0 hr t5 ?_)
      rw [eB]
      refine go_lstore d_Mo_end_264 (Nat.le_of_ble_eq_true rfl) ?_
      simp only [gw_st1, gw_st2, gw_cl1, gw_get, gw_set, gw_big, Bool.false_eq_true, if_false, if_true, ↓reduceIte]
      refine go_lload d_Mo_end_266 rfl ?_
      refine go_lconst (v := 0) d_Mo_end_268 rfl ?_
      refine go_lcmp_lt 280 d_Mo_end_269 d_Mo_end_270 rfl (fun _ => ?_) (fun hn => by first | exact absurd hn (by decide) | exact absurd (by decide) hn)
      refine go_bipush (v := 9) d_Mo_end_280 rfl ?_
      exact go_iret d_Mo_end_282 rfl (hf (hno.mpr ⟨t, List.mem_cons_self, Or.inl hqA⟩) L1 hfr1 hfr2)
    | some q => cases hqB : (lo) t.2.2 with
      | none =>
        rw [hqA] at mA
        rw [hqB] at mB
        have eA : ls_v (L1 549) (104 * r) t.2.1 = lN q.1 := mA.1
        have eB : ls_v (L1 549) (104 * r) t.2.2 = -1 := mB
        refine go_iload_n 2 d_Mo_end_217 rfl rfl ?_
        refine go_if_lt 342 d_Mo_end_218 rfl (fun hn => absurd hn (nI_pos (by omega))) (fun _ => ?_)
        refine go_iload d_Mo_end_221 rfl ?_
        refine go_iconst (v := 3) d_Mo_end_223 rfl ?_
        refine go_iload d_Mo_end_224 rfl ?_
        refine go_imul d_Mo_end_226 ?_
        refine go_aload_n 0 d_Mo_end_227 rfl rfl ?_
        refine go_getR d_Mo_end_228 f_Mo_44 (by assumption) (by assumption) ?_
        refine go_iload d_Mo_end_231 rfl ?_
        refine go_iald (2 * c + 0) d_Mo_end_233 (by assumption) (rfl) (by omega) (by decide) ?_
        refine go_iadd d_Mo_end_234 ?_
        refine go_icmp_ge 342 d_Mo_end_235 rfl (fun hn => absurd hn (by rw [w2, hz, show (3 : Int32) * nI (2 * c + 0) + nI P.2.length = nI (3 * (2 * c + 0) + P.2.length) from ix (a := 3)]; exact nI_ge (by omega) (by omega))) (fun _ => ?_)
        refine go_aload_n 0 d_Mo_end_238 rfl rfl ?_
        refine go_iload_n 1 d_Mo_end_239 rfl rfl ?_
        refine go_aload_n 0 d_Mo_end_240 rfl rfl ?_
        refine go_getR d_Mo_end_241 f_Mo_50 (by assumption) (by assumption) ?_
        refine go_iload d_Mo_end_244 rfl ?_
        refine go_iald (3 * (2 * c + 0) + j) d_Mo_end_246 (by assumption) (hz) (by omega) (by decide) ?_
        rw [t2]
        refine go_V2 d_Mo_end_247 k_Mo_211 (by assumption) (Nat.le_of_ble_eq_true rfl) (c_Mo_localSide hp0 hr t4 ?_)
        rw [eA]
        refine go_lstore d_Mo_end_250 (Nat.le_of_ble_eq_true rfl) ?_
        refine go_aload_n 0 d_Mo_end_252 rfl rfl ?_
        refine go_iload_n 1 d_Mo_end_253 rfl rfl ?_
        refine go_aload_n 0 d_Mo_end_254 rfl rfl ?_
        refine go_getR d_Mo_end_255 f_Mo_53 (by assumption) (by assumption) ?_
        refine go_iload d_Mo_end_258 rfl ?_
        refine go_iald (3 * (2 * c + 0) + j) d_Mo_end_260 (by assumption) (hz) (by omega) (by decide) ?_
        rw [t3]
        refine go_V2 d_Mo_end_261 k_Mo_211 (by assumption) (Nat.le_of_ble_eq_true rfl) (c_Mo_localSide hp0 hr t5 ?_)
        rw [eB]
        refine go_lstore d_Mo_end_264 (Nat.le_of_ble_eq_true rfl) ?_
        simp only [gw_st1, gw_st2, gw_cl1, gw_get, gw_set, gw_big, Bool.false_eq_true, if_false, if_true, ↓reduceIte]
        refine go_lload d_Mo_end_266 rfl ?_
        refine go_lconst (v := 0) d_Mo_end_268 rfl ?_
        refine go_lcmp_lt 280 d_Mo_end_269 d_Mo_end_270 rfl (fun hn => absurd hn ((fun hh => absurd ((lN_lt (b := 0) (by have := mA.2.1; omega) (by decide)).mp hh) (by omega)))) (fun _ => ?_)
        refine go_lload d_Mo_end_273 rfl ?_
        refine go_lconst (v := 0) d_Mo_end_275 rfl ?_
        refine go_lcmp_ge 283 d_Mo_end_276 d_Mo_end_277 rfl (fun hn => absurd hn ((fun hh => hh (by decide)))) (fun _ => ?_)
        refine go_bipush (v := 9) d_Mo_end_280 rfl ?_
        exact go_iret d_Mo_end_282 rfl (hf (hno.mpr ⟨t, List.mem_cons_self, Or.inr hqB⟩) L1 hfr1 hfr2)
      | some q' =>
        rw [hqA] at mA
        rw [hqB] at mB
        have eA : ls_v (L1 549) (104 * r) t.2.1 = lN q.1 := mA.1
        have eB : ls_v (L1 549) (104 * r) t.2.2 = lN q'.1 := mB.1
        refine go_iload_n 2 d_Mo_end_217 rfl rfl ?_
        refine go_if_lt 342 d_Mo_end_218 rfl (fun hn => absurd hn (nI_pos (by omega))) (fun _ => ?_)
        refine go_iload d_Mo_end_221 rfl ?_
        refine go_iconst (v := 3) d_Mo_end_223 rfl ?_
        refine go_iload d_Mo_end_224 rfl ?_
        refine go_imul d_Mo_end_226 ?_
        refine go_aload_n 0 d_Mo_end_227 rfl rfl ?_
        refine go_getR d_Mo_end_228 f_Mo_44 (by assumption) (by assumption) ?_
        refine go_iload d_Mo_end_231 rfl ?_
        refine go_iald (2 * c + 0) d_Mo_end_233 (by assumption) (rfl) (by omega) (by decide) ?_
        refine go_iadd d_Mo_end_234 ?_
        refine go_icmp_ge 342 d_Mo_end_235 rfl (fun hn => absurd hn (by rw [w2, hz, show (3 : Int32) * nI (2 * c + 0) + nI P.2.length = nI (3 * (2 * c + 0) + P.2.length) from ix (a := 3)]; exact nI_ge (by omega) (by omega))) (fun _ => ?_)
        refine go_aload_n 0 d_Mo_end_238 rfl rfl ?_
        refine go_iload_n 1 d_Mo_end_239 rfl rfl ?_
        refine go_aload_n 0 d_Mo_end_240 rfl rfl ?_
        refine go_getR d_Mo_end_241 f_Mo_50 (by assumption) (by assumption) ?_
        refine go_iload d_Mo_end_244 rfl ?_
        refine go_iald (3 * (2 * c + 0) + j) d_Mo_end_246 (by assumption) (hz) (by omega) (by decide) ?_
        rw [t2]
        refine go_V2 d_Mo_end_247 k_Mo_211 (by assumption) (Nat.le_of_ble_eq_true rfl) (c_Mo_localSide hp0 hr t4 ?_)
        rw [eA]
        refine go_lstore d_Mo_end_250 (Nat.le_of_ble_eq_true rfl) ?_
        refine go_aload_n 0 d_Mo_end_252 rfl rfl ?_
        refine go_iload_n 1 d_Mo_end_253 rfl rfl ?_
        refine go_aload_n 0 d_Mo_end_254 rfl rfl ?_
        refine go_getR d_Mo_end_255 f_Mo_53 (by assumption) (by assumption) ?_
        refine go_iload d_Mo_end_258 rfl ?_
        refine go_iald (3 * (2 * c + 0) + j) d_Mo_end_260 (by assumption) (hz) (by omega) (by decide) ?_
        rw [t3]
        refine go_V2 d_Mo_end_261 k_Mo_211 (by assumption) (Nat.le_of_ble_eq_true rfl) (c_Mo_localSide hp0 hr t5 ?_)
        rw [eB]
        refine go_lstore d_Mo_end_264 (Nat.le_of_ble_eq_true rfl) ?_
        simp only [gw_st1, gw_st2, gw_cl1, gw_get, gw_set, gw_big, Bool.false_eq_true, if_false, if_true, ↓reduceIte]
        refine go_lload d_Mo_end_266 rfl ?_
        refine go_lconst (v := 0) d_Mo_end_268 rfl ?_
        refine go_lcmp_lt 280 d_Mo_end_269 d_Mo_end_270 rfl (fun hn => absurd hn ((fun hh => absurd ((lN_lt (b := 0) (by have := mA.2.1; omega) (by decide)).mp hh) (by omega)))) (fun _ => ?_)
        refine go_lload d_Mo_end_273 rfl ?_
        refine go_lconst (v := 0) d_Mo_end_275 rfl ?_
        refine go_lcmp_ge 283 d_Mo_end_276 d_Mo_end_277 rfl (fun _ => ?_) (fun hn => by first | exact absurd hn ((fun hh => absurd ((lN_lt (b := 0) (by have := mB.2.1; omega) (by decide)).mp hh) (by omega))) | exact absurd ((fun hh => absurd ((lN_lt (b := 0) (by have := mB.2.1; omega) (by decide)).mp hh) (by omega))) hn)
        refine go_aload_n 0 d_Mo_end_283 rfl rfl ?_
        refine go_iload_n 1 d_Mo_end_284 rfl rfl ?_
        refine go_iload_n 3 d_Mo_end_285 rfl rfl ?_
        refine go_if_ne 294 d_Mo_end_286 rfl (fun hn => absurd hn (fun hh => hh rfl)) (fun _ => ?_)
        refine go_bipush (v := 49) d_Mo_end_289 rfl ?_
        refine go_goto 296 d_Mo_end_291 rfl ?_
        refine go_aload_n 0 d_Mo_end_296 rfl rfl ?_
        refine go_getR d_Mo_end_297 f_Mo_47 (by assumption) (by assumption) ?_
        refine go_iload d_Mo_end_300 rfl ?_
        refine go_iald (3 * (2 * c + 0) + j) d_Mo_end_302 (by assumption) (hz) (by omega) (by decide) ?_
        rw [t1]
        refine go_ineg d_Mo_end_303 ?_
        refine go_i2l d_Mo_end_304 (rfl) ?_
        rw [hneg]
        refine go_lload d_Mo_end_305 rfl ?_
        refine go_aload_n 0 d_Mo_end_307 rfl rfl ?_
        refine go_iload_n 1 d_Mo_end_308 rfl rfl ?_
        refine go_aload_n 0 d_Mo_end_309 rfl rfl ?_
        refine go_getR d_Mo_end_310 f_Mo_50 (by assumption) (by assumption) ?_
        refine go_iload d_Mo_end_313 rfl ?_
        refine go_iald (3 * (2 * c + 0) + j) d_Mo_end_315 (by assumption) (hz) (by omega) (by decide) ?_
        rw [t2]
        refine go_V2 d_Mo_end_316 k_Mo_215 (by assumption) (Nat.le_of_ble_eq_true rfl) (c_Mo_localNumber hp0 hr t4 ?_)
        rw [show ln_v (L1 549) (104 * r) t.2.1 = q.2 from mA.2.2]
        refine go_lload d_Mo_end_319 rfl ?_
        refine go_aload_n 0 d_Mo_end_321 rfl rfl ?_
        refine go_iload_n 1 d_Mo_end_322 rfl rfl ?_
        refine go_aload_n 0 d_Mo_end_323 rfl rfl ?_
        refine go_getR d_Mo_end_324 f_Mo_53 (by assumption) (by assumption) ?_
        refine go_iload d_Mo_end_327 rfl ?_
        refine go_iald (3 * (2 * c + 0) + j) d_Mo_end_329 (by assumption) (hz) (by omega) (by decide) ?_
        rw [t3]
        refine go_W2 d_Mo_end_330 k_Mo_215 (by assumption) (Nat.le_of_ble_eq_true rfl) (Nat.le_of_ble_eq_true rfl) (gw_w4 167 rfl rfl) (c_Mo_localNumber hp0 hr t5 ?_)
        rw [show ln_v (L1 549) (104 * r) t.2.2 = q'.2 from mB.2.2]
        refine go_V7 d_Mo_end_333 k_Mo_135 (by assumption) (Nat.le_of_ble_eq_true rfl) (c_Mo_addTerm0 (p := p) (md := md) (st := st) (lo := lo) (E := E) (b0 := s) (b1 := b1) hp0 hr mA.2.1 mB.2.1 hrow (fun L2 c1 c2 c3 => ?_))
        refine go_iinc d_Mo_end_336 rfl rfl (Nat.le_of_ble_eq_true rfl) ?_
        refine go_goto 217 d_Mo_end_339 rfl ?_
        exact ih (j + 1) _ L2 _ _ _ _ _ (gw_inc hz) (by omega) hj3 c1 (fun i hi => by rw [c2 i (by omega)]; exact hfr1 i hi) (fun q hq => by rw [c3 q hq]; exact hfr2 q hq) (hno.trans ⟨fun ⟨u, hu, h⟩ => by (rcases List.mem_cons.mp hu with rfl | hu; (rw [hqA, hqB] at h; rcases h with h | h <;> cases h); exact ⟨u, hu, h⟩), fun ⟨u, hu, h⟩ => ⟨u, List.mem_cons_of_mem _ hu, h⟩⟩) (by rw [hs]; show (match (lo) t.2.1, (lo) t.2.2 with | some q, some r => ba_add (lo) (-1 : Int32).toInt64 ts (ba_T s.1 q.1 r.1 ((-1 : Int32).toInt64 * (nI t.1).toInt64), s.2 + (-1 : Int32).toInt64 * (nI t.1).toInt64 * (q.2 - r.2)) | _, _ => ba_add (lo) (-1 : Int32).toInt64 ts s) = _; rw [hqA, hqB])
theorem c_Mo_endT1 {r md : Nat} {p : Int32} {st : List ab_Sy} {lo : Nat → ab_Sy} {E : sp_E} {b0 b1 : ab_Ba}  {c : Nat} {P : ab_Po} {s0 : ab_Ba} (hp : pt_Mo sh R) (hr : r < 42) (hc : c < 24) (hP : mp_at I (2 * c + 1) P) (hP2 : ∀ t ∈ P.2, t.1 ≤ 100)  (hf : po_no (lo) P.2 → ∀ L1 : Nat → Nat → Int64, (∀ i, i < 104 * r + 49 ∨ 104 * r + 104 ≤ i → L1 549 i = L 549 i) → (∀ q, q ≠ 549 → L1 q = L q) → Q (some (.int 9)) (n, sh, X, R, I, L1)) (next : ¬ po_no (lo) P.2 → ∀ (o6 o7 o8 o9 : Option Value) (z' : Int32) (L1 : Nat → Nat → Int64), rw_at (L1 549) (104 * r) p md st lo E b0 (ba_add (lo) (-1 : Int32).toInt64 P.2 s0) → (∀ i, i < 104 * r + 49 ∨ 104 * r + 104 ≤ i → L1 549 i = L 549 i) → (∀ q, q ≠ 549 → L1 q = L q) → gw_Go y_Mo_end (d + 2) 0 0 342 [some (.ref 533), some (.int (nI r)), some (.int (nI c)), some (.int 1), some (.int (nI (2 * c + 1))), some (.int z'), o6, o7, o8, o9] [] (n, sh, X, R, I, L1) Q) : ∀ (ts : List (Nat × Nat × Nat)) (j : Nat) (z : Int32) (L1 : Nat → Nat → Int64) (s : ab_Ba) (o6 o7 o8 o9 : Option Value), z = nI (3 * (2 * c + 1) + j) → j ≤ P.2.length → P.2.drop j = ts → rw_at (L1 549) (104 * r) p md st lo E b0 s → (∀ i, i < 104 * r + 49 ∨ 104 * r + 104 ≤ i → L1 549 i = L 549 i) → (∀ q, q ≠ 549 → L1 q = L q) → (po_no (lo) P.2 ↔ po_no (lo) ts) → ba_add (lo) (-1 : Int32).toInt64 P.2 s0 = ba_add (lo) (-1 : Int32).toInt64 ts s → gw_Go y_Mo_end (d + 2) 0 0 217 [some (.ref 533), some (.int (nI r)), some (.int (nI c)), some (.int 1), some (.int (nI (2 * c + 1))), some (.int z), o6, o7, o8, o9] [] (n, sh, X, R, I, L1) Q := by
  have hp0 := hp
  obtain ⟨s533, s534, s535, s536, s537, s538, s539, s540, s541, s542, s543, s544, s545, s546, s547, s548, s549, s550, s551, s552, s553, s554, s555, s556, s557, r534, r535, r536, r537, r538, r539, r540, r541, r542, r543, r544, r545, r546, r547, r548, r549, r550, r551, r552, r553, r554, r555, r556, r557⟩ := hp
  obtain ⟨w1, w2, w3, w4⟩ := hP
  intro ts
  induction ts with
  | nil =>
    intro j z L1 s o6 o7 o8 o9 hz hj hd hrow hfr1 hfr2 hno hs
    have hl := gw_dropE hd
    refine go_iload_n 2 d_Mo_end_217 rfl rfl ?_
    refine go_if_lt 342 d_Mo_end_218 rfl (fun hn => absurd hn (nI_pos (by omega))) (fun _ => ?_)
    refine go_iload d_Mo_end_221 rfl ?_
    refine go_iconst (v := 3) d_Mo_end_223 rfl ?_
    refine go_iload d_Mo_end_224 rfl ?_
    refine go_imul d_Mo_end_226 ?_
    refine go_aload_n 0 d_Mo_end_227 rfl rfl ?_
    refine go_getR d_Mo_end_228 f_Mo_44 (by assumption) (by assumption) ?_
    refine go_iload d_Mo_end_231 rfl ?_
    refine go_iald (2 * c + 1) d_Mo_end_233 (by assumption) (rfl) (by omega) (by decide) ?_
    refine go_iadd d_Mo_end_234 ?_
    refine go_icmp_ge 342 d_Mo_end_235 rfl (fun _ => ?_) (fun hn => absurd (by rw [w2, hz, show (3 : Int32) * nI (2 * c + 1) + nI P.2.length = nI (3 * (2 * c + 1) + P.2.length) from ix (a := 3)]; exact (nI_leI (by omega) (by omega)).mpr (by omega)) hn)
    exact next (fun h => by (obtain ⟨t, ht, _⟩ := hno.mp h; cases ht)) _ _ _ _ _ L1 (by rw [hs]; exact hrow) hfr1 hfr2
  | cons t ts ih =>
    intro j z L1 s o6 o7 o8 o9 hz hj hd hrow hfr1 hfr2 hno hs
    obtain ⟨hj1, hj2, hj3⟩ := gw_drop hd
    obtain ⟨t1, t2, t3, t4, t5⟩ := w4 j t hj2
    have ht100 := hP2 t (List.mem_of_getElem? hj2)
    have hneg : (-(nI t.1)).toInt64 = (-1 : Int32).toInt64 * (nI t.1).toInt64 := neg64 (by omega)
    have mA := hrow.ls (v := t.2.1) t4
    have mB := hrow.ls (v := t.2.2) t5
    cases hqA : (lo) t.2.1 with
    | none =>
      rw [hqA] at mA
      have eA : ls_v (L1 549) (104 * r) t.2.1 = -1 := mA
      have eB : ls_v (L1 549) (104 * r) t.2.2 = ls_v (L1 549) (104 * r) t.2.2 := rfl
      refine go_iload_n 2 d_Mo_end_217 rfl rfl ?_
      refine go_if_lt 342 d_Mo_end_218 rfl (fun hn => absurd hn (nI_pos (by omega))) (fun _ => ?_)
      refine go_iload d_Mo_end_221 rfl ?_
      refine go_iconst (v := 3) d_Mo_end_223 rfl ?_
      refine go_iload d_Mo_end_224 rfl ?_
      refine go_imul d_Mo_end_226 ?_
      refine go_aload_n 0 d_Mo_end_227 rfl rfl ?_
      refine go_getR d_Mo_end_228 f_Mo_44 (by assumption) (by assumption) ?_
      refine go_iload d_Mo_end_231 rfl ?_
      refine go_iald (2 * c + 1) d_Mo_end_233 (by assumption) (rfl) (by omega) (by decide) ?_
      refine go_iadd d_Mo_end_234 ?_
      refine go_icmp_ge 342 d_Mo_end_235 rfl (fun hn => absurd hn (by rw [w2, hz, show (3 : Int32) * nI (2 * c + 1) + nI P.2.length = nI (3 * (2 * c + 1) + P.2.length) from ix (a := 3)]; exact nI_ge (by omega) (by omega))) (fun _ => ?_)
      refine go_aload_n 0 d_Mo_end_238 rfl rfl ?_
      refine go_iload_n 1 d_Mo_end_239 rfl rfl ?_
      refine go_aload_n 0 d_Mo_end_240 rfl rfl ?_
      refine go_getR d_Mo_end_241 f_Mo_50 (by assumption) (by assumption) ?_
      refine go_iload d_Mo_end_244 rfl ?_
      refine go_iald (3 * (2 * c + 1) + j) d_Mo_end_246 (by assumption) (hz) (by omega) (by decide) ?_
      rw [t2]
      refine go_V2 d_Mo_end_247 k_Mo_211 (by assumption) (Nat.le_of_ble_eq_true rfl) (c_Mo_localSide hp0 hr t4 ?_)
      rw [eA]
      refine go_lstore d_Mo_end_250 (Nat.le_of_ble_eq_true rfl) ?_
      refine go_aload_n 0 d_Mo_end_252 rfl rfl ?_
      refine go_iload_n 1 d_Mo_end_253 rfl rfl ?_
      refine go_aload_n 0 d_Mo_end_254 rfl rfl ?_
      refine go_getR d_Mo_end_255 f_Mo_53 (by assumption) (by assumption) ?_
      refine go_iload d_Mo_end_258 rfl ?_
      refine go_iald (3 * (2 * c + 1) + j) d_Mo_end_260 (by assumption) (hz) (by omega) (by decide) ?_
      rw [t3]
      refine go_V2 d_Mo_end_261 k_Mo_211 (by assumption) (Nat.le_of_ble_eq_true rfl) (c_Mo_localSide hp0 hr t5 ?_)
      rw [eB]
      refine go_lstore d_Mo_end_264 (Nat.le_of_ble_eq_true rfl) ?_
      simp only [gw_st1, gw_st2, gw_cl1, gw_get, gw_set, gw_big, Bool.false_eq_true, if_false, if_true, ↓reduceIte]
      refine go_lload d_Mo_end_266 rfl ?_
      refine go_lconst (v := 0) d_Mo_end_268 rfl ?_
      refine go_lcmp_lt 280 d_Mo_end_269 d_Mo_end_270 rfl (fun _ => ?_) (fun hn => by first | exact absurd hn (by decide) | exact absurd (by decide) hn)
      refine go_bipush (v := 9) d_Mo_end_280 rfl ?_
      exact go_iret d_Mo_end_282 rfl (hf (hno.mpr ⟨t, List.mem_cons_self, Or.inl hqA⟩) L1 hfr1 hfr2)
    | some q => cases hqB : (lo) t.2.2 with
      | none =>
        rw [hqA] at mA
        rw [hqB] at mB
        have eA : ls_v (L1 549) (104 * r) t.2.1 = lN q.1 := mA.1
        have eB : ls_v (L1 549) (104 * r) t.2.2 = -1 := mB
        refine go_iload_n 2 d_Mo_end_217 rfl rfl ?_
        refine go_if_lt 342 d_Mo_end_218 rfl (fun hn => absurd hn (nI_pos (by omega))) (fun _ => ?_)
        refine go_iload d_Mo_end_221 rfl ?_
        refine go_iconst (v := 3) d_Mo_end_223 rfl ?_
        refine go_iload d_Mo_end_224 rfl ?_
        refine go_imul d_Mo_end_226 ?_
        refine go_aload_n 0 d_Mo_end_227 rfl rfl ?_
        refine go_getR d_Mo_end_228 f_Mo_44 (by assumption) (by assumption) ?_
        refine go_iload d_Mo_end_231 rfl ?_
        refine go_iald (2 * c + 1) d_Mo_end_233 (by assumption) (rfl) (by omega) (by decide) ?_
        refine go_iadd d_Mo_end_234 ?_
        refine go_icmp_ge 342 d_Mo_end_235 rfl (fun hn => absurd hn (by rw [w2, hz, show (3 : Int32) * nI (2 * c + 1) + nI P.2.length = nI (3 * (2 * c + 1) + P.2.length) from ix (a := 3)]; exact nI_ge (by omega) (by omega))) (fun _ => ?_)
        refine go_aload_n 0 d_Mo_end_238 rfl rfl ?_
        refine go_iload_n 1 d_Mo_end_239 rfl rfl ?_
        refine go_aload_n 0 d_Mo_end_240 rfl rfl ?_
        refine go_getR d_Mo_end_241 f_Mo_50 (by assumption) (by assumption) ?_
        refine go_iload d_Mo_end_244 rfl ?_
        refine go_iald (3 * (2 * c + 1) + j) d_Mo_end_246 (by assumption) (hz) (by omega) (by decide) ?_
        rw [t2]
        refine go_V2 d_Mo_end_247 k_Mo_211 (by assumption) (Nat.le_of_ble_eq_true rfl) (c_Mo_localSide hp0 hr t4 ?_)
        rw [eA]
        refine go_lstore d_Mo_end_250 (Nat.le_of_ble_eq_true rfl) ?_
        refine go_aload_n 0 d_Mo_end_252 rfl rfl ?_
        refine go_iload_n 1 d_Mo_end_253 rfl rfl ?_
        refine go_aload_n 0 d_Mo_end_254 rfl rfl ?_
        refine go_getR d_Mo_end_255 f_Mo_53 (by assumption) (by assumption) ?_
        refine go_iload d_Mo_end_258 rfl ?_
        refine go_iald (3 * (2 * c + 1) + j) d_Mo_end_260 (by assumption) (hz) (by omega) (by decide) ?_
        rw [t3]
        refine go_V2 d_Mo_end_261 k_Mo_211 (by assumption) (Nat.le_of_ble_eq_true rfl) (c_Mo_localSide hp0 hr t5 ?_)
        rw [eB]
        refine go_lstore d_Mo_end_264 (Nat.le_of_ble_eq_true rfl) ?_
        simp only [gw_st1, gw_st2, gw_cl1, gw_get, gw_set, gw_big, Bool.false_eq_true, if_false, if_true, ↓reduceIte]
        refine go_lload d_Mo_end_266 rfl ?_
        refine go_lconst (v := 0) d_Mo_end_268 rfl ?_
        refine go_lcmp_lt 280 d_Mo_end_269 d_Mo_end_270 rfl (fun hn => absurd hn ((fun hh => absurd ((lN_lt (b := 0) (by have := mA.2.1; omega) (by decide)).mp hh) (by omega)))) (fun _ => ?_)
        refine go_lload d_Mo_end_273 rfl ?_
        refine go_lconst (v := 0) d_Mo_end_275 rfl ?_
        refine go_lcmp_ge 283 d_Mo_end_276 d_Mo_end_277 rfl (fun hn => absurd hn ((fun hh => hh (by decide)))) (fun _ => ?_)
        refine go_bipush (v := 9) d_Mo_end_280 rfl ?_
        exact go_iret d_Mo_end_282 rfl (hf (hno.mpr ⟨t, List.mem_cons_self, Or.inr hqB⟩) L1 hfr1 hfr2)
      | some q' =>
        rw [hqA] at mA
        rw [hqB] at mB
        have eA : ls_v (L1 549) (104 * r) t.2.1 = lN q.1 := mA.1
        have eB : ls_v (L1 549) (104 * r) t.2.2 = lN q'.1 := mB.1
        refine go_iload_n 2 d_Mo_end_217 rfl rfl ?_
        refine go_if_lt 342 d_Mo_end_218 rfl (fun hn => absurd hn (nI_pos (by omega))) (fun _ => ?_)
        refine go_iload d_Mo_end_221 rfl ?_
        refine go_iconst (v := 3) d_Mo_end_223 rfl ?_
        refine go_iload d_Mo_end_224 rfl ?_
        refine go_imul d_Mo_end_226 ?_
        refine go_aload_n 0 d_Mo_end_227 rfl rfl ?_
        refine go_getR d_Mo_end_228 f_Mo_44 (by assumption) (by assumption) ?_
        refine go_iload d_Mo_end_231 rfl ?_
        refine go_iald (2 * c + 1) d_Mo_end_233 (by assumption) (rfl) (by omega) (by decide) ?_
        refine go_iadd d_Mo_end_234 ?_
        refine go_icmp_ge 342 d_Mo_end_235 rfl (fun hn => absurd hn (by rw [w2, hz, show (3 : Int32) * nI (2 * c + 1) + nI P.2.length = nI (3 * (2 * c + 1) + P.2.length) from ix (a := 3)]; exact nI_ge (by omega) (by omega))) (fun _ => ?_)
        refine go_aload_n 0 d_Mo_end_238 rfl rfl ?_
        refine go_iload_n 1 d_Mo_end_239 rfl rfl ?_
        refine go_aload_n 0 d_Mo_end_240 rfl rfl ?_
        refine go_getR d_Mo_end_241 f_Mo_50 (by assumption) (by assumption) ?_
        refine go_iload d_Mo_end_244 rfl ?_
        refine go_iald (3 * (2 * c + 1) + j) d_Mo_end_246 (by assumption) (hz) (by omega) (by decide) ?_
        rw [t2]
        refine go_V2 d_Mo_end_247 k_Mo_211 (by assumption) (Nat.le_of_ble_eq_true rfl) (c_Mo_localSide hp0 hr t4 ?_)
        rw [eA]
        refine go_lstore d_Mo_end_250 (Nat.le_of_ble_eq_true rfl) ?_
        refine go_aload_n 0 d_Mo_end_252 rfl rfl ?_
        refine go_iload_n 1 d_Mo_end_253 rfl rfl ?_
        refine go_aload_n 0 d_Mo_end_254 rfl rfl ?_
        refine go_getR d_Mo_end_255 f_Mo_53 (by assumption) (by assumption) ?_
        refine go_iload d_Mo_end_258 rfl ?_
        refine go_iald (3 * (2 * c + 1) + j) d_Mo_end_260 (by assumption) (hz) (by omega) (by decide) ?_
        rw [t3]
        refine go_V2 d_Mo_end_261 k_Mo_211 (by assumption) (Nat.le_of_ble_eq_true rfl) (c_Mo_localSide hp0 hr t5 ?_)
        rw [eB]
        refine go_lstore d_Mo_end_264 (Nat.le_of_ble_eq_true rfl) ?_
        simp only [gw_st1, gw_st2, gw_cl1, gw_get, gw_set, gw_big, Bool.false_eq_true, if_false, if_true, ↓reduceIte]
        refine go_lload d_Mo_end_266 rfl ?_
        refine go_lconst (v := 0) d_Mo_end_268 rfl ?_
        refine go_lcmp_lt 280 d_Mo_end_269 d_Mo_end_270 rfl (fun hn => absurd hn ((fun hh => absurd ((lN_lt (b := 0) (by have := mA.2.1; omega) (by decide)).mp hh) (by omega)))) (fun _ => ?_)
        refine go_lload d_Mo_end_273 rfl ?_
        refine go_lconst (v := 0) d_Mo_end_275 rfl ?_
        refine go_lcmp_ge 283 d_Mo_end_276 d_Mo_end_277 rfl (fun _ => ?_) (fun hn => by first | exact absurd hn ((fun hh => absurd ((lN_lt (b := 0) (by have := mB.2.1; omega) (by decide)).mp hh) (by omega))) | exact absurd ((fun hh => absurd ((lN_lt (b := 0) (by have := mB.2.1; omega) (by decide)).mp hh) (by omega))) hn)
        refine go_aload_n 0 d_Mo_end_283 rfl rfl ?_
        refine go_iload_n 1 d_Mo_end_284 rfl rfl ?_
        refine go_iload_n 3 d_Mo_end_285 rfl rfl ?_
        refine go_if_ne 294 d_Mo_end_286 rfl (fun _ => ?_) (fun hn => by first | exact absurd hn (by decide) | exact absurd (by decide) hn)
        refine go_bipush (v := 74) d_Mo_end_294 rfl ?_
        refine go_aload_n 0 d_Mo_end_296 rfl rfl ?_
        refine go_getR d_Mo_end_297 f_Mo_47 (by assumption) (by assumption) ?_
        refine go_iload d_Mo_end_300 rfl ?_
        refine go_iald (3 * (2 * c + 1) + j) d_Mo_end_302 (by assumption) (hz) (by omega) (by decide) ?_
        rw [t1]
        refine go_ineg d_Mo_end_303 ?_
        refine go_i2l d_Mo_end_304 (rfl) ?_
        rw [hneg]
        refine go_lload d_Mo_end_305 rfl ?_
        refine go_aload_n 0 d_Mo_end_307 rfl rfl ?_
        refine go_iload_n 1 d_Mo_end_308 rfl rfl ?_
        refine go_aload_n 0 d_Mo_end_309 rfl rfl ?_
        refine go_getR d_Mo_end_310 f_Mo_50 (by assumption) (by assumption) ?_
        refine go_iload d_Mo_end_313 rfl ?_
        refine go_iald (3 * (2 * c + 1) + j) d_Mo_end_315 (by assumption) (hz) (by omega) (by decide) ?_
        rw [t2]
        refine go_V2 d_Mo_end_316 k_Mo_215 (by assumption) (Nat.le_of_ble_eq_true rfl) (c_Mo_localNumber hp0 hr t4 ?_)
        rw [show ln_v (L1 549) (104 * r) t.2.1 = q.2 from mA.2.2]
        refine go_lload d_Mo_end_319 rfl ?_
        refine go_aload_n 0 d_Mo_end_321 rfl rfl ?_
        refine go_iload_n 1 d_Mo_end_322 rfl rfl ?_
        refine go_aload_n 0 d_Mo_end_323 rfl rfl ?_
        refine go_getR d_Mo_end_324 f_Mo_53 (by assumption) (by assumption) ?_
        refine go_iload d_Mo_end_327 rfl ?_
        refine go_iald (3 * (2 * c + 1) + j) d_Mo_end_329 (by assumption) (hz) (by omega) (by decide) ?_
        rw [t3]
        refine go_W2 d_Mo_end_330 k_Mo_215 (by assumption) (Nat.le_of_ble_eq_true rfl) (Nat.le_of_ble_eq_true rfl) (gw_w4 167 rfl rfl) (c_Mo_localNumber hp0 hr t5 ?_)
        rw [show ln_v (L1 549) (104 * r) t.2.2 = q'.2 from mB.2.2]
        refine go_V7 d_Mo_end_333 k_Mo_135 (by assumption) (Nat.le_of_ble_eq_true rfl) (c_Mo_addTerm1 (p := p) (md := md) (st := st) (lo := lo) (E := E) (b0 := b0) (b1 := s) hp0 hr mA.2.1 mB.2.1 hrow (fun L2 c1 c2 c3 => ?_))
        refine go_iinc d_Mo_end_336 rfl rfl (Nat.le_of_ble_eq_true rfl) ?_
        refine go_goto 217 d_Mo_end_339 rfl ?_
        exact ih (j + 1) _ L2 _ _ _ _ _ (gw_inc hz) (by omega) hj3 c1 (fun i hi => by rw [c2 i (by omega)]; exact hfr1 i hi) (fun q hq => by rw [c3 q hq]; exact hfr2 q hq) (hno.trans ⟨fun ⟨u, hu, h⟩ => by (rcases List.mem_cons.mp hu with rfl | hu; (rw [hqA, hqB] at h; rcases h with h | h <;> cases h); exact ⟨u, hu, h⟩), fun ⟨u, hu, h⟩ => ⟨u, List.mem_cons_of_mem _ hu, h⟩⟩) (by rw [hs]; show (match (lo) t.2.1, (lo) t.2.2 with | some q, some r => ba_add (lo) (-1 : Int32).toInt64 ts (ba_T s.1 q.1 r.1 ((-1 : Int32).toInt64 * (nI t.1).toInt64), s.2 + (-1 : Int32).toInt64 * (nI t.1).toInt64 * (q.2 - r.2)) | _, _ => ba_add (lo) (-1 : Int32).toInt64 ts s) = _; rw [hqA, hqB])
theorem c_Mo_calT0 {r md : Nat} {p : Int32} {st : List ab_Sy} {lo : Nat → ab_Sy} {E : sp_E} {b0 b1 : ab_Ba} {m f : Nat} {x y z0 : ab_Sy} {c : Nat} {P : ab_Po} {s0 : ab_Ba} (hp : pt_Mo sh R) (hr : r < 42) (hc : c < 24) (hP : mp_at I (2 * c + 0) P) (hP2 : ∀ t ∈ P.2, t.1 ≤ 100) (hff : f + 6 < 4368) (hf49 : f + 6 ≤ 104 * r + 49) (hms : ∀ v, v < 5 → ms_at (cs_v (L 549) f v) (cn_v (L 549) f v) (ca_sy x y z0 v)) (hf : po_no (ca_sy x y z0) P.2 → ∀ L1 : Nat → Nat → Int64, (∀ i, i < 104 * r + 49 ∨ 104 * r + 104 ≤ i → L1 549 i = L 549 i) → (∀ q, q ≠ 549 → L1 q = L q) → Q (some (.int 6)) (n, sh, X, R, I, L1)) (next : ¬ po_no (ca_sy x y z0) P.2 → ∀ (o8 o9 o10 o11 : Option Value) (z' : Int32) (L1 : Nat → Nat → Int64), rw_at (L1 549) (104 * r) p md st lo E (ba_add (ca_sy x y z0) (-1 : Int32).toInt64 P.2 s0) b1 → (∀ i, i < 104 * r + 49 ∨ 104 * r + 104 ≤ i → L1 549 i = L 549 i) → (∀ q, q ≠ 549 → L1 q = L q) → gw_Go y_Mo_called (d + 2) 0 0 343 [some (.ref 533), some (.int (nI r)), some (.int (nI m)), some (.int (nI f)), some (.int (nI c)), some (.int 0), some (.int (nI (2 * c + 0))), some (.int z'), o8, o9, o10, o11] [] (n, sh, X, R, I, L1) Q) : ∀ (ts : List (Nat × Nat × Nat)) (j : Nat) (z : Int32) (L1 : Nat → Nat → Int64) (s : ab_Ba) (o8 o9 o10 o11 : Option Value), z = nI (3 * (2 * c + 0) + j) → j ≤ P.2.length → P.2.drop j = ts → rw_at (L1 549) (104 * r) p md st lo E s b1 → (∀ i, i < 104 * r + 49 ∨ 104 * r + 104 ≤ i → L1 549 i = L 549 i) → (∀ q, q ≠ 549 → L1 q = L q) → (po_no (ca_sy x y z0) P.2 ↔ po_no (ca_sy x y z0) ts) → ba_add (ca_sy x y z0) (-1 : Int32).toInt64 P.2 s0 = ba_add (ca_sy x y z0) (-1 : Int32).toInt64 ts s → gw_Go y_Mo_called (d + 2) 0 0 217 [some (.ref 533), some (.int (nI r)), some (.int (nI m)), some (.int (nI f)), some (.int (nI c)), some (.int 0), some (.int (nI (2 * c + 0))), some (.int z), o8, o9, o10, o11] [] (n, sh, X, R, I, L1) Q := by
  have hp0 := hp
  obtain ⟨s533, s534, s535, s536, s537, s538, s539, s540, s541, s542, s543, s544, s545, s546, s547, s548, s549, s550, s551, s552, s553, s554, s555, s556, s557, r534, r535, r536, r537, r538, r539, r540, r541, r542, r543, r544, r545, r546, r547, r548, r549, r550, r551, r552, r553, r554, r555, r556, r557⟩ := hp
  obtain ⟨w1, w2, w3, w4⟩ := hP
  intro ts
  induction ts with
  | nil =>
    intro j z L1 s o8 o9 o10 o11 hz hj hd hrow hfr1 hfr2 hno hs
    have hl := gw_dropE hd
    refine go_iload d_Mo_called_217 rfl ?_
    refine go_iconst (v := 3) d_Mo_called_219 rfl ?_
    refine go_iload d_Mo_called_220 rfl ?_
    refine go_imul d_Mo_called_222 ?_
    refine go_aload_n 0 d_Mo_called_223 rfl rfl ?_
    refine go_getR d_Mo_called_224 f_Mo_44 (by assumption) (by assumption) ?_
    refine go_iload d_Mo_called_227 rfl ?_
    refine go_iald (2 * c + 0) d_Mo_called_229 (by assumption) (rfl) (by omega) (by decide) ?_
    refine go_iadd d_Mo_called_230 ?_
    refine go_icmp_ge 343 d_Mo_called_231 rfl (fun _ => ?_) (fun hn => absurd (by rw [w2, hz, show (3 : Int32) * nI (2 * c + 0) + nI P.2.length = nI (3 * (2 * c + 0) + P.2.length) from ix (a := 3)]; exact (nI_leI (by omega) (by omega)).mpr (by omega)) hn)
    exact next (fun h => by (obtain ⟨t, ht, _⟩ := hno.mp h; cases ht)) _ _ _ _ _ L1 (by rw [hs]; exact hrow) hfr1 hfr2
  | cons t ts ih =>
    intro j z L1 s o8 o9 o10 o11 hz hj hd hrow hfr1 hfr2 hno hs
    obtain ⟨hj1, hj2, hj3⟩ := gw_drop hd
    obtain ⟨t1, t2, t3, t4, t5⟩ := w4 j t hj2
    have ht100 := hP2 t (List.mem_of_getElem? hj2)
    have hneg : (-(nI t.1)).toInt64 = (-1 : Int32).toInt64 * (nI t.1).toInt64 := neg64 (by omega)
    have mA := ca_ms hms hf49 hfr1 (v := t.2.1) t4
    have mB := ca_ms hms hf49 hfr1 (v := t.2.2) t5
    cases hqA : (ca_sy x y z0) t.2.1 with
    | none =>
      rw [hqA] at mA
      have eA : cs_v (L1 549) f t.2.1 = -1 := mA
      have eB : cs_v (L1 549) f t.2.2 = cs_v (L1 549) f t.2.2 := rfl
      refine go_iload d_Mo_called_217 rfl ?_
      refine go_iconst (v := 3) d_Mo_called_219 rfl ?_
      refine go_iload d_Mo_called_220 rfl ?_
      refine go_imul d_Mo_called_222 ?_
      refine go_aload_n 0 d_Mo_called_223 rfl rfl ?_
      refine go_getR d_Mo_called_224 f_Mo_44 (by assumption) (by assumption) ?_
      refine go_iload d_Mo_called_227 rfl ?_
      refine go_iald (2 * c + 0) d_Mo_called_229 (by assumption) (rfl) (by omega) (by decide) ?_
      refine go_iadd d_Mo_called_230 ?_
      refine go_icmp_ge 343 d_Mo_called_231 rfl (fun hn => absurd hn (by rw [w2, hz, show (3 : Int32) * nI (2 * c + 0) + nI P.2.length = nI (3 * (2 * c + 0) + P.2.length) from ix (a := 3)]; exact nI_ge (by omega) (by omega))) (fun _ => ?_)
      refine go_aload_n 0 d_Mo_called_234 rfl rfl ?_
      refine go_iload_n 1 d_Mo_called_235 rfl rfl ?_
      refine go_iload_n 3 d_Mo_called_236 rfl rfl ?_
      refine go_aload_n 0 d_Mo_called_237 rfl rfl ?_
      refine go_getR d_Mo_called_238 f_Mo_50 (by assumption) (by assumption) ?_
      refine go_iload d_Mo_called_241 rfl ?_
      refine go_iald (3 * (2 * c + 0) + j) d_Mo_called_243 (by assumption) (hz) (by omega) (by decide) ?_
      rw [t2]
      refine go_V3 d_Mo_called_244 k_Mo_204 (by assumption) (Nat.le_of_ble_eq_true rfl) (c_Mo_side hp0 hff t4 ?_)
      rw [eA]
      refine go_lstore d_Mo_called_247 (Nat.le_of_ble_eq_true rfl) ?_
      refine go_aload_n 0 d_Mo_called_249 rfl rfl ?_
      refine go_iload_n 1 d_Mo_called_250 rfl rfl ?_
      refine go_iload_n 3 d_Mo_called_251 rfl rfl ?_
      refine go_aload_n 0 d_Mo_called_252 rfl rfl ?_
      refine go_getR d_Mo_called_253 f_Mo_53 (by assumption) (by assumption) ?_
      refine go_iload d_Mo_called_256 rfl ?_
      refine go_iald (3 * (2 * c + 0) + j) d_Mo_called_258 (by assumption) (hz) (by omega) (by decide) ?_
      rw [t3]
      refine go_V3 d_Mo_called_259 k_Mo_204 (by assumption) (Nat.le_of_ble_eq_true rfl) (c_Mo_side hp0 hff t5 ?_)
      rw [eB]
      refine go_lstore d_Mo_called_262 (Nat.le_of_ble_eq_true rfl) ?_
      simp only [gw_st1, gw_st2, gw_cl1, gw_get, gw_set, gw_big, Bool.false_eq_true, if_false, if_true, ↓reduceIte]
      refine go_lload d_Mo_called_264 rfl ?_
      refine go_lconst (v := 0) d_Mo_called_266 rfl ?_
      refine go_lcmp_lt 278 d_Mo_called_267 d_Mo_called_268 rfl (fun _ => ?_) (fun hn => by first | exact absurd hn (by decide) | exact absurd (by decide) hn)
      refine go_bipush (v := 6) d_Mo_called_278 rfl ?_
      exact go_iret d_Mo_called_280 rfl (hf (hno.mpr ⟨t, List.mem_cons_self, Or.inl hqA⟩) L1 hfr1 hfr2)
    | some q => cases hqB : (ca_sy x y z0) t.2.2 with
      | none =>
        rw [hqA] at mA
        rw [hqB] at mB
        have eA : cs_v (L1 549) f t.2.1 = lN q.1 := mA.1
        have eB : cs_v (L1 549) f t.2.2 = -1 := mB
        refine go_iload d_Mo_called_217 rfl ?_
        refine go_iconst (v := 3) d_Mo_called_219 rfl ?_
        refine go_iload d_Mo_called_220 rfl ?_
        refine go_imul d_Mo_called_222 ?_
        refine go_aload_n 0 d_Mo_called_223 rfl rfl ?_
        refine go_getR d_Mo_called_224 f_Mo_44 (by assumption) (by assumption) ?_
        refine go_iload d_Mo_called_227 rfl ?_
        refine go_iald (2 * c + 0) d_Mo_called_229 (by assumption) (rfl) (by omega) (by decide) ?_
        refine go_iadd d_Mo_called_230 ?_
        refine go_icmp_ge 343 d_Mo_called_231 rfl (fun hn => absurd hn (by rw [w2, hz, show (3 : Int32) * nI (2 * c + 0) + nI P.2.length = nI (3 * (2 * c + 0) + P.2.length) from ix (a := 3)]; exact nI_ge (by omega) (by omega))) (fun _ => ?_)
        refine go_aload_n 0 d_Mo_called_234 rfl rfl ?_
        refine go_iload_n 1 d_Mo_called_235 rfl rfl ?_
        refine go_iload_n 3 d_Mo_called_236 rfl rfl ?_
        refine go_aload_n 0 d_Mo_called_237 rfl rfl ?_
        refine go_getR d_Mo_called_238 f_Mo_50 (by assumption) (by assumption) ?_
        refine go_iload d_Mo_called_241 rfl ?_
        refine go_iald (3 * (2 * c + 0) + j) d_Mo_called_243 (by assumption) (hz) (by omega) (by decide) ?_
        rw [t2]
        refine go_V3 d_Mo_called_244 k_Mo_204 (by assumption) (Nat.le_of_ble_eq_true rfl) (c_Mo_side hp0 hff t4 ?_)
        rw [eA]
        refine go_lstore d_Mo_called_247 (Nat.le_of_ble_eq_true rfl) ?_
        refine go_aload_n 0 d_Mo_called_249 rfl rfl ?_
        refine go_iload_n 1 d_Mo_called_250 rfl rfl ?_
        refine go_iload_n 3 d_Mo_called_251 rfl rfl ?_
        refine go_aload_n 0 d_Mo_called_252 rfl rfl ?_
        refine go_getR d_Mo_called_253 f_Mo_53 (by assumption) (by assumption) ?_
        refine go_iload d_Mo_called_256 rfl ?_
        refine go_iald (3 * (2 * c + 0) + j) d_Mo_called_258 (by assumption) (hz) (by omega) (by decide) ?_
        rw [t3]
        refine go_V3 d_Mo_called_259 k_Mo_204 (by assumption) (Nat.le_of_ble_eq_true rfl) (c_Mo_side hp0 hff t5 ?_)
        rw [eB]
        refine go_lstore d_Mo_called_262 (Nat.le_of_ble_eq_true rfl) ?_
        simp only [gw_st1, gw_st2, gw_cl1, gw_get, gw_set, gw_big, Bool.false_eq_true, if_false, if_true, ↓reduceIte]
        refine go_lload d_Mo_called_264 rfl ?_
        refine go_lconst (v := 0) d_Mo_called_266 rfl ?_
        refine go_lcmp_lt 278 d_Mo_called_267 d_Mo_called_268 rfl (fun hn => absurd hn ((fun hh => absurd ((lN_lt (b := 0) (by have := mA.2.1; omega) (by decide)).mp hh) (by omega)))) (fun _ => ?_)
        refine go_lload d_Mo_called_271 rfl ?_
        refine go_lconst (v := 0) d_Mo_called_273 rfl ?_
        refine go_lcmp_ge 281 d_Mo_called_274 d_Mo_called_275 rfl (fun hn => absurd hn ((fun hh => hh (by decide)))) (fun _ => ?_)
        refine go_bipush (v := 6) d_Mo_called_278 rfl ?_
        exact go_iret d_Mo_called_280 rfl (hf (hno.mpr ⟨t, List.mem_cons_self, Or.inr hqB⟩) L1 hfr1 hfr2)
      | some q' =>
        rw [hqA] at mA
        rw [hqB] at mB
        have eA : cs_v (L1 549) f t.2.1 = lN q.1 := mA.1
        have eB : cs_v (L1 549) f t.2.2 = lN q'.1 := mB.1
        refine go_iload d_Mo_called_217 rfl ?_
        refine go_iconst (v := 3) d_Mo_called_219 rfl ?_
        refine go_iload d_Mo_called_220 rfl ?_
        refine go_imul d_Mo_called_222 ?_
        refine go_aload_n 0 d_Mo_called_223 rfl rfl ?_
        refine go_getR d_Mo_called_224 f_Mo_44 (by assumption) (by assumption) ?_
        refine go_iload d_Mo_called_227 rfl ?_
        refine go_iald (2 * c + 0) d_Mo_called_229 (by assumption) (rfl) (by omega) (by decide) ?_
        refine go_iadd d_Mo_called_230 ?_
        refine go_icmp_ge 343 d_Mo_called_231 rfl (fun hn => absurd hn (by rw [w2, hz, show (3 : Int32) * nI (2 * c + 0) + nI P.2.length = nI (3 * (2 * c + 0) + P.2.length) from ix (a := 3)]; exact nI_ge (by omega) (by omega))) (fun _ => ?_)
        refine go_aload_n 0 d_Mo_called_234 rfl rfl ?_
        refine go_iload_n 1 d_Mo_called_235 rfl rfl ?_
        refine go_iload_n 3 d_Mo_called_236 rfl rfl ?_
        refine go_aload_n 0 d_Mo_called_237 rfl rfl ?_
        refine go_getR d_Mo_called_238 f_Mo_50 (by assumption) (by assumption) ?_
        refine go_iload d_Mo_called_241 rfl ?_
        refine go_iald (3 * (2 * c + 0) + j) d_Mo_called_243 (by assumption) (hz) (by omega) (by decide) ?_
        rw [t2]
        refine go_V3 d_Mo_called_244 k_Mo_204 (by assumption) (Nat.le_of_ble_eq_true rfl) (c_Mo_side hp0 hff t4 ?_)
        rw [eA]
        refine go_lstore d_Mo_called_247 (Nat.le_of_ble_eq_true rfl) ?_
        refine go_aload_n 0 d_Mo_called_249 rfl rfl ?_
        refine go_iload_n 1 d_Mo_called_250 rfl rfl ?_
        refine go_iload_n 3 d_Mo_called_251 rfl rfl ?_
        refine go_aload_n 0 d_Mo_called_252 rfl rfl ?_
        refine go_getR d_Mo_called_253 f_Mo_53 (by assumption) (by assumption) ?_
        refine go_iload d_Mo_called_256 rfl ?_
        refine go_iald (3 * (2 * c + 0) + j) d_Mo_called_258 (by assumption) (hz) (by omega) (by decide) ?_
        rw [t3]
        refine go_V3 d_Mo_called_259 k_Mo_204 (by assumption) (Nat.le_of_ble_eq_true rfl) (c_Mo_side hp0 hff t5 ?_)
        rw [eB]
        refine go_lstore d_Mo_called_262 (Nat.le_of_ble_eq_true rfl) ?_
        simp only [gw_st1, gw_st2, gw_cl1, gw_get, gw_set, gw_big, Bool.false_eq_true, if_false, if_true, ↓reduceIte]
        refine go_lload d_Mo_called_264 rfl ?_
        refine go_lconst (v := 0) d_Mo_called_266 rfl ?_
        refine go_lcmp_lt 278 d_Mo_called_267 d_Mo_called_268 rfl (fun hn => absurd hn ((fun hh => absurd ((lN_lt (b := 0) (by have := mA.2.1; omega) (by decide)).mp hh) (by omega)))) (fun _ => ?_)
        refine go_lload d_Mo_called_271 rfl ?_
        refine go_lconst (v := 0) d_Mo_called_273 rfl ?_
        refine go_lcmp_ge 281 d_Mo_called_274 d_Mo_called_275 rfl (fun _ => ?_) (fun hn => by first | exact absurd hn ((fun hh => absurd ((lN_lt (b := 0) (by have := mB.2.1; omega) (by decide)).mp hh) (by omega))) | exact absurd ((fun hh => absurd ((lN_lt (b := 0) (by have := mB.2.1; omega) (by decide)).mp hh) (by omega))) hn)
        refine go_aload_n 0 d_Mo_called_281 rfl rfl ?_
        refine go_iload_n 1 d_Mo_called_282 rfl rfl ?_
        refine go_iload d_Mo_called_283 rfl ?_
        refine go_if_ne 293 d_Mo_called_285 rfl (fun hn => absurd hn (fun hh => hh rfl)) (fun _ => ?_)
        refine go_bipush (v := 49) d_Mo_called_288 rfl ?_
        refine go_goto 295 d_Mo_called_290 rfl ?_
        refine go_aload_n 0 d_Mo_called_295 rfl rfl ?_
        refine go_getR d_Mo_called_296 f_Mo_47 (by assumption) (by assumption) ?_
        refine go_iload d_Mo_called_299 rfl ?_
        refine go_iald (3 * (2 * c + 0) + j) d_Mo_called_301 (by assumption) (hz) (by omega) (by decide) ?_
        rw [t1]
        refine go_ineg d_Mo_called_302 ?_
        refine go_i2l d_Mo_called_303 (rfl) ?_
        rw [hneg]
        refine go_lload d_Mo_called_304 rfl ?_
        refine go_aload_n 0 d_Mo_called_306 rfl rfl ?_
        refine go_iload_n 1 d_Mo_called_307 rfl rfl ?_
        refine go_iload_n 3 d_Mo_called_308 rfl rfl ?_
        refine go_aload_n 0 d_Mo_called_309 rfl rfl ?_
        refine go_getR d_Mo_called_310 f_Mo_50 (by assumption) (by assumption) ?_
        refine go_iload d_Mo_called_313 rfl ?_
        refine go_iald (3 * (2 * c + 0) + j) d_Mo_called_315 (by assumption) (hz) (by omega) (by decide) ?_
        rw [t2]
        refine go_V3 d_Mo_called_316 k_Mo_208 (by assumption) (Nat.le_of_ble_eq_true rfl) (c_Mo_extra hp0 hff t4 ?_)
        rw [show cn_v (L1 549) f t.2.1 = q.2 from mA.2.2]
        refine go_lload d_Mo_called_319 rfl ?_
        refine go_aload_n 0 d_Mo_called_321 rfl rfl ?_
        refine go_iload_n 1 d_Mo_called_322 rfl rfl ?_
        refine go_iload_n 3 d_Mo_called_323 rfl rfl ?_
        refine go_aload_n 0 d_Mo_called_324 rfl rfl ?_
        refine go_getR d_Mo_called_325 f_Mo_53 (by assumption) (by assumption) ?_
        refine go_iload d_Mo_called_328 rfl ?_
        refine go_iald (3 * (2 * c + 0) + j) d_Mo_called_330 (by assumption) (hz) (by omega) (by decide) ?_
        rw [t3]
        refine go_W3 d_Mo_called_331 k_Mo_208 (by assumption) (Nat.le_of_ble_eq_true rfl) (Nat.le_of_ble_eq_true rfl) (gw_w4 207 rfl rfl) (c_Mo_extra hp0 hff t5 ?_)
        rw [show cn_v (L1 549) f t.2.2 = q'.2 from mB.2.2]
        refine go_V7 d_Mo_called_334 k_Mo_135 (by assumption) (Nat.le_of_ble_eq_true rfl) (c_Mo_addTerm0 (p := p) (md := md) (st := st) (lo := lo) (E := E) (b0 := s) (b1 := b1) hp0 hr mA.2.1 mB.2.1 hrow (fun L2 c1 c2 c3 => ?_))
        refine go_iinc d_Mo_called_337 rfl rfl (Nat.le_of_ble_eq_true rfl) ?_
        refine go_goto 217 d_Mo_called_340 rfl ?_
        exact ih (j + 1) _ L2 _ _ _ _ _ (gw_inc hz) (by omega) hj3 c1 (fun i hi => by rw [c2 i (by omega)]; exact hfr1 i hi) (fun q hq => by rw [c3 q hq]; exact hfr2 q hq) (hno.trans ⟨fun ⟨u, hu, h⟩ => by (rcases List.mem_cons.mp hu with rfl | hu; (rw [hqA, hqB] at h; rcases h with h | h <;> cases h); exact ⟨u, hu, h⟩), fun ⟨u, hu, h⟩ => ⟨u, List.mem_cons_of_mem _ hu, h⟩⟩) (by rw [hs]; show (match (ca_sy x y z0) t.2.1, (ca_sy x y z0) t.2.2 with | some q, some r => ba_add (ca_sy x y z0) (-1 : Int32).toInt64 ts (ba_T s.1 q.1 r.1 ((-1 : Int32).toInt64 * (nI t.1).toInt64), s.2 + (-1 : Int32).toInt64 * (nI t.1).toInt64 * (q.2 - r.2)) | _, _ => ba_add (ca_sy x y z0) (-1 : Int32).toInt64 ts s) = _; rw [hqA, hqB])
theorem c_Mo_calT1 {r md : Nat} {p : Int32} {st : List ab_Sy} {lo : Nat → ab_Sy} {E : sp_E} {b0 b1 : ab_Ba} {m f : Nat} {x y z0 : ab_Sy} {c : Nat} {P : ab_Po} {s0 : ab_Ba} (hp : pt_Mo sh R) (hr : r < 42) (hc : c < 24) (hP : mp_at I (2 * c + 1) P) (hP2 : ∀ t ∈ P.2, t.1 ≤ 100) (hff : f + 6 < 4368) (hf49 : f + 6 ≤ 104 * r + 49) (hms : ∀ v, v < 5 → ms_at (cs_v (L 549) f v) (cn_v (L 549) f v) (ca_sy x y z0 v)) (hf : po_no (ca_sy x y z0) P.2 → ∀ L1 : Nat → Nat → Int64, (∀ i, i < 104 * r + 49 ∨ 104 * r + 104 ≤ i → L1 549 i = L 549 i) → (∀ q, q ≠ 549 → L1 q = L q) → Q (some (.int 6)) (n, sh, X, R, I, L1)) (next : ¬ po_no (ca_sy x y z0) P.2 → ∀ (o8 o9 o10 o11 : Option Value) (z' : Int32) (L1 : Nat → Nat → Int64), rw_at (L1 549) (104 * r) p md st lo E b0 (ba_add (ca_sy x y z0) (-1 : Int32).toInt64 P.2 s0) → (∀ i, i < 104 * r + 49 ∨ 104 * r + 104 ≤ i → L1 549 i = L 549 i) → (∀ q, q ≠ 549 → L1 q = L q) → gw_Go y_Mo_called (d + 2) 0 0 343 [some (.ref 533), some (.int (nI r)), some (.int (nI m)), some (.int (nI f)), some (.int (nI c)), some (.int 1), some (.int (nI (2 * c + 1))), some (.int z'), o8, o9, o10, o11] [] (n, sh, X, R, I, L1) Q) : ∀ (ts : List (Nat × Nat × Nat)) (j : Nat) (z : Int32) (L1 : Nat → Nat → Int64) (s : ab_Ba) (o8 o9 o10 o11 : Option Value), z = nI (3 * (2 * c + 1) + j) → j ≤ P.2.length → P.2.drop j = ts → rw_at (L1 549) (104 * r) p md st lo E b0 s → (∀ i, i < 104 * r + 49 ∨ 104 * r + 104 ≤ i → L1 549 i = L 549 i) → (∀ q, q ≠ 549 → L1 q = L q) → (po_no (ca_sy x y z0) P.2 ↔ po_no (ca_sy x y z0) ts) → ba_add (ca_sy x y z0) (-1 : Int32).toInt64 P.2 s0 = ba_add (ca_sy x y z0) (-1 : Int32).toInt64 ts s → gw_Go y_Mo_called (d + 2) 0 0 217 [some (.ref 533), some (.int (nI r)), some (.int (nI m)), some (.int (nI f)), some (.int (nI c)), some (.int 1), some (.int (nI (2 * c + 1))), some (.int z), o8, o9, o10, o11] [] (n, sh, X, R, I, L1) Q := by
  have hp0 := hp
  obtain ⟨s533, s534, s535, s536, s537, s538, s539, s540, s541, s542, s543, s544, s545, s546, s547, s548, s549, s550, s551, s552, s553, s554, s555, s556, s557, r534, r535, r536, r537, r538, r539, r540, r541, r542, r543, r544, r545, r546, r547, r548, r549, r550, r551, r552, r553, r554, r555, r556, r557⟩ := hp
  obtain ⟨w1, w2, w3, w4⟩ := hP
  intro ts
  induction ts with
  | nil =>
    intro j z L1 s o8 o9 o10 o11 hz hj hd hrow hfr1 hfr2 hno hs
    have hl := gw_dropE hd
    refine go_iload d_Mo_called_217 rfl ?_
    refine go_iconst (v := 3) d_Mo_called_219 rfl ?_
    refine go_iload d_Mo_called_220 rfl ?_
    refine go_imul d_Mo_called_222 ?_
    refine go_aload_n 0 d_Mo_called_223 rfl rfl ?_
    refine go_getR d_Mo_called_224 f_Mo_44 (by assumption) (by assumption) ?_
    refine go_iload d_Mo_called_227 rfl ?_
    refine go_iald (2 * c + 1) d_Mo_called_229 (by assumption) (rfl) (by omega) (by decide) ?_
    refine go_iadd d_Mo_called_230 ?_
    refine go_icmp_ge 343 d_Mo_called_231 rfl (fun _ => ?_) (fun hn => absurd (by rw [w2, hz, show (3 : Int32) * nI (2 * c + 1) + nI P.2.length = nI (3 * (2 * c + 1) + P.2.length) from ix (a := 3)]; exact (nI_leI (by omega) (by omega)).mpr (by omega)) hn)
    exact next (fun h => by (obtain ⟨t, ht, _⟩ := hno.mp h; cases ht)) _ _ _ _ _ L1 (by rw [hs]; exact hrow) hfr1 hfr2
  | cons t ts ih =>
    intro j z L1 s o8 o9 o10 o11 hz hj hd hrow hfr1 hfr2 hno hs
    obtain ⟨hj1, hj2, hj3⟩ := gw_drop hd
    obtain ⟨t1, t2, t3, t4, t5⟩ := w4 j t hj2
    have ht100 := hP2 t (List.mem_of_getElem? hj2)
    have hneg : (-(nI t.1)).toInt64 = (-1 : Int32).toInt64 * (nI t.1).toInt64 := neg64 (by omega)
    have mA := ca_ms hms hf49 hfr1 (v := t.2.1) t4
    have mB := ca_ms hms hf49 hfr1 (v := t.2.2) t5
    cases hqA : (ca_sy x y z0) t.2.1 with
    | none =>
      rw [hqA] at mA
      have eA : cs_v (L1 549) f t.2.1 = -1 := mA
      have eB : cs_v (L1 549) f t.2.2 = cs_v (L1 549) f t.2.2 := rfl
      refine go_iload d_Mo_called_217 rfl ?_
      refine go_iconst (v := 3) d_Mo_called_219 rfl ?_
      refine go_iload d_Mo_called_220 rfl ?_
      refine go_imul d_Mo_called_222 ?_
      refine go_aload_n 0 d_Mo_called_223 rfl rfl ?_
      refine go_getR d_Mo_called_224 f_Mo_44 (by assumption) (by assumption) ?_
      refine go_iload d_Mo_called_227 rfl ?_
      refine go_iald (2 * c + 1) d_Mo_called_229 (by assumption) (rfl) (by omega) (by decide) ?_
      refine go_iadd d_Mo_called_230 ?_
      refine go_icmp_ge 343 d_Mo_called_231 rfl (fun hn => absurd hn (by rw [w2, hz, show (3 : Int32) * nI (2 * c + 1) + nI P.2.length = nI (3 * (2 * c + 1) + P.2.length) from ix (a := 3)]; exact nI_ge (by omega) (by omega))) (fun _ => ?_)
      refine go_aload_n 0 d_Mo_called_234 rfl rfl ?_
      refine go_iload_n 1 d_Mo_called_235 rfl rfl ?_
      refine go_iload_n 3 d_Mo_called_236 rfl rfl ?_
      refine go_aload_n 0 d_Mo_called_237 rfl rfl ?_
      refine go_getR d_Mo_called_238 f_Mo_50 (by assumption) (by assumption) ?_
      refine go_iload d_Mo_called_241 rfl ?_
      refine go_iald (3 * (2 * c + 1) + j) d_Mo_called_243 (by assumption) (hz) (by omega) (by decide) ?_
      rw [t2]
      refine go_V3 d_Mo_called_244 k_Mo_204 (by assumption) (Nat.le_of_ble_eq_true rfl) (c_Mo_side hp0 hff t4 ?_)
      rw [eA]
      refine go_lstore d_Mo_called_247 (Nat.le_of_ble_eq_true rfl) ?_
      refine go_aload_n 0 d_Mo_called_249 rfl rfl ?_
      refine go_iload_n 1 d_Mo_called_250 rfl rfl ?_
      refine go_iload_n 3 d_Mo_called_251 rfl rfl ?_
      refine go_aload_n 0 d_Mo_called_252 rfl rfl ?_
      refine go_getR d_Mo_called_253 f_Mo_53 (by assumption) (by assumption) ?_
      refine go_iload d_Mo_called_256 rfl ?_
      refine go_iald (3 * (2 * c + 1) + j) d_Mo_called_258 (by assumption) (hz) (by omega) (by decide) ?_
      rw [t3]
      refine go_V3 d_Mo_called_259 k_Mo_204 (by assumption) (Nat.le_of_ble_eq_true rfl) (c_Mo_side hp0 hff t5 ?_)
      rw [eB]
      refine go_lstore d_Mo_called_262 (Nat.le_of_ble_eq_true rfl) ?_
      simp only [gw_st1, gw_st2, gw_cl1, gw_get, gw_set, gw_big, Bool.false_eq_true, if_false, if_true, ↓reduceIte]
      refine go_lload d_Mo_called_264 rfl ?_
      refine go_lconst (v := 0) d_Mo_called_266 rfl ?_
      refine go_lcmp_lt 278 d_Mo_called_267 d_Mo_called_268 rfl (fun _ => ?_) (fun hn => by first | exact absurd hn (by decide) | exact absurd (by decide) hn)
      refine go_bipush (v := 6) d_Mo_called_278 rfl ?_
      exact go_iret d_Mo_called_280 rfl (hf (hno.mpr ⟨t, List.mem_cons_self, Or.inl hqA⟩) L1 hfr1 hfr2)
    | some q => cases hqB : (ca_sy x y z0) t.2.2 with
      | none =>
        rw [hqA] at mA
        rw [hqB] at mB
        have eA : cs_v (L1 549) f t.2.1 = lN q.1 := mA.1
        have eB : cs_v (L1 549) f t.2.2 = -1 := mB
        refine go_iload d_Mo_called_217 rfl ?_
        refine go_iconst (v := 3) d_Mo_called_219 rfl ?_
        refine go_iload d_Mo_called_220 rfl ?_
        refine go_imul d_Mo_called_222 ?_
        refine go_aload_n 0 d_Mo_called_223 rfl rfl ?_
        refine go_getR d_Mo_called_224 f_Mo_44 (by assumption) (by assumption) ?_
        refine go_iload d_Mo_called_227 rfl ?_
        refine go_iald (2 * c + 1) d_Mo_called_229 (by assumption) (rfl) (by omega) (by decide) ?_
        refine go_iadd d_Mo_called_230 ?_
        refine go_icmp_ge 343 d_Mo_called_231 rfl (fun hn => absurd hn (by rw [w2, hz, show (3 : Int32) * nI (2 * c + 1) + nI P.2.length = nI (3 * (2 * c + 1) + P.2.length) from ix (a := 3)]; exact nI_ge (by omega) (by omega))) (fun _ => ?_)
        refine go_aload_n 0 d_Mo_called_234 rfl rfl ?_
        refine go_iload_n 1 d_Mo_called_235 rfl rfl ?_
        refine go_iload_n 3 d_Mo_called_236 rfl rfl ?_
        refine go_aload_n 0 d_Mo_called_237 rfl rfl ?_
        refine go_getR d_Mo_called_238 f_Mo_50 (by assumption) (by assumption) ?_
        refine go_iload d_Mo_called_241 rfl ?_
        refine go_iald (3 * (2 * c + 1) + j) d_Mo_called_243 (by assumption) (hz) (by omega) (by decide) ?_
        rw [t2]
        refine go_V3 d_Mo_called_244 k_Mo_204 (by assumption) (Nat.le_of_ble_eq_true rfl) (c_Mo_side hp0 hff t4 ?_)
        rw [eA]
        refine go_lstore d_Mo_called_247 (Nat.le_of_ble_eq_true rfl) ?_
        refine go_aload_n 0 d_Mo_called_249 rfl rfl ?_
        refine go_iload_n 1 d_Mo_called_250 rfl rfl ?_
        refine go_iload_n 3 d_Mo_called_251 rfl rfl ?_
        refine go_aload_n 0 d_Mo_called_252 rfl rfl ?_
        refine go_getR d_Mo_called_253 f_Mo_53 (by assumption) (by assumption) ?_
        refine go_iload d_Mo_called_256 rfl ?_
        refine go_iald (3 * (2 * c + 1) + j) d_Mo_called_258 (by assumption) (hz) (by omega) (by decide) ?_
        rw [t3]
        refine go_V3 d_Mo_called_259 k_Mo_204 (by assumption) (Nat.le_of_ble_eq_true rfl) (c_Mo_side hp0 hff t5 ?_)
        rw [eB]
        refine go_lstore d_Mo_called_262 (Nat.le_of_ble_eq_true rfl) ?_
        simp only [gw_st1, gw_st2, gw_cl1, gw_get, gw_set, gw_big, Bool.false_eq_true, if_false, if_true, ↓reduceIte]
        refine go_lload d_Mo_called_264 rfl ?_
        refine go_lconst (v := 0) d_Mo_called_266 rfl ?_
        refine go_lcmp_lt 278 d_Mo_called_267 d_Mo_called_268 rfl (fun hn => absurd hn ((fun hh => absurd ((lN_lt (b := 0) (by have := mA.2.1; omega) (by decide)).mp hh) (by omega)))) (fun _ => ?_)
        refine go_lload d_Mo_called_271 rfl ?_
        refine go_lconst (v := 0) d_Mo_called_273 rfl ?_
        refine go_lcmp_ge 281 d_Mo_called_274 d_Mo_called_275 rfl (fun hn => absurd hn ((fun hh => hh (by decide)))) (fun _ => ?_)
        refine go_bipush (v := 6) d_Mo_called_278 rfl ?_
        exact go_iret d_Mo_called_280 rfl (hf (hno.mpr ⟨t, List.mem_cons_self, Or.inr hqB⟩) L1 hfr1 hfr2)
      | some q' =>
        rw [hqA] at mA
        rw [hqB] at mB
        have eA : cs_v (L1 549) f t.2.1 = lN q.1 := mA.1
        have eB : cs_v (L1 549) f t.2.2 = lN q'.1 := mB.1
        refine go_iload d_Mo_called_217 rfl ?_
        refine go_iconst (v := 3) d_Mo_called_219 rfl ?_
        refine go_iload d_Mo_called_220 rfl ?_
        refine go_imul d_Mo_called_222 ?_
        refine go_aload_n 0 d_Mo_called_223 rfl rfl ?_
        refine go_getR d_Mo_called_224 f_Mo_44 (by assumption) (by assumption) ?_
        refine go_iload d_Mo_called_227 rfl ?_
        refine go_iald (2 * c + 1) d_Mo_called_229 (by assumption) (rfl) (by omega) (by decide) ?_
        refine go_iadd d_Mo_called_230 ?_
        refine go_icmp_ge 343 d_Mo_called_231 rfl (fun hn => absurd hn (by rw [w2, hz, show (3 : Int32) * nI (2 * c + 1) + nI P.2.length = nI (3 * (2 * c + 1) + P.2.length) from ix (a := 3)]; exact nI_ge (by omega) (by omega))) (fun _ => ?_)
        refine go_aload_n 0 d_Mo_called_234 rfl rfl ?_
        refine go_iload_n 1 d_Mo_called_235 rfl rfl ?_
        refine go_iload_n 3 d_Mo_called_236 rfl rfl ?_
        refine go_aload_n 0 d_Mo_called_237 rfl rfl ?_
        refine go_getR d_Mo_called_238 f_Mo_50 (by assumption) (by assumption) ?_
        refine go_iload d_Mo_called_241 rfl ?_
        refine go_iald (3 * (2 * c + 1) + j) d_Mo_called_243 (by assumption) (hz) (by omega) (by decide) ?_
        rw [t2]
        refine go_V3 d_Mo_called_244 k_Mo_204 (by assumption) (Nat.le_of_ble_eq_true rfl) (c_Mo_side hp0 hff t4 ?_)
        rw [eA]
        refine go_lstore d_Mo_called_247 (Nat.le_of_ble_eq_true rfl) ?_
        refine go_aload_n 0 d_Mo_called_249 rfl rfl ?_
        refine go_iload_n 1 d_Mo_called_250 rfl rfl ?_
        refine go_iload_n 3 d_Mo_called_251 rfl rfl ?_
        refine go_aload_n 0 d_Mo_called_252 rfl rfl ?_
        refine go_getR d_Mo_called_253 f_Mo_53 (by assumption) (by assumption) ?_
        refine go_iload d_Mo_called_256 rfl ?_
        refine go_iald (3 * (2 * c + 1) + j) d_Mo_called_258 (by assumption) (hz) (by omega) (by decide) ?_
        rw [t3]
        refine go_V3 d_Mo_called_259 k_Mo_204 (by assumption) (Nat.le_of_ble_eq_true rfl) (c_Mo_side hp0 hff t5 ?_)
        rw [eB]
        refine go_lstore d_Mo_called_262 (Nat.le_of_ble_eq_true rfl) ?_
        simp only [gw_st1, gw_st2, gw_cl1, gw_get, gw_set, gw_big, Bool.false_eq_true, if_false, if_true, ↓reduceIte]
        refine go_lload d_Mo_called_264 rfl ?_
        refine go_lconst (v := 0) d_Mo_called_266 rfl ?_
        refine go_lcmp_lt 278 d_Mo_called_267 d_Mo_called_268 rfl (fun hn => absurd hn ((fun hh => absurd ((lN_lt (b := 0) (by have := mA.2.1; omega) (by decide)).mp hh) (by omega)))) (fun _ => ?_)
        refine go_lload d_Mo_called_271 rfl ?_
        refine go_lconst (v := 0) d_Mo_called_273 rfl ?_
        refine go_lcmp_ge 281 d_Mo_called_274 d_Mo_called_275 rfl (fun _ => ?_) (fun hn => by first | exact absurd hn ((fun hh => absurd ((lN_lt (b := 0) (by have := mB.2.1; omega) (by decide)).mp hh) (by omega))) | exact absurd ((fun hh => absurd ((lN_lt (b := 0) (by have := mB.2.1; omega) (by decide)).mp hh) (by omega))) hn)
        refine go_aload_n 0 d_Mo_called_281 rfl rfl ?_
        refine go_iload_n 1 d_Mo_called_282 rfl rfl ?_
        refine go_iload d_Mo_called_283 rfl ?_
        refine go_if_ne 293 d_Mo_called_285 rfl (fun _ => ?_) (fun hn => by first | exact absurd hn (by decide) | exact absurd (by decide) hn)
        refine go_bipush (v := 74) d_Mo_called_293 rfl ?_
        refine go_aload_n 0 d_Mo_called_295 rfl rfl ?_
        refine go_getR d_Mo_called_296 f_Mo_47 (by assumption) (by assumption) ?_
        refine go_iload d_Mo_called_299 rfl ?_
        refine go_iald (3 * (2 * c + 1) + j) d_Mo_called_301 (by assumption) (hz) (by omega) (by decide) ?_
        rw [t1]
        refine go_ineg d_Mo_called_302 ?_
        refine go_i2l d_Mo_called_303 (rfl) ?_
        rw [hneg]
        refine go_lload d_Mo_called_304 rfl ?_
        refine go_aload_n 0 d_Mo_called_306 rfl rfl ?_
        refine go_iload_n 1 d_Mo_called_307 rfl rfl ?_
        refine go_iload_n 3 d_Mo_called_308 rfl rfl ?_
        refine go_aload_n 0 d_Mo_called_309 rfl rfl ?_
        refine go_getR d_Mo_called_310 f_Mo_50 (by assumption) (by assumption) ?_
        refine go_iload d_Mo_called_313 rfl ?_
        refine go_iald (3 * (2 * c + 1) + j) d_Mo_called_315 (by assumption) (hz) (by omega) (by decide) ?_
        rw [t2]
        refine go_V3 d_Mo_called_316 k_Mo_208 (by assumption) (Nat.le_of_ble_eq_true rfl) (c_Mo_extra hp0 hff t4 ?_)
        rw [show cn_v (L1 549) f t.2.1 = q.2 from mA.2.2]
        refine go_lload d_Mo_called_319 rfl ?_
        refine go_aload_n 0 d_Mo_called_321 rfl rfl ?_
        refine go_iload_n 1 d_Mo_called_322 rfl rfl ?_
        refine go_iload_n 3 d_Mo_called_323 rfl rfl ?_
        refine go_aload_n 0 d_Mo_called_324 rfl rfl ?_
        refine go_getR d_Mo_called_325 f_Mo_53 (by assumption) (by assumption) ?_
        refine go_iload d_Mo_called_328 rfl ?_
        refine go_iald (3 * (2 * c + 1) + j) d_Mo_called_330 (by assumption) (hz) (by omega) (by decide) ?_
        rw [t3]
        refine go_W3 d_Mo_called_331 k_Mo_208 (by assumption) (Nat.le_of_ble_eq_true rfl) (Nat.le_of_ble_eq_true rfl) (gw_w4 207 rfl rfl) (c_Mo_extra hp0 hff t5 ?_)
        rw [show cn_v (L1 549) f t.2.2 = q'.2 from mB.2.2]
        refine go_V7 d_Mo_called_334 k_Mo_135 (by assumption) (Nat.le_of_ble_eq_true rfl) (c_Mo_addTerm1 (p := p) (md := md) (st := st) (lo := lo) (E := E) (b0 := b0) (b1 := s) hp0 hr mA.2.1 mB.2.1 hrow (fun L2 c1 c2 c3 => ?_))
        refine go_iinc d_Mo_called_337 rfl rfl (Nat.le_of_ble_eq_true rfl) ?_
        refine go_goto 217 d_Mo_called_340 rfl ?_
        exact ih (j + 1) _ L2 _ _ _ _ _ (gw_inc hz) (by omega) hj3 c1 (fun i hi => by rw [c2 i (by omega)]; exact hfr1 i hi) (fun q hq => by rw [c3 q hq]; exact hfr2 q hq) (hno.trans ⟨fun ⟨u, hu, h⟩ => by (rcases List.mem_cons.mp hu with rfl | hu; (rw [hqA, hqB] at h; rcases h with h | h <;> cases h); exact ⟨u, hu, h⟩), fun ⟨u, hu, h⟩ => ⟨u, List.mem_cons_of_mem _ hu, h⟩⟩) (by rw [hs]; show (match (ca_sy x y z0) t.2.1, (ca_sy x y z0) t.2.2 with | some q, some r => ba_add (ca_sy x y z0) (-1 : Int32).toInt64 ts (ba_T s.1 q.1 r.1 ((-1 : Int32).toInt64 * (nI t.1).toInt64), s.2 + (-1 : Int32).toInt64 * (nI t.1).toInt64 * (q.2 - r.2)) | _, _ => ba_add (ca_sy x y z0) (-1 : Int32).toInt64 ts s) = _; rw [hqA, hqB])
end MO
