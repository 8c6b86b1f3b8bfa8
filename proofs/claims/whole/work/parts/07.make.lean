/-! makings: objects and arrays; Object's constructor; System.arraycopy; Math.max -/
def gw_C2 (ci : Nat) : Prop := gw_Cok ci ∧ (∀ k, k < (gw_c ci).2.2 → gw_kd (gw_ty ci k) < 4) ∧ Cond.instantiable (gw_c ci).1 (gw_c ci).2.2 ∈ gw_all ∧ Cond.initialized (gw_c ci).1 ∈ gw_all
theorem gw_dflt (K : gw_K) {t : FieldType} (h : gw_kd t < 4) : defaultValue t = gw_fv K t none 0 0 := by cases t <;> first | rfl | (exact absurd h (by simp [gw_kd]))
theorem gw_D.push {K : gw_K} {M M' : gw_Mem} {s : State} {H H1 : Heap} {locs locs1 : List Loc} {cells q : Nat} {c : va_E} (hD : gw_D K M s H locs cells) (h0 : K.1 ≤ s.heap.size) (hn : M'.1 = M.1 + 1) (hm : M.1 < 1048576) (hc : gw_at K M' M.1 = c) (ho : ∀ j, j < M.1 → gw_at K M' j = gw_at K M j) (hsh : ∀ j, M.1 + 1 ≤ j → (M'.2.1 j) = M.2.1 j)
    (hP : va_P K.2.1 gw_cl (gw_ws K M ++ [(q, c)]) H1) (hD1 : va_D (gw_A K) (gw_ws K M ++ [(q, c)])) (hS : va_S (gw_A K) s.heap H1 locs1) (hz : H1.size ≤ s.heap.size + (cells + 1)) : q = K.1 + M.1 ∧ gw_D K M' s H1 locs1 (cells + 1) := by
  have hlen : (gw_ws K M).length = M.1 := by simp [gw_ws]
  have hlast : (gw_ws K M ++ [(q, c)])[M.1]? = some (q, c) := by
    rw [List.getElem?_append_right (by omega), hlen, Nat.sub_self]
    rfl
  have hq1 : q < H1.size := (hP M.1 _ hlast).lt
  have hq2 : K.1 ≤ q := hD1.2 M.1 _ hlast
  have hs := hD.2.2.1
  have hq3 : q = K.1 + M.1 := by
    by_cases h : q = K.1 + M.1
    · exact h
    · exfalso
      have hi : q - K.1 < M.1 := by omega
      have h1 : (gw_ws K M ++ [(q, c)])[q - K.1]? = some (K.1 + (q - K.1), gw_at K M (q - K.1)) := by
        rw [List.getElem?_append_left (by omega)]
        exact gw_ws_at hi
      have := hD1.1 (q - K.1) M.1 _ _ h1 hlast (by dsimp only; omega)
      omega
  subst hq3
  refine ⟨rfl, ?_, hS, by omega, ⟨by omega, fun j hj => by rw [hsh j (by omega)]; exact hD.2.2.2.2 j (by omega)⟩⟩
  rw [← gw_ws_push hn hc ho]
  exact hP
section GN
variable {y : gw_Y} {d bc bs pc : Nat} {lv : List (Option Value)} {st : List Value} {Q : Option Value → gw_Mem → Prop} {n : Nat} {sh : Nat → Nat × Nat} {X : Nat × (Nat → Int32)} {R : Nat → Nat → Option Nat} {I : Nat → Nat → Int32} {L : Nat → Nat → Int64}
theorem gw_at_old {K : gw_K} {q : Nat × Nat} {r : Nat → Option Nat} {f : Nat → Int32} {g : Nat → Int64} {j : Nat} (h : j < n) : gw_at K (n + 1, va_up sh n q, X, va_up R n r, va_up I n f, va_up L n g) j = gw_at K (n, sh, X, R, I, L) j := by
  have hj : j ≠ n := by omega
  unfold gw_at
  dsimp only
  rw [gw_up_ne hj, gw_up_ne hj, gw_up_ne hj, gw_up_ne hj]
theorem go_new {idx ci : Nat} (hd : decode y.2.1 pc = .ok (.new idx, 3)) (hw : Cond.classLink y.1.cls idx (gw_c ci).1 ∈ gw_all) (hc2 : gw_C2 ci) (hm : n < 1048576) (kk : gw_Go y d bc bs (pc + 3) lv (.ref n :: st) (n + 1, va_up sh n (0, ci), X, va_up R n (fun _ => none), va_up I n (fun _ => 0), va_up L n (fun _ => 0)) Q) : gw_Go y d (bc + 1) (bs + gw_N ci) pc lv st (n, sh, X, R, I, L) Q := by
  intro K p l e R' s m args below meth c H locs cells slots Z ls hC hD h1 h2 hL hF
  obtain ⟨⟨f1, f2, f3, f4, f5⟩, f6, f7, f8⟩ := hc2
  have hts := hC.2.2.2.2.1
  have h0 := hC.2.2.2.2.2.2.2.1.2.2.1
  refine va_new (D := K.2.1) (fs := gw_fs K ci (fun _ => none) (fun _ => 0) (fun _ => 0)) hC.1 hC.2.1 hts f3 (gw_ty ci) f4 hC.2.2.2.1 (hts _ hw) (hts _ f7) (hts _ f8) hC.2.2.2.2.2.2.1.1 hD.1 gw_apart hD.2.1 (fun q hq => Nat.le_trans h0 hq) f1 (fun j hj => ?_) (by omega) (by rw [f2]; omega) hd (fun q H1 hP hD1 hS => ?_)
  · unfold vp_V
    rw [List.getD_eq_getElem?_getD, gw_fs_at (by rw [← f2]; exact hj), gw_dflt K (f6 j hj)]
    rfl
  · refine gw_size (fun hz0 => ?_)
    obtain ⟨hq, hD2⟩ := hD.push (M' := (n + 1, va_up sh n (0, ci), X, va_up R n (fun _ => none), va_up I n (fun _ => 0), va_up L n (fun _ => 0))) h0 rfl hm (by rw [gw_at_obj (by exact gw_up_eq), gw_up_eq, gw_up_eq, gw_up_eq]) (fun j hj => gw_at_old hj) (fun j hj => gw_up_ne (by dsimp only at hj; omega)) hP hD1 hS hz0
    have ec : cells + 1 + bc = cells + (bc + 1) := by omega
    have ead : gw_ad K n = K.1 + n := gw_ad_lt K hm
    have := kk K p l e R' s m args below meth c H1 locs (cells + 1) (slots + (gw_c ci).2.2) Z ls hC hD2 (by omega) (by rw [f2]; omega) hL (fun r' M2 H' locs' slots' pc' ls' g1 g2 g3 g4 g5 g6 => by
      rw [ec] at g4 ⊢
      exact hF r' M2 H' locs' slots' pc' ls' g1 g2 g3 g4 (by rw [f2] at g5; omega) g6)
    rw [hq]
    rw [List.map_cons, show gw_mv K (.ref n) = .ref (K.1 + n) by rw [← ead]; rfl] at this
    exact this
theorem gw_newP {atype : ArrayType} {ty : FieldType} {k len : Nat} {z : Int32} {f : Nat → Int32} {g : Nat → Int64} (hd : decode y.2.1 pc = .ok (.newarray atype, 2)) (hty : newarray.typeOf atype = ty) (hw : Cond.arrayClass ty ∈ gw_all) (hk : k < gw_NK) (hkt : gw_kt k = ty) (hp : ∀ C, ty ≠ .object C) (hcell : ∀ (K : gw_K) (sh' : Nat → Nat × Nat) (R' : Nat → Nat → Option Nat), sh' n = (k, len) → ∃ a0 : vp_A, gw_at K (n + 1, sh', X, R', va_up I n f, va_up L n g) n = .inl (K.2.2.1 k, a0) ∧ ∀ cA : ClassId, vp_cell cA a0 = arrV cA len (fun _ => defaultValue ty)) (hz : z = nI len) (hl : len < 65536) (hb : componentBytes ty ≤ 8) (hm : n < 1048576)
    (kk : gw_Go y d bc bs (pc + 2) lv (.ref n :: st) (n + 1, va_up sh n (k, len), X, va_up R n (fun _ => none), va_up I n f, va_up L n g) Q) : gw_Go y d (bc + 1) (bs + len) pc lv (.int z :: st) (n, sh, X, R, I, L) Q := by
  intro K p l e R' s m args below meth c H locs cells slots Z ls hC hD h1 h2 hL hF
  have hts := hC.2.2.2.2.1
  have h0 := hC.2.2.2.2.2.2.2.1.2.2.1
  have hK := hC.2.2.2.2.2.2.1.1
  obtain ⟨a0, ha1, ha2⟩ := hcell K (va_up sh n (k, len)) (va_up R n (fun _ => none)) gw_up_eq
  refine va_newa (D := K.2.1) (N' := len) (a0 := a0) hC.1 hC.2.1 (by rw [hty]; exact hts _ hw) hty hK hD.1 gw_apart hD.2.1 (fun q hq => Nat.le_trans h0 hq) ha2 (by rw [hz]; exact nI_pos (by omega)) (by rw [hz]; exact nI_clamp (by omega)) (by have := Nat.mul_le_mul (Nat.le_of_lt hl) hb; omega) (by omega) (by omega) hd (fun q cA H1 hK1 hP hD1 hS => ?_)
  refine gw_size (fun hz0 => ?_)
  have hlast : (gw_tys K ++ [(cA, ty)])[(gw_tys K).length]? = some (cA, ty) := by rw [List.getElem?_append_right (Nat.le_refl _), Nat.sub_self]; rfl
  have r1 := (hK1.2 _ _ hlast).2
  have r2 := (hK.2 k _ (gw_tys_at hk)).2
  rw [hkt] at r2
  have hcA : cA = K.2.2.1 k := by
    cases ty with
    | object C => exact absurd rfl (hp C)
    | _ => exact Option.some.inj ((show _ = some cA from r1).symm.trans r2)
  subst hcA
  obtain ⟨hq, hD2⟩ := hD.push (M' := (n + 1, va_up sh n (k, len), X, va_up R n (fun _ => none), va_up I n f, va_up L n g)) h0 rfl hm ha1 (fun j hj => gw_at_old hj) (fun j hj => gw_up_ne (by dsimp only at hj; omega)) hP hD1 hS hz0
  have ec : cells + 1 + bc = cells + (bc + 1) := by omega
  have ead : gw_ad K n = K.1 + n := gw_ad_lt K hm
  have := kk K p l e R' s m args below meth c H1 locs (cells + 1) (slots + len) Z ls hC hD2 (by omega) (by omega) hL (fun r' M2 H' locs' slots' pc' ls' g1 g2 g3 g4 g5 g6 => by
    rw [ec] at g4 ⊢
    exact hF r' M2 H' locs' slots' pc' ls' g1 g2 g3 g4 (by omega) g6)
  rw [hq]
  rw [List.map_cons, show gw_mv K (.ref n) = .ref (K.1 + n) by rw [← ead]; rfl] at this
  exact this
theorem go_newI {len : Nat} {z : Int32} (hd : decode y.2.1 pc = .ok (.newarray .int, 2)) (hw : Cond.arrayClass .int ∈ gw_all) (hz : z = nI len) (hl : len < 65536) (hm : n < 1048576) (kk : gw_Go y d bc bs (pc + 2) lv (.ref n :: st) (n + 1, va_up sh n (1, len), X, va_up R n (fun _ => none), va_up I n (fun _ => 0), va_up L n (fun _ => 0)) Q) : gw_Go y d (bc + 1) (bs + len) pc lv (.int z :: st) (n, sh, X, R, I, L) Q :=
  gw_newP (k := 1) hd rfl hw (by decide) rfl (fun C h => by cases h) (fun K sh' R' hs => ⟨_, gw_at_int hs, fun cA => by rw [vp_cell_i, gw_up_eq]; rfl⟩) hz hl (by decide) hm kk
theorem go_newL {len : Nat} {z : Int32} (hd : decode y.2.1 pc = .ok (.newarray .long, 2)) (hw : Cond.arrayClass .long ∈ gw_all) (hz : z = nI len) (hl : len < 65536) (hm : n < 1048576) (kk : gw_Go y d bc bs (pc + 2) lv (.ref n :: st) (n + 1, va_up sh n (2, len), X, va_up R n (fun _ => none), va_up I n (fun _ => 0), va_up L n (fun _ => 0)) Q) : gw_Go y d (bc + 1) (bs + len) pc lv (.int z :: st) (n, sh, X, R, I, L) Q :=
  gw_newP (k := 2) hd rfl hw (by decide) rfl (fun C h => by cases h) (fun K sh' R' hs => ⟨_, gw_at_long hs, fun cA => by rw [vp_cell_l, gw_up_eq]; rfl⟩) hz hl (by decide) hm kk
theorem go_newZ {len : Nat} {z : Int32} (hd : decode y.2.1 pc = .ok (.newarray .boolean, 2)) (hw : Cond.arrayClass .boolean ∈ gw_all) (hz : z = nI len) (hl : len < 65536) (hm : n < 1048576) (kk : gw_Go y d bc bs (pc + 2) lv (.ref n :: st) (n + 1, va_up sh n (3, len), X, va_up R n (fun _ => none), va_up I n (fun _ => 0), va_up L n (fun _ => 0)) Q) : gw_Go y d (bc + 1) (bs + len) pc lv (.int z :: st) (n, sh, X, R, I, L) Q :=
  gw_newP (k := 3) hd rfl hw (by decide) rfl (fun C h => by cases h) (fun K sh' R' hs => ⟨_, gw_at_bool hs, fun cA => by rw [vp_cell_i, gw_up_eq]; rfl⟩) hz hl (by decide) hm kk
theorem go_newq {idx t len : Nat} {z : Int32} {C : String} (hd : decode y.2.1 pc = .ok (.anewarray idx, 3)) (hw : Cond.classLink y.1.cls idx C ∈ gw_all) (ho : Cond.arrayOver (.object C) ∈ lw_tbl) (ht : t + 4 < gw_NK) (hkt : gw_kt (t + 4) = .object C) (hz : z = nI len) (hl : len < 65536) (hm : n < 1048576)
    (kk : gw_Go y d bc bs (pc + 3) lv (.ref n :: st) (n + 1, va_up sh n (t + 4, len), X, va_up R n (fun _ => none), va_up I n (fun _ => 0), va_up L n (fun _ => 0)) Q) : gw_Go y d (bc + 1) (bs + len) pc lv (.int z :: st) (n, sh, X, R, I, L) Q := by
  intro K p l e R' s m args below meth c H locs cells slots Z ls hC hD h1 h2 hL hF
  have hts := hC.2.2.2.2.1
  have h0 := hC.2.2.2.2.2.2.2.1.2.2.1
  have hK := hC.2.2.2.2.2.2.1.1
  refine va_newq (D := K.2.1) (N' := len) hC.1 hC.2.1 hC.2.2.2.1 (hts _ hw) (hC.2.2.2.2.2.2.1.2.2 C ho) hK hD.1 gw_apart hD.2.1 (fun q hq => Nat.le_trans h0 hq) (by rw [hz]; exact nI_pos (by omega)) (by rw [hz]; exact nI_clamp (by omega)) (by omega) (by omega) (by omega) hd (fun q cA H1 hK1 hP hD1 hS => ?_)
  refine gw_size (fun hz0 => ?_)
  have hlast : (gw_tys K ++ [(cA, FieldType.object C)])[(gw_tys K).length]? = some (cA, .object C) := by rw [List.getElem?_append_right (Nat.le_refl _), Nat.sub_self]; rfl
  obtain ⟨_, _, -, -, -, r1⟩ := (hK1.2 _ _ hlast).2
  have r2 := (hK.2 (t + 4) _ (gw_tys_at ht)).2
  dsimp only at r2
  rw [hkt] at r2
  obtain ⟨_, _, -, -, -, r3⟩ := r2
  have hcA : cA = K.2.2.1 (t + 4) := Option.some.inj (r1.symm.trans r3)
  subst hcA
  obtain ⟨hq, hD2⟩ := hD.push (M' := (n + 1, va_up sh n (t + 4, len), X, va_up R n (fun _ => none), va_up I n (fun _ => 0), va_up L n (fun _ => 0))) h0 rfl hm (by rw [gw_at_ref (by exact gw_up_eq)]; congr 7; funext j; rw [gw_up_eq]; rfl) (fun j hj => gw_at_old hj) (fun j hj => gw_up_ne (by dsimp only at hj; omega)) hP hD1 hS hz0
  have ec : cells + 1 + bc = cells + (bc + 1) := by omega
  have ead : gw_ad K n = K.1 + n := gw_ad_lt K hm
  have := kk K p l e R' s m args below meth c H1 locs (cells + 1) (slots + len) Z ls hC hD2 (by omega) (by omega) hL (fun r' M2 H' locs' slots' pc' ls' g1 g2 g3 g4 g5 g6 => by
    rw [ec] at g4 ⊢
    exact hF r' M2 H' locs' slots' pc' ls' g1 g2 g3 g4 (by omega) g6)
  rw [hq]
  rw [List.map_cons, show gw_mv K (.ref n) = .ref (K.1 + n) by rw [← ead]; rfl] at this
  exact this
theorem go_obj {idx o : Nat} {M : gw_Mem} (hd : decode y.2.1 pc = .ok (.invokespecial idx, 3)) (hw : Cond.methodLink y.1.cls idx Lib.objectInit ∈ gw_all) (hi : Cond.instanceMethod Lib.objectInit ∈ gw_all) (hc : Cond.code Lib.objectInit ⟨#[0xb1]⟩ 1 none ∈ gw_all) (hr : (st.map fun v => v.category).sum ≤ 8) (kk : gw_Go y (d + 1) bc bs (pc + 3) lv st M Q) : gw_Go y (d + 1) bc bs pc lv (.ref o :: st) M Q := by
  intro K p l e R' s m args below meth c H locs cells slots Z ls hC hD h1 h2 hL hF
  have hts := hC.2.2.2.2.1
  have hfr := hC.2.2.2.2.2.2.2.2
  exact W.objInit hC.1 hC.2.1 hC.2.2.2.1 (hts _ hw) (hts _ hi) (hts _ hc) rfl (hL.1.trans hC.2.2.1.symm) rfl hd (by omega) (by show 2 * 0 + _ + 12 ≤ _; rw [gw_mv_sum]; omega) (kk K p l e R' s m args below meth c H locs cells slots Z ls hC hD h1 h2 hL hF)
theorem go_max {idx : Nat} {x z : Int32} {M : gw_Mem} (hd : decode y.2.1 pc = .ok (.invokestatic idx, 3)) (hw : Cond.methodLink y.1.cls idx Lib.Math.max.name ∈ gw_all) (hs : Cond.static Lib.Math.max.name ∈ gw_all) (hi : Cond.initialized "java/lang/Math" ∈ gw_all) (hc : Cond.code Lib.Math.max.name Lib.Math.max.code 2 (some .int) ∈ gw_all) (hr : (st.map fun v => v.category).sum ≤ 8) (kk : gw_Go y (d + 1) bc bs (pc + 3) lv (.int (if x < z then z else x) :: st) M Q) : gw_Go y (d + 1) bc bs pc lv (.int z :: .int x :: st) M Q := by
  intro K p l e R' s m args below meth c H locs cells slots Z ls hC hD h1 h2 hL hF
  have hts := hC.2.2.2.2.1
  have hfr := hC.2.2.2.2.2.2.2.2
  exact va_mmax hC.1 hC.2.1 (hC.2.2.1.trans hL.1.symm) hC.2.2.2.1 (hts _ hw) (hts _ hs) (hts _ hi) (hts _ hc) (by omega) (by rw [gw_mv_sum]; omega) (by omega) (by omega) hd (kk K p l e R' s m args below meth c H locs cells slots Z ls hC hD h1 h2 hL hF)
theorem go_cpyI {idx o o' len : Nat} {z : Int32} (hd : decode y.2.1 pc = .ok (.invokestatic idx, 3)) (hw : Cond.methodLink y.1.cls idx arraycopyName ∈ gw_all) (hna : Cond.native arraycopyName ∈ gw_all) (hs : Cond.static arraycopyName ∈ gw_all) (hi : Cond.initialized "java/lang/System" ∈ gw_all) (ho : sh o = (1, len)) (ho' : sh o' = (1, len)) (hz : z = nI len) (hl : len < 65536) (hr : (st.map fun v => v.category).sum ≤ 8)
    (kk : gw_Go y (d + 1) bc bs (pc + 3) lv st (n, sh, X, R, va_up I o' (va_cpy (I o) (I o') 0 0 len), L) Q) : gw_Go y (d + 1) bc bs pc lv (.int z :: .int 0 :: .ref o' :: .int 0 :: .ref o :: st) (n, sh, X, R, I, L) Q := by
  intro K p l e R' s m args below meth c H locs cells slots Z ls hC hD h1 h2 hL hF
  have hts := hC.2.2.2.2.1
  have hfr := hC.2.2.2.2.2.2.2.2
  have hlt : o < n := hD.2.2.2.lt ho
  have hlt' : o' < n := hD.2.2.2.lt ho'
  have ea : gw_ad K o = K.1 + o := gw_ad_in (M := (n, sh, X, R, I, L)) hD.2.2.2 hlt
  have ea' : gw_ad K o' = K.1 + o' := gw_ad_in (M := (n, sh, X, R, I, L)) hD.2.2.2 hlt'
  have hc : z.toNatClampNeg = len := by rw [hz]; exact nI_clamp (by omega)
  have h00 : (0 : Int32).toNatClampNeg = 0 := by decide
  show W p l e R' s m args below meth c H locs cells slots Z (F0 m pc ls (.int z :: .int 0 :: .ref (gw_ad K o') :: .int 0 :: .ref (gw_ad K o) :: st.map (gw_mv K)))
  rw [ea, ea']
  have hnf : nativeFrameWords "java/lang/System" "arraycopy" 5 + 11 ≤ 32 := by decide +kernel
  refine va_copyi (D := K.2.1) (ty := .int) hC.1 hC.2.1 (hC.2.2.1.trans hL.1.symm) hC.2.2.2.1 (hts _ hw) (hts _ hna) (hts _ hs) (hts _ hi) hC.2.2.2.2.2.2.1.1 hD.1 gw_apart hD.2.1 o o' 1 1 (by rw [gw_ws_at hlt, gw_at_int ho]) (by rw [gw_ws_at hlt', gw_at_int ho']) (gw_tys_at (by decide)) (gw_tys_at (by decide)) rfl (by decide) (by decide) (by rw [hz]; exact nI_pos (by omega)) (by rw [hc, h00]; omega) (by rw [hc, h00]; omega) (fun i _ => rfl) (by omega) (by rw [gw_mv_sum]; omega) hd (fun H1 locs1 hP hD' hS => ?_)
  rw [hc, h00] at hP
  refine kk K p l e R' s m args below meth c H1 locs1 cells slots Z ls hC (hD.set (o := o') hlt' rfl rfl ?_ ?_ hP hS) h1 h2 hL hF
  · rw [gw_at_int ho', gw_up_eq]
  · intro j hjo
    unfold gw_at
    dsimp only
    rw [gw_up_ne hjo]
theorem go_cpyL {idx o o' len : Nat} {z : Int32} (hd : decode y.2.1 pc = .ok (.invokestatic idx, 3)) (hw : Cond.methodLink y.1.cls idx arraycopyName ∈ gw_all) (hna : Cond.native arraycopyName ∈ gw_all) (hs : Cond.static arraycopyName ∈ gw_all) (hi : Cond.initialized "java/lang/System" ∈ gw_all) (ho : sh o = (2, len)) (ho' : sh o' = (2, len)) (hz : z = nI len) (hl : len < 65536) (hr : (st.map fun v => v.category).sum ≤ 8)
    (kk : gw_Go y (d + 1) bc bs (pc + 3) lv st (n, sh, X, R, I, va_up L o' (va_cpy (L o) (L o') 0 0 len)) Q) : gw_Go y (d + 1) bc bs pc lv (.int z :: .int 0 :: .ref o' :: .int 0 :: .ref o :: st) (n, sh, X, R, I, L) Q := by
  intro K p l e R' s m args below meth c H locs cells slots Z ls hC hD h1 h2 hL hF
  have hts := hC.2.2.2.2.1
  have hfr := hC.2.2.2.2.2.2.2.2
  have hlt : o < n := hD.2.2.2.lt ho
  have hlt' : o' < n := hD.2.2.2.lt ho'
  have ea : gw_ad K o = K.1 + o := gw_ad_in (M := (n, sh, X, R, I, L)) hD.2.2.2 hlt
  have ea' : gw_ad K o' = K.1 + o' := gw_ad_in (M := (n, sh, X, R, I, L)) hD.2.2.2 hlt'
  have hc : z.toNatClampNeg = len := by rw [hz]; exact nI_clamp (by omega)
  have h00 : (0 : Int32).toNatClampNeg = 0 := by decide
  show W p l e R' s m args below meth c H locs cells slots Z (F0 m pc ls (.int z :: .int 0 :: .ref (gw_ad K o') :: .int 0 :: .ref (gw_ad K o) :: st.map (gw_mv K)))
  rw [ea, ea']
  have hnf : nativeFrameWords "java/lang/System" "arraycopy" 5 + 11 ≤ 32 := by decide +kernel
  refine va_copyl (D := K.2.1) (ty := .long) hC.1 hC.2.1 (hC.2.2.1.trans hL.1.symm) hC.2.2.2.1 (hts _ hw) (hts _ hna) (hts _ hs) (hts _ hi) hC.2.2.2.2.2.2.1.1 hD.1 gw_apart hD.2.1 o o' 2 2 (by rw [gw_ws_at hlt, gw_at_long ho]) (by rw [gw_ws_at hlt', gw_at_long ho']) (gw_tys_at (by decide)) (gw_tys_at (by decide)) rfl (by decide) (by decide) (by rw [hz]; exact nI_pos (by omega)) (by rw [hc, h00]; omega) (by rw [hc, h00]; omega) (fun i _ => rfl) (by omega) (by rw [gw_mv_sum]; omega) hd (fun H1 locs1 hP hD' hS => ?_)
  rw [hc, h00] at hP
  refine kk K p l e R' s m args below meth c H1 locs1 cells slots Z ls hC (hD.set (o := o') hlt' rfl rfl ?_ ?_ hP hS) h1 h2 hL hF
  · rw [gw_at_long ho', gw_up_eq]
  · intro j hjo
    unfold gw_at
    dsimp only
    rw [gw_up_ne hjo]
end GN
