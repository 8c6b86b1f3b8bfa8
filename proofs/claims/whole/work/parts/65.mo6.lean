/-! the reference: frames -/
/-- the frame i of the reference, its place being p -/
def mf_fr (I : Nat → Nat → Int32) (i : Nat) (p : Int32) (f : ab_Fr) : Prop := I 553 i = nI f.1 ∧ I 554 i = p ∧ I 555 i = nI f.2.2.1.length ∧ f.2.2.1.length ≤ 6 ∧ st_at (fun j => I 557 (6 * i + j)) f.2.2.1 ∧ ∀ j, j < 4 → I 556 (4 * i + j) = f.2.2.2 j
/-- the frames below the top one: their places are not left behind yet -/
def mf_rest (I : Nat → Nat → Int32) : List ab_Fr → Prop
  | [] => True
  | f :: fs => (mf_fr I fs.length (f.2.1 - 1) f ∧ ∃ q, q ≤ 24 ∧ f.2.1 = nI q) ∧ mf_rest I fs
def mf_eq (I I' : Nat → Nat → Int32) (i : Nat) : Prop := I' 553 i = I 553 i ∧ I' 554 i = I 554 i ∧ I' 555 i = I 555 i ∧ (∀ j, j < 6 → I' 557 (6 * i + j) = I 557 (6 * i + j)) ∧ ∀ j, j < 4 → I' 556 (4 * i + j) = I 556 (4 * i + j)
theorem st_at.ptw {f g : Nat → Int32} : ∀ {l : List Int32} {b : Nat}, l.length ≤ b → (∀ j, j < b → g j = f j) → st_at f l → st_at g l
  | [], _, _, _, _ => trivial
  | v :: vs, b, hb, h, hs => ⟨by rw [h _ (by rw [List.length_cons] at hb; omega)]; exact hs.1, st_at.ptw (by rw [List.length_cons] at hb; omega) h hs.2⟩
theorem mf_fr.ptw {I I' : Nat → Nat → Int32} {i : Nat} {p : Int32} {f : ab_Fr} (h : mf_fr I i p f) (e : mf_eq I I' i) : mf_fr I' i p f := ⟨e.1.trans h.1, e.2.1.trans h.2.1, e.2.2.1.trans h.2.2.1, h.2.2.2.1, h.2.2.2.2.1.ptw h.2.2.2.1 e.2.2.2.1, fun j hj => (e.2.2.2.2 j hj).trans (h.2.2.2.2.2 j hj)⟩
theorem mf_rest.ptw {I I' : Nat → Nat → Int32} : ∀ {fs : List ab_Fr}, mf_rest I fs → (∀ i, i < fs.length → mf_eq I I' i) → mf_rest I' fs
  | [], _, _ => trivial
  | f :: fs, h, e => ⟨⟨h.1.1.ptw (e _ (by rw [List.length_cons]; omega)), h.1.2⟩, h.2.ptw (fun i hi => e i (by rw [List.length_cons]; omega))⟩
theorem mf_eq.refl {I : Nat → Nat → Int32} {i : Nat} : mf_eq I I i := ⟨rfl, rfl, rfl, fun _ _ => rfl, fun _ _ => rfl⟩
theorem mf_eq.trans {I I' I2 : Nat → Nat → Int32} {i : Nat} (h : mf_eq I I' i) (h2 : mf_eq I' I2 i) : mf_eq I I2 i := ⟨h2.1.trans h.1, h2.2.1.trans h.2.1, h2.2.2.1.trans h.2.2.1, fun j hj => (h2.2.2.2.1 j hj).trans (h.2.2.2.1 j hj), fun j hj => (h2.2.2.2.2 j hj).trans (h.2.2.2.2 j hj)⟩
theorem mf_eq.row {I I' : Nat → Nat → Int32} {i : Nat} (h : ∀ q, 553 ≤ q → q ≤ 557 → I' q = I q) : mf_eq I I' i := ⟨by rw [h _ (by decide) (by decide)], by rw [h _ (by decide) (by decide)], by rw [h _ (by decide) (by decide)], fun j _ => by rw [h _ (by decide) (by decide)], fun j _ => by rw [h _ (by decide) (by decide)]⟩
/-- how many inputs the reference has read, t being an upper limit -/
def us_at (I : Nat → Nat → Int32) (inp : List Int32) (u t : Nat) : Prop := I 533 21 = nI inp.length ∧ inp.length ≤ 12 ∧ (∀ (j : Nat) (v : Int32), inp[j]? = some v → I 552 j = v) ∧ ∃ w, I 533 28 = nI w ∧ w ≤ t ∧ u ≤ inp.length ∧ ((w < inp.length ∧ w = u) ∨ (inp.length ≤ w ∧ u = inp.length))
theorem us_at.kept {I I' : Nat → Nat → Int32} {inp : List Int32} {u t t' : Nat} (h : us_at I inp u t) (ht : t ≤ t') (h1 : I' 533 21 = I 533 21) (h2 : I' 533 28 = I 533 28) (h3 : I' 552 = I 552) : us_at I' inp u t' := by
  obtain ⟨a, b, c, w, e1, e2, e3⟩ := h
  exact ⟨h1.trans a, b, by rw [h3]; exact c, w, h2.trans e1, by omega, e3⟩
section MO
variable {d n : Nat} {sh : Nat → Nat × Nat} {X : Nat × (Nat → Int32)} {R : Nat → Nat → Option Nat} {I : Nat → Nat → Int32} {L : Nat → Nat → Int64} {Q : Option Value → gw_Mem → Prop}
theorem c_Mo_take {i m : Nat} {pl p v : Int32} {st : List Int32} {loc : Nat → Int32} (hp : pt_Mo sh R) (hi : i < 4) (hf : mf_fr I i pl (m, p, v :: st, loc)) (hQ : ∀ I', mf_fr I' i pl (m, p, st, loc) → (∀ i', i' ≠ i → mf_eq I I' i') → (∀ q, q ≠ 555 → I' q = I q) → Q (some (.int v)) (n, sh, X, R, I', L)) : gw_Call y_Mo_take d 0 0 [.ref 533, .int (nI i)] (n, sh, X, R, I, L) Q := by
  obtain ⟨s533, s534, s535, s536, s537, s538, s539, s540, s541, s542, s543, s544, s545, s546, s547, s548, s549, s550, s551, s552, s553, s554, s555, s556, s557, r534, r535, r536, r537, r538, r539, r540, r541, r542, r543, r544, r545, r546, r547, r548, r549, r550, r551, r552, r553, r554, r555, r556, r557⟩ := hp
  obtain ⟨a1, a2, a3, a4, a5, a6⟩ := hf
  have a3' : I 555 i = nI (st.length + 1) := a3
  have a4' : st.length + 1 ≤ 6 := a4
  refine gw_call o_Mo_take (Nat.le_of_ble_eq_true rfl) ?_
  refine go_aload_n 0 d_Mo_take_0 rfl rfl ?_
  refine go_getR d_Mo_take_1 f_Mo_75 (by assumption) (by assumption) ?_
  refine go_iload_n 1 d_Mo_take_4 rfl rfl ?_
  refine go_dup2 d_Mo_take_5 rfl rfl ?_
  refine go_iald (i) d_Mo_take_6 (by assumption) (rfl) (hi) (by decide) ?_
  refine go_iconst (v := 1) d_Mo_take_7 rfl ?_
  refine go_isub d_Mo_take_8 ?_
  refine go_iast (i) d_Mo_take_9 (by assumption) (rfl) (hi) (by decide) ?_
  refine go_aload_n 0 d_Mo_take_10 rfl rfl ?_
  refine go_getR d_Mo_take_11 f_Mo_81 (by assumption) (by assumption) ?_
  refine go_bipush (v := 6) d_Mo_take_14 rfl ?_
  refine go_iload_n 1 d_Mo_take_16 rfl rfl ?_
  refine go_imul d_Mo_take_17 ?_
  refine go_aload_n 0 d_Mo_take_18 rfl rfl ?_
  refine go_getR d_Mo_take_19 f_Mo_75 (by assumption) (by assumption) ?_
  refine go_iload_n 1 d_Mo_take_22 rfl rfl ?_
  refine go_iald (i) d_Mo_take_23 (by assumption) (rfl) (hi) (by decide) ?_
  refine go_iadd d_Mo_take_24 ?_
  rw [up2_eq, a3', nI_pred]
  refine go_iald (6 * i + st.length) d_Mo_take_25 (by assumption) (ix (a := 6)) (by omega) (by decide) ?_
  rw [up2_ne (Or.inl (by decide)), show I 557 (6 * i + st.length) = v from a5.1]
  exact go_iret d_Mo_take_26 rfl (hQ _ ⟨by simp (disch := omega) only [up2_eq, up2_ne]; exact a1, by simp (disch := omega) only [up2_eq, up2_ne]; exact a2, by simp (disch := omega) only [up2_eq, up2_ne], by show st.length ≤ 6; omega, a5.2.ptw (Nat.le_refl _) (fun j hj => by simp (disch := omega) only [up2_eq, up2_ne]), fun j hj => by simp (disch := omega) only [up2_eq, up2_ne]; exact a6 j hj⟩ (fun i' hi' => ⟨by simp (disch := omega) only [up2_eq, up2_ne], by simp (disch := omega) only [up2_eq, up2_ne], by simp (disch := omega) only [up2_eq, up2_ne], fun j hj => by simp (disch := omega) only [up2_eq, up2_ne], fun j hj => by simp (disch := omega) only [up2_eq, up2_ne]⟩) (fun q hq => gw_up_ne hq))
theorem c_Mo_give {i m : Nat} {pl p v : Int32} {st : List Int32} {loc : Nat → Int32} (hp : pt_Mo sh R) (hi : i < 4) (hf : mf_fr I i pl (m, p, st, loc)) (hl : st.length < 6) (hQ : ∀ I', mf_fr I' i pl (m, p, v :: st, loc) → (∀ i', i' ≠ i → mf_eq I I' i') → (∀ q, q ≠ 555 → q ≠ 557 → I' q = I q) → Q none (n, sh, X, R, I', L)) : gw_Call y_Mo_give d 0 0 [.ref 533, .int (nI i), .int v] (n, sh, X, R, I, L) Q := by
  obtain ⟨s533, s534, s535, s536, s537, s538, s539, s540, s541, s542, s543, s544, s545, s546, s547, s548, s549, s550, s551, s552, s553, s554, s555, s556, s557, r534, r535, r536, r537, r538, r539, r540, r541, r542, r543, r544, r545, r546, r547, r548, r549, r550, r551, r552, r553, r554, r555, r556, r557⟩ := hp
  obtain ⟨a1, a2, a3, a4, a5, a6⟩ := hf
  have a3' : I 555 i = nI st.length := a3
  refine gw_call o_Mo_give (Nat.le_of_ble_eq_true rfl) ?_
  refine go_aload_n 0 d_Mo_give_0 rfl rfl ?_
  refine go_getR d_Mo_give_1 f_Mo_81 (by assumption) (by assumption) ?_
  refine go_bipush (v := 6) d_Mo_give_4 rfl ?_
  refine go_iload_n 1 d_Mo_give_6 rfl rfl ?_
  refine go_imul d_Mo_give_7 ?_
  refine go_aload_n 0 d_Mo_give_8 rfl rfl ?_
  refine go_getR d_Mo_give_9 f_Mo_75 (by assumption) (by assumption) ?_
  refine go_iload_n 1 d_Mo_give_12 rfl rfl ?_
  refine go_iald (i) d_Mo_give_13 (by assumption) (rfl) (hi) (by decide) ?_
  refine go_iadd d_Mo_give_14 ?_
  refine go_iload_n 2 d_Mo_give_15 rfl rfl ?_
  refine go_iast (6 * i + st.length) d_Mo_give_16 (by assumption) (by rw [a3']; exact ix (a := 6)) (by omega) (by decide) ?_
  refine go_aload_n 0 d_Mo_give_17 rfl rfl ?_
  refine go_getR d_Mo_give_18 f_Mo_75 (by assumption) (by assumption) ?_
  refine go_iload_n 1 d_Mo_give_21 rfl rfl ?_
  refine go_dup2 d_Mo_give_22 rfl rfl ?_
  refine go_iald (i) d_Mo_give_23 (by assumption) (rfl) (hi) (by decide) ?_
  refine go_iconst (v := 1) d_Mo_give_24 rfl ?_
  refine go_iadd d_Mo_give_25 ?_
  refine go_iast (i) d_Mo_give_26 (by assumption) (rfl) (hi) (by decide) ?_
  exact go_vret d_Mo_give_27 rfl (hQ _ ⟨by simp (disch := omega) only [up2_eq, up2_ne]; exact a1, by simp (disch := omega) only [up2_eq, up2_ne]; exact a2, by simp (disch := omega) only [up2_eq, up2_ne]; rw [a3', nI_1]; rfl, by show st.length + 1 ≤ 6; omega, ⟨by dsimp only; simp (disch := omega) only [up2_eq, up2_ne], a5.ptw (Nat.le_refl _) (fun j hj => by simp (disch := omega) only [up2_eq, up2_ne])⟩, fun j hj => by simp (disch := omega) only [up2_eq, up2_ne]; exact a6 j hj⟩ (fun i' hi' => ⟨by simp (disch := omega) only [up2_eq, up2_ne], by simp (disch := omega) only [up2_eq, up2_ne], by simp (disch := omega) only [up2_eq, up2_ne], fun j hj => by simp (disch := omega) only [up2_eq, up2_ne], fun j hj => by simp (disch := omega) only [up2_eq, up2_ne]⟩) (fun q h1 h2 => by rw [gw_up_ne h1, gw_up_ne h2]))
theorem c_Mo_enter {fl m : Nat} {x y z dp : Int32} (hp : pt_Mo sh R) (hl : fl < 4) (h27 : I 533 27 = nI fl) (h31 : I 533 31 = dp) (hQ : ∀ I', mf_fr I' fl 0 (m, 0, [], ar_v x y z) → (∀ i', i' ≠ fl → mf_eq I I' i') → I' 533 27 = nI (fl + 1) → I' 533 31 = (if dp < nI (fl + 1) then nI (fl + 1) else dp) → (∀ j, j ≠ 27 → j ≠ 31 → I' 533 j = I 533 j) → (∀ q, q ≠ 533 → (q < 553 ∨ 557 ≤ q) → I' q = I q) → Q none (n, sh, X, R, I', L)) : gw_Call y_Mo_enter d 0 0 [.ref 533, .int (nI m), .int x, .int y, .int z] (n, sh, X, R, I, L) Q := by
  obtain ⟨s533, s534, s535, s536, s537, s538, s539, s540, s541, s542, s543, s544, s545, s546, s547, s548, s549, s550, s551, s552, s553, s554, s555, s556, s557, r534, r535, r536, r537, r538, r539, r540, r541, r542, r543, r544, r545, r546, r547, r548, r549, r550, r551, r552, r553, r554, r555, r556, r557⟩ := hp
  refine gw_call o_Mo_enter (Nat.le_of_ble_eq_true rfl) ?_
  refine go_aload_n 0 d_Mo_enter_0 rfl rfl ?_
  refine go_getI d_Mo_enter_1 f_Mo_241 (by assumption) ?_
  rw [h27]
  refine go_istore d_Mo_enter_4 (Nat.le_of_ble_eq_true rfl) ?_
  refine go_aload_n 0 d_Mo_enter_6 rfl rfl ?_
  refine go_getR d_Mo_enter_7 f_Mo_69 (by assumption) (by assumption) ?_
  refine go_iload d_Mo_enter_10 rfl ?_
  refine go_iload_n 1 d_Mo_enter_12 rfl rfl ?_
  refine go_iast (fl) d_Mo_enter_13 (by assumption) (rfl) (hl) (by decide) ?_
  refine go_aload_n 0 d_Mo_enter_14 rfl rfl ?_
  refine go_getR d_Mo_enter_15 f_Mo_72 (by assumption) (by assumption) ?_
  refine go_iload d_Mo_enter_18 rfl ?_
  refine go_iconst (v := 0) d_Mo_enter_20 rfl ?_
  refine go_iast (fl) d_Mo_enter_21 (by assumption) (rfl) (hl) (by decide) ?_
  refine go_aload_n 0 d_Mo_enter_22 rfl rfl ?_
  refine go_getR d_Mo_enter_23 f_Mo_75 (by assumption) (by assumption) ?_
  refine go_iload d_Mo_enter_26 rfl ?_
  refine go_iconst (v := 0) d_Mo_enter_28 rfl ?_
  refine go_iast (fl) d_Mo_enter_29 (by assumption) (rfl) (hl) (by decide) ?_
  refine go_aload_n 0 d_Mo_enter_30 rfl rfl ?_
  refine go_getR d_Mo_enter_31 f_Mo_78 (by assumption) (by assumption) ?_
  refine go_iconst (v := 4) d_Mo_enter_34 rfl ?_
  refine go_iload d_Mo_enter_35 rfl ?_
  refine go_imul d_Mo_enter_37 ?_
  refine go_iload_n 2 d_Mo_enter_38 rfl rfl ?_
  refine go_iast (4 * fl) d_Mo_enter_39 (by assumption) (nI_mul 4 fl) (by omega) (by decide) ?_
  refine go_aload_n 0 d_Mo_enter_40 rfl rfl ?_
  refine go_getR d_Mo_enter_41 f_Mo_78 (by assumption) (by assumption) ?_
  refine go_iconst (v := 4) d_Mo_enter_44 rfl ?_
  refine go_iload d_Mo_enter_45 rfl ?_
  refine go_imul d_Mo_enter_47 ?_
  refine go_iconst (v := 1) d_Mo_enter_48 rfl ?_
  refine go_iadd d_Mo_enter_49 ?_
  refine go_iload_n 3 d_Mo_enter_50 rfl rfl ?_
  refine go_iast (4 * fl + 1) d_Mo_enter_51 (by assumption) (ix (a := 4) (j := 1)) (by omega) (by decide) ?_
  refine go_aload_n 0 d_Mo_enter_52 rfl rfl ?_
  refine go_getR d_Mo_enter_53 f_Mo_78 (by assumption) (by assumption) ?_
  refine go_iconst (v := 4) d_Mo_enter_56 rfl ?_
  refine go_iload d_Mo_enter_57 rfl ?_
  refine go_imul d_Mo_enter_59 ?_
  refine go_iconst (v := 2) d_Mo_enter_60 rfl ?_
  refine go_iadd d_Mo_enter_61 ?_
  refine go_iload d_Mo_enter_62 rfl ?_
  refine go_iast (4 * fl + 2) d_Mo_enter_64 (by assumption) (ix (a := 4) (j := 2)) (by omega) (by decide) ?_
  refine go_aload_n 0 d_Mo_enter_65 rfl rfl ?_
  refine go_getR d_Mo_enter_66 f_Mo_78 (by assumption) (by assumption) ?_
  refine go_iconst (v := 4) d_Mo_enter_69 rfl ?_
  refine go_iload d_Mo_enter_70 rfl ?_
  refine go_imul d_Mo_enter_72 ?_
  refine go_iconst (v := 3) d_Mo_enter_73 rfl ?_
  refine go_iadd d_Mo_enter_74 ?_
  refine go_iconst (v := 0) d_Mo_enter_75 rfl ?_
  refine go_iast (4 * fl + 3) d_Mo_enter_76 (by assumption) (ix (a := 4) (j := 3)) (by omega) (by decide) ?_
  refine go_aload_n 0 d_Mo_enter_77 rfl rfl ?_
  refine go_dup d_Mo_enter_78 rfl ?_
  refine go_getI d_Mo_enter_79 f_Mo_241 (by assumption) ?_
  refine go_iconst (v := 1) d_Mo_enter_82 rfl ?_
  refine go_iadd d_Mo_enter_83 ?_
  simp (disch := omega) only [up2_eq, up2_ne]
  rw [h27, nI_1]
  refine go_putI d_Mo_enter_84 f_Mo_241 (by assumption) ?_
  refine go_aload_n 0 d_Mo_enter_87 rfl rfl ?_
  refine go_aload_n 0 d_Mo_enter_88 rfl rfl ?_
  refine go_getI d_Mo_enter_89 f_Mo_241 (by assumption) ?_
  simp (disch := omega) only [up2_eq, up2_ne]
  refine go_aload_n 0 d_Mo_enter_92 rfl rfl ?_
  refine go_getI d_Mo_enter_93 f_Mo_244 (by assumption) ?_
  simp (disch := omega) only [up2_eq, up2_ne]
  rw [h31]
  refine go_icmp_le 106 d_Mo_enter_96 rfl (fun h96 => ?_) (fun h96 => ?_)
  · refine go_aload_n 0 d_Mo_enter_106 rfl rfl ?_
    refine go_getI d_Mo_enter_107 f_Mo_244 (by assumption) ?_
    try simp (disch := omega) only [up2_eq, up2_ne]
    try rw [h31]
    refine go_putI d_Mo_enter_110 f_Mo_244 (by assumption) ?_
    exact go_vret d_Mo_enter_113 rfl (hQ _ ⟨by simp (disch := omega) only [up2_eq, up2_ne], by simp (disch := omega) only [up2_eq, up2_ne], by simp (disch := omega) only [up2_eq, up2_ne] <;> rfl, Nat.zero_le _, trivial, fun j hj => by (rcases (show j = 0 ∨ j = 1 ∨ j = 2 ∨ j = 3 by omega) with rfl | rfl | rfl | rfl <;> simp (disch := omega) only [Nat.add_zero, up2_eq, up2_ne] <;> rfl)⟩ (fun i' hi' => ⟨by simp (disch := omega) only [up2_eq, up2_ne], by simp (disch := omega) only [up2_eq, up2_ne], by simp (disch := omega) only [up2_eq, up2_ne], fun j hj => by simp (disch := omega) only [up2_eq, up2_ne], fun j hj => by simp (disch := omega) only [up2_eq, up2_ne]⟩) (by simp (disch := omega) only [up2_eq, up2_ne]) (by simp (disch := omega) only [up2_eq, up2_ne]; first | rw [if_pos (Int32.not_le.mp h96)] | rw [if_neg (Int32.not_lt.mpr h96)]) (fun j h1 h2 => by simp (disch := omega) only [up2_eq, up2_ne]) (fun q h1 h2 => by rw [gw_up_ne h1, gw_up_ne h1, gw_up_ne (by omega), gw_up_ne (by omega), gw_up_ne (by omega), gw_up_ne (by omega), gw_up_ne (by omega), gw_up_ne (by omega), gw_up_ne (by omega)]))
  · refine go_aload_n 0 d_Mo_enter_99 rfl rfl ?_
    refine go_getI d_Mo_enter_100 f_Mo_241 (by assumption) ?_
    simp (disch := omega) only [up2_eq, up2_ne]
    refine go_goto 110 d_Mo_enter_103 rfl ?_
    try simp (disch := omega) only [up2_eq, up2_ne]
    try rw [h31]
    refine go_putI d_Mo_enter_110 f_Mo_244 (by assumption) ?_
    exact go_vret d_Mo_enter_113 rfl (hQ _ ⟨by simp (disch := omega) only [up2_eq, up2_ne], by simp (disch := omega) only [up2_eq, up2_ne], by simp (disch := omega) only [up2_eq, up2_ne] <;> rfl, Nat.zero_le _, trivial, fun j hj => by (rcases (show j = 0 ∨ j = 1 ∨ j = 2 ∨ j = 3 by omega) with rfl | rfl | rfl | rfl <;> simp (disch := omega) only [Nat.add_zero, up2_eq, up2_ne] <;> rfl)⟩ (fun i' hi' => ⟨by simp (disch := omega) only [up2_eq, up2_ne], by simp (disch := omega) only [up2_eq, up2_ne], by simp (disch := omega) only [up2_eq, up2_ne], fun j hj => by simp (disch := omega) only [up2_eq, up2_ne], fun j hj => by simp (disch := omega) only [up2_eq, up2_ne]⟩) (by simp (disch := omega) only [up2_eq, up2_ne]) (by simp (disch := omega) only [up2_eq, up2_ne]; first | rw [if_pos (Int32.not_le.mp h96)] | rw [if_neg (Int32.not_lt.mpr h96)]) (fun j h1 h2 => by simp (disch := omega) only [up2_eq, up2_ne]) (fun q h1 h2 => by rw [gw_up_ne h1, gw_up_ne h1, gw_up_ne (by omega), gw_up_ne (by omega), gw_up_ne (by omega), gw_up_ne (by omega), gw_up_ne (by omega), gw_up_ne (by omega), gw_up_ne (by omega)]))
end MO
