/-! the reference: leave, makeStep -/
theorem i_30 : ¬ (3 : Int32) = 0 := by decide
theorem i_31 : ¬ (3 : Int32) = 1 := by decide
theorem in_len {x : Int32} {l : Nat} (hl : l ≤ 24) (h : 0 ≤ x ∧ x ≤ nI l - 1) : ∃ j, j < l ∧ x = nI j := by
  obtain ⟨j, hj, rfl⟩ := nI_of (Int32.not_lt.mpr h.1)
  cases l with
  | zero =>
    exfalso
    have := Int32.le_iff_toInt_le.mp h.2
    rw [nI_toInt hj, show (nI 0 - 1 : Int32).toInt = -1 by decide] at this
    omega
  | succ l =>
    rw [nI_pred] at h
    exact ⟨j, by have := (nI_leI hj (by omega)).mp h.2; omega, rfl⟩
theorem len_in {x : Int32} {l j : Nat} (hl : l ≤ 24) (hj : j < l) (h : x = nI j) : 0 ≤ x ∧ x ≤ nI l - 1 := by
  subst h
  obtain ⟨l, rfl⟩ : ∃ l', l = l' + 1 := ⟨l - 1, by omega⟩
  rw [nI_pred]
  exact ⟨nI_pos' (by omega), (nI_leI (by omega) (by omega)).mpr (by omega)⟩
theorem rn_wk {inp : List Int32} {k m u : Nat} {nn p wd dp : Int32} {st : List Int32} {loc : Nat → Int32} {rest : List ab_Fr} (hk : k < 15) (hk2 : k ≠ 7 ∧ k ≠ 8 ∧ k ≠ 9 ∧ k ≠ 11 ∧ k ≠ 12) (h : rn_tk k ≤ st.length) : rn_do inp k nn m p st loc rest u wd dp = match mo_wk inp k nn st loc u wd with | none => (2, ([], u, wd, dp), 0) | some x => (0, ((m, p, x.1, x.2.1) :: rest, x.2.2.1, x.2.2.2, dp), 0) := by
  have one : 1 ≤ st.length → ∃ v s, st = v :: s := fun h => by cases st with | nil => exact absurd h (by decide) | cons v s => exact ⟨v, s, rfl⟩
  have two : 2 ≤ st.length → ∃ y x s, st = y :: x :: s := fun h => by cases st with | nil => exact absurd h (by decide) | cons y s => cases s with | nil => exact absurd h (by simp) | cons x s => exact ⟨y, x, s, rfl⟩
  rcases (show k = 0 ∨ k = 1 ∨ k = 2 ∨ k = 3 ∨ k = 4 ∨ k = 5 ∨ k = 6 ∨ k = 10 ∨ k = 13 ∨ k = 14 by clear h one two; omega) with rfl | rfl | rfl | rfl | rfl | rfl | rfl | rfl | rfl | rfl
  · rfl
  · rfl
  · obtain ⟨v, s, rfl⟩ := one h; rfl
  · obtain ⟨y, x, s, rfl⟩ := two h; simp only [rn_do, mo_wk]; split <;> rfl
  · obtain ⟨y, x, s, rfl⟩ := two h; simp only [rn_do, mo_wk]; split <;> rfl
  · simp only [rn_do, mo_wk]; split <;> rfl
  · simp only [rn_do, mo_wk]; split <;> rfl
  · obtain ⟨v, s, rfl⟩ := one h; simp only [rn_do, mo_wk]; split <;> rfl
  · simp only [rn_do, mo_wk]; cases inp[u]? <;> rfl
  · obtain ⟨v, s, rfl⟩ := one h; rfl
section RS
variable {code : Nat → List (Nat × Int32)} {inp : List Int32} {k m q u : Nat} {nn wd dp : Int32} {st : List Int32} {loc : Nat → Int32} {rest : List ab_Fr} {r : rn_R}
theorem rs_cr (hq : (code m)[q]? = some (k, nn)) (hq24 : (code m).length ≤ 24) (h : rn_cr (fun j => (code j).length) k nn m st.length) : rn_step code inp ((m, nI q, st, loc) :: rest, u, wd, dp) = (3, ([], u, wd, dp), 0) := by
  have hc : (nI q).toNatClampNeg = q := nI_clamp (by have := ge_lt hq hq24; omega)
  simp only [rn_step, hc, hq]
  rw [cIf_pos h]
theorem rs_go (hq : (code m)[q]? = some (k, nn) ∧ (code m).length ≤ 24) (h : ¬ rn_cr (fun j => (code j).length) k nn m st.length) (hr : rn_do inp k nn m (nI q + 1) st loc rest u wd dp = r) (h0 : r.1 = 0) {f : ab_Fr} {fs : List ab_Fr} (hf : r.2.1.1 = f :: fs) (hp : ∃ q', q' < (code f.1).length ∧ f.2.1 = nI q') : rn_step code inp ((m, nI q, st, loc) :: rest, u, wd, dp) = r := by
  have hc : (nI q).toNatClampNeg = q := nI_clamp (by have := ge_lt hq.1 hq.2; omega)
  simp only [rn_step, hc, hq.1]
  rw [cIf_neg h, hr, if_pos h0, hf]
  dsimp only
  rw [cIf_pos hp]
theorem rs_out (hq : (code m)[q]? = some (k, nn) ∧ (code m).length ≤ 24) (h : ¬ rn_cr (fun j => (code j).length) k nn m st.length) (hr : rn_do inp k nn m (nI q + 1) st loc rest u wd dp = r) (h0 : r.1 = 0) {f : ab_Fr} {fs : List ab_Fr} (hf : r.2.1.1 = f :: fs) (hp : ¬ ∃ q', q' < (code f.1).length ∧ f.2.1 = nI q') : rn_step code inp ((m, nI q, st, loc) :: rest, u, wd, dp) = (3, r.2.1, 0) := by
  have hc : (nI q).toNatClampNeg = q := nI_clamp (by have := ge_lt hq.1 hq.2; omega)
  simp only [rn_step, hc, hq.1]
  rw [cIf_neg h, hr, if_pos h0, hf]
  dsimp only
  rw [cIf_neg hp]
theorem rs_end (hq : (code m)[q]? = some (k, nn) ∧ (code m).length ≤ 24) (h : ¬ rn_cr (fun j => (code j).length) k nn m st.length) (hr : rn_do inp k nn m (nI q + 1) st loc rest u wd dp = r) (h0 : ¬ r.1 = 0) : rn_step code inp ((m, nI q, st, loc) :: rest, u, wd, dp) = r := by
  have hc : (nI q).toNatClampNeg = q := nI_clamp (by have := ge_lt hq.1 hq.2; omega)
  simp only [rn_step, hc, hq.1]
  rw [cIf_neg h, hr, if_neg h0]
end RS
theorem mf_fr.pl {I : Nat → Nat → Int32} {i m : Nat} {p a b : Int32} {st : List Int32} {loc : Nat → Int32} (h : mf_fr I i p (m, a, st, loc)) : mf_fr I i p (m, b, st, loc) := h
/-- what a step of the reference leaves -/
def ms_post (inp : List Int32) (t : Nat) (I I' : Nat → Nat → Int32) (r : rn_R) : Prop := (r.1 = 0 → (∃ f fs, r.2.1.1 = f :: fs ∧ mf_fr I' fs.length f.2.1 f ∧ mf_rest I' fs ∧ I' 533 27 = nI (fs.length + 1)) ∧ us_at I' inp r.2.1.2.1 (t + 1)) ∧ I' 533 30 = r.2.1.2.2.1 ∧ I' 533 31 = r.2.1.2.2.2 ∧ (r.1 = 1 → I' 533 32 = r.2.2) ∧ (r.1 ≠ 1 → I' 533 32 = I 533 32 ∧ r.2.2 = 0) ∧ I' 533 29 = I 533 29 + 1 ∧ I' 533 21 = I 533 21 ∧ ∀ q, q ≠ 533 → (q < 553 ∨ 558 ≤ q) → I' q = I q
section MO
variable {d n : Nat} {sh : Nat → Nat × Nat} {X : Nat × (Nat → Int32)} {R : Nat → Nat → Option Nat} {I : Nat → Nat → Int32} {L : Nat → Nat → Int64} {Q : Option Value → gw_Mem → Prop}
variable {U : Nat → ab_Me}
theorem c_Mo_leave1 {m : Nat} {pl p v : Int32} {st : List Int32} {loc : Nat → Int32} (hp : pt_Mo sh R) (hf : mf_fr I 0 pl (m, p, v :: st, loc)) (hQ : ∀ I', I' 533 32 = v → (∀ j, j ≠ 27 → j ≠ 32 → I' 533 j = I 533 j) → (∀ q, q ≠ 533 → q ≠ 555 → I' q = I q) → Q (some (.int 1)) (n, sh, X, R, I', L)) : gw_Call y_Mo_leave (d + 1) 0 0 [.ref 533, .int (nI 0)] (n, sh, X, R, I, L) Q := by
  have hp0 := hp
  obtain ⟨s533, s534, s535, s536, s537, s538, s539, s540, s541, s542, s543, s544, s545, s546, s547, s548, s549, s550, s551, s552, s553, s554, s555, s556, s557, r534, r535, r536, r537, r538, r539, r540, r541, r542, r543, r544, r545, r546, r547, r548, r549, r550, r551, r552, r553, r554, r555, r556, r557⟩ := hp
  refine gw_call o_Mo_leave (Nat.le_of_ble_eq_true rfl) ?_
  refine go_aload_n 0 d_Mo_leave_0 rfl rfl ?_
  refine go_iload_n 1 d_Mo_leave_1 rfl rfl ?_
  refine go_V1 d_Mo_leave_2 k_Mo_267 (by assumption) (Nat.le_of_ble_eq_true rfl) (c_Mo_take hp0 (by decide) hf (fun I1 f1 f2 f3 => ?_))
  refine go_istore_n 2 d_Mo_leave_5 rfl (Nat.le_of_ble_eq_true rfl) ?_
  refine go_aload_n 0 d_Mo_leave_6 rfl rfl ?_
  refine go_dup d_Mo_leave_7 rfl ?_
  refine go_getI d_Mo_leave_8 f_Mo_241 (by assumption) ?_
  refine go_iconst (v := 1) d_Mo_leave_11 rfl ?_
  refine go_isub d_Mo_leave_12 ?_
  refine go_putI d_Mo_leave_13 f_Mo_241 (by assumption) ?_
  refine go_iload_n 1 d_Mo_leave_16 rfl rfl ?_
  refine go_if_ne 27 d_Mo_leave_17 rfl (fun hn => absurd hn (by decide)) (fun _ => ?_)
  refine go_aload_n 0 d_Mo_leave_20 rfl rfl ?_
  refine go_iload_n 2 d_Mo_leave_21 rfl rfl ?_
  refine go_putI d_Mo_leave_22 f_Mo_256 (by assumption) ?_
  refine go_iconst (v := 1) d_Mo_leave_25 rfl ?_
  exact go_iret d_Mo_leave_26 rfl (hQ _ (by simp (disch := omega) only [up2_eq, up2_ne]) (fun j h1 h2 => by simp (disch := omega) only [up2_eq, up2_ne]; rw [f3 _ (by decide)]) (fun q h1 h2 => by rw [gw_up_ne h1, gw_up_ne h1, f3 q h2]))
theorem c_Mo_leave2 {m m2 q2 : Nat} {pl p v p2 : Int32} {st st2 : List Int32} {loc loc2 : Nat → Int32} {r2 : List ab_Fr} (hp : pt_Mo sh R) (hc : mc_at I U) (hi : r2.length + 1 < 4) (hf : mf_fr I (r2.length + 1) pl (m, p, v :: st, loc)) (hg : mf_fr I r2.length (p2 - 1) (m2, p2, st2, loc2)) (hr : mf_rest I r2) (h6 : st2.length < 6) (hm2 : m2 < 4) (hq2 : q2 ≤ 24) (hp2 : p2 = nI q2) (h27 : I 533 27 = nI (r2.length + 1 + 1))
    (hQ : ∀ I' b, mf_fr I' r2.length p2 (m2, p2, v :: st2, loc2) → mf_rest I' r2 → I' 533 27 = nI (r2.length + 1) → (∀ j, j ≠ 27 → I' 533 j = I 533 j) → (∀ q, q ≠ 533 → (q < 553 ∨ 558 ≤ q) → I' q = I q) → (b = 0 ↔ ∃ q', q' < (U m2).1.length ∧ p2 = nI q') → (b = 0 ∨ b = 3) → Q (some (.int b)) (n, sh, X, R, I', L)) : gw_Call y_Mo_leave (d + 1) 0 0 [.ref 533, .int (nI (r2.length + 1))] (n, sh, X, R, I, L) Q := by
  have hp0 := hp
  obtain ⟨s533, s534, s535, s536, s537, s538, s539, s540, s541, s542, s543, s544, s545, s546, s547, s548, s549, s550, s551, s552, s553, s554, s555, s556, s557, r534, r535, r536, r537, r538, r539, r540, r541, r542, r543, r544, r545, r546, r547, r548, r549, r550, r551, r552, r553, r554, r555, r556, r557⟩ := hp
  refine gw_call o_Mo_leave (Nat.le_of_ble_eq_true rfl) ?_
  refine go_aload_n 0 d_Mo_leave_0 rfl rfl ?_
  refine go_iload_n 1 d_Mo_leave_1 rfl rfl ?_
  refine go_V1 d_Mo_leave_2 k_Mo_267 (by assumption) (Nat.le_of_ble_eq_true rfl) (c_Mo_take hp0 hi hf (fun I1 f1 f2 f3 => ?_))
  refine go_istore_n 2 d_Mo_leave_5 rfl (Nat.le_of_ble_eq_true rfl) ?_
  refine go_aload_n 0 d_Mo_leave_6 rfl rfl ?_
  refine go_dup d_Mo_leave_7 rfl ?_
  refine go_getI d_Mo_leave_8 f_Mo_241 (by assumption) ?_
  refine go_iconst (v := 1) d_Mo_leave_11 rfl ?_
  refine go_isub d_Mo_leave_12 ?_
  rw [show I1 533 27 - 1 = nI (r2.length + 1) by rw [f3 _ (by decide), h27, nI_pred]]
  refine go_putI d_Mo_leave_13 f_Mo_241 (by assumption) ?_
  refine go_iload_n 1 d_Mo_leave_16 rfl rfl ?_
  refine go_if_ne 27 d_Mo_leave_17 rfl (fun _ => ?_) (fun hn => by first | exact absurd hn (fun hh => absurd ((nI_eq (b := 0) (by omega) (by decide)).mp hh) (by omega)) | exact absurd (fun hh => absurd ((nI_eq (b := 0) (by omega) (by decide)).mp hh) (by omega)) hn)
  refine go_aload_n 0 d_Mo_leave_27 rfl rfl ?_
  refine go_iload_n 1 d_Mo_leave_28 rfl rfl ?_
  refine go_iconst (v := 1) d_Mo_leave_29 rfl ?_
  refine go_isub d_Mo_leave_30 ?_
  rw [nI_pred]
  refine go_iload_n 2 d_Mo_leave_31 rfl rfl ?_
  refine go_V2 d_Mo_leave_32 k_Mo_280 (by assumption) (Nat.le_of_ble_eq_true rfl) (c_Mo_give hp0 (by omega) ((hg.ptw (f2 _ (by omega))).ptw (mf_eq.row (fun q a b => gw_up_ne (by omega)))) h6 (fun I3 e1 e2 e3 => ?_))
  refine go_aload_n 0 d_Mo_leave_35 rfl rfl ?_
  refine go_getR d_Mo_leave_36 f_Mo_72 (by assumption) (by assumption) ?_
  refine go_iload_n 1 d_Mo_leave_39 rfl rfl ?_
  refine go_iconst (v := 1) d_Mo_leave_40 rfl ?_
  refine go_isub d_Mo_leave_41 ?_
  rw [nI_pred]
  refine go_dup2 d_Mo_leave_42 rfl rfl ?_
  refine go_iald (r2.length) d_Mo_leave_43 (by assumption) (rfl) (by omega) (by decide) ?_
  refine go_iconst (v := 1) d_Mo_leave_44 rfl ?_
  refine go_iadd d_Mo_leave_45 ?_
  rw [show I3 554 r2.length + 1 = p2 by rw [e1.2.1, Int32.sub_add_cancel]]
  refine go_iast (r2.length) d_Mo_leave_46 (by assumption) (rfl) (by omega) (by decide) ?_
  refine go_aload_n 0 d_Mo_leave_47 rfl rfl ?_
  refine go_getR d_Mo_leave_48 f_Mo_72 (by assumption) (by assumption) ?_
  refine go_iload_n 1 d_Mo_leave_51 rfl rfl ?_
  refine go_iconst (v := 1) d_Mo_leave_52 rfl ?_
  refine go_isub d_Mo_leave_53 ?_
  rw [nI_pred]
  refine go_iald (r2.length) d_Mo_leave_54 (by assumption) (rfl) (by omega) (by decide) ?_
  rw [up2_eq]
  refine go_aload_n 0 d_Mo_leave_55 rfl rfl ?_
  refine go_getR d_Mo_leave_56 f_Mo_7 (by assumption) (by assumption) ?_
  refine go_aload_n 0 d_Mo_leave_59 rfl rfl ?_
  refine go_getR d_Mo_leave_60 f_Mo_69 (by assumption) (by assumption) ?_
  refine go_iload_n 1 d_Mo_leave_63 rfl rfl ?_
  refine go_iconst (v := 1) d_Mo_leave_64 rfl ?_
  refine go_isub d_Mo_leave_65 ?_
  rw [nI_pred]
  refine go_iald (r2.length) d_Mo_leave_66 (by assumption) (rfl) (by omega) (by decide) ?_
  rw [gw_up_ne (by decide), e1.1]
  refine go_iald (m2) d_Mo_leave_67 (by assumption) (rfl) (hm2) (by decide) ?_
  rw [show va_up I3 554 (va_up (I3 554) r2.length p2) 534 m2 = nI (U m2).1.length by rw [gw_up_ne (by decide), e3 _ (by decide) (by decide), gw_up_ne (by decide), f3 _ (by decide)]; exact (hc m2 hm2).1]
  refine go_icmp_ge 75 d_Mo_leave_68 rfl (fun h68 => ?_) (fun h68 => ?_)
  · refine go_iconst (v := 3) d_Mo_leave_75 rfl ?_
    exact go_iret d_Mo_leave_76 rfl (by (have fin := fun b h1 h2 => hQ (va_up I3 554 (va_up (I3 554) r2.length p2)) b ⟨by simp (disch := omega) only [up2_eq, up2_ne]; exact e1.1, by simp (disch := omega) only [up2_eq, up2_ne], by simp (disch := omega) only [up2_eq, up2_ne]; exact e1.2.2.1, e1.2.2.2.1, e1.2.2.2.2.1.ptw e1.2.2.2.1 (fun j hj => by simp (disch := omega) only [up2_eq, up2_ne]), fun j hj => by simp (disch := omega) only [up2_eq, up2_ne]; exact e1.2.2.2.2.2 j hj⟩ (hr.ptw (fun i' hi' => ((f2 i' (by omega)).trans (mf_eq.row (fun q a b => gw_up_ne (by omega)))).trans ((e2 i' (by omega)).trans ⟨by simp (disch := omega) only [up2_eq, up2_ne], by simp (disch := omega) only [up2_eq, up2_ne], by simp (disch := omega) only [up2_eq, up2_ne], fun j hj => by simp (disch := omega) only [up2_eq, up2_ne], fun j hj => by simp (disch := omega) only [up2_eq, up2_ne]⟩))) (by simp (disch := omega) only [up2_eq, up2_ne]; rw [e3 _ (by decide) (by decide)]; simp (disch := omega) only [up2_eq, up2_ne]) (fun j hj => by simp (disch := omega) only [up2_eq, up2_ne]; rw [e3 _ (by decide) (by decide)]; simp (disch := omega) only [up2_eq, up2_ne]; rw [f3 _ (by decide)]) (fun q a b => by rw [gw_up_ne (by omega), e3 q (by omega) (by omega), gw_up_ne a, f3 q (by omega)]) h1 h2; have hl24 := (hc m2 hm2).2.1; first | exact fin 3 ⟨fun hh => absurd hh (by decide), fun ⟨q', w1, w2⟩ => absurd h68 (by rw [w2]; exact nI_ge w1 (by omega))⟩ (Or.inr rfl) | exact fin 0 ⟨fun _ => ⟨q2, by rw [hp2] at h68; exact Nat.lt_of_not_le (fun hh => h68 ((nI_leI (by omega) (by omega)).mpr hh)), hp2⟩, fun _ => rfl⟩ (Or.inl rfl)))
  · refine go_iconst (v := 0) d_Mo_leave_71 rfl ?_
    refine go_goto 76 d_Mo_leave_72 rfl ?_
    exact go_iret d_Mo_leave_76 rfl (by (have fin := fun b h1 h2 => hQ (va_up I3 554 (va_up (I3 554) r2.length p2)) b ⟨by simp (disch := omega) only [up2_eq, up2_ne]; exact e1.1, by simp (disch := omega) only [up2_eq, up2_ne], by simp (disch := omega) only [up2_eq, up2_ne]; exact e1.2.2.1, e1.2.2.2.1, e1.2.2.2.2.1.ptw e1.2.2.2.1 (fun j hj => by simp (disch := omega) only [up2_eq, up2_ne]), fun j hj => by simp (disch := omega) only [up2_eq, up2_ne]; exact e1.2.2.2.2.2 j hj⟩ (hr.ptw (fun i' hi' => ((f2 i' (by omega)).trans (mf_eq.row (fun q a b => gw_up_ne (by omega)))).trans ((e2 i' (by omega)).trans ⟨by simp (disch := omega) only [up2_eq, up2_ne], by simp (disch := omega) only [up2_eq, up2_ne], by simp (disch := omega) only [up2_eq, up2_ne], fun j hj => by simp (disch := omega) only [up2_eq, up2_ne], fun j hj => by simp (disch := omega) only [up2_eq, up2_ne]⟩))) (by simp (disch := omega) only [up2_eq, up2_ne]; rw [e3 _ (by decide) (by decide)]; simp (disch := omega) only [up2_eq, up2_ne]) (fun j hj => by simp (disch := omega) only [up2_eq, up2_ne]; rw [e3 _ (by decide) (by decide)]; simp (disch := omega) only [up2_eq, up2_ne]; rw [f3 _ (by decide)]) (fun q a b => by rw [gw_up_ne (by omega), e3 q (by omega) (by omega), gw_up_ne a, f3 q (by omega)]) h1 h2; have hl24 := (hc m2 hm2).2.1; first | exact fin 3 ⟨fun hh => absurd hh (by decide), fun ⟨q', w1, w2⟩ => absurd h68 (by rw [w2]; exact nI_ge w1 (by omega))⟩ (Or.inr rfl) | exact fin 0 ⟨fun _ => ⟨q2, by rw [hp2] at h68; exact Nat.lt_of_not_le (fun hh => h68 ((nI_leI (by omega) (by omega)).mpr hh)), hp2⟩, fun _ => rfl⟩ (Or.inl rfl)))
variable {Is : Nat → Nat → Int32} {inp : List Int32} {i m q u t : Nat} {nn wd dp : Int32} {st : List Int32} {loc : Nat → Int32} {rest : List ab_Fr}
theorem c_Mo_mk_0 (hp : pt_Mo sh R) (hc : mc_at I U) (hm : m < 4) (hml : m + rest.length < 4) (hiv : rn_iv m rest) (hrest : mf_rest I rest) (hi0 : rest.length = i) (hi : i < 4) (h27 : I 533 27 = nI (i + 1)) (hus : us_at I inp u t) (ht : t ≤ 3000) (hwd : I 533 30 = wd) (h31 : I 533 31 = dp) (hle : ∀ j, j < 4 → (U j).1.length ≤ 24) (hql : q < 24)
    (hIs0 : ∀ j, j ≠ 29 → Is 533 j = I 533 j) (hIs29 : Is 533 29 = I 533 29 + 1) (hIs1 : ∀ q, q ≠ 533 → Is q = I q) (hIsf : ∀ i', mf_eq I Is i') (fs : mf_fr Is i (nI q) (m, nI q, st, loc)) (hrests : mf_rest Is rest) (hcs : mc_at Is U) (hsz : ∀ j, j < 4 → Is 534 j = nI (U j).1.length) (hst6 : st.length ≤ 6) (hq : ((fun j => (U j).1) m)[q]? = some (0, nn) ∧ ((fun j => (U j).1) m).length ≤ 24)
    (fin3 : rn_cr (fun j => (U j).1.length) 0 nn m st.length → Q (some (.int 3)) (n, sh, X, R, Is, L))
    (done : ∀ (to : Int32) (st' : List Int32) (loc' : Nat → Int32) (u' : Nat) (wd' : Int32) (I1 : Nat → Nat → Int32) (o5 o6 o8 o9 : Option Value), rn_do inp 0 nn m (nI q + 1) st loc rest u wd dp = (0, ((m, to, st', loc') :: rest, u', wd', dp), 0) → ¬ rn_cr (fun j => (U j).1.length) 0 nn m st.length → mf_fr I1 i (nI q) (m, nI q, st', loc') → (∀ i', i' ≠ i → mf_eq Is I1 i') → us_at I1 inp u' (t + 1) → I1 533 30 = wd' → (∀ j, j ≠ 28 → j ≠ 30 → I1 533 j = Is 533 j) → (∀ q, q ≠ 533 → (q < 553 ∨ 558 ≤ q) → I1 q = I q) → gw_Go y_Mo_makeStep (d + 3) 0 0 364 [some (.ref 533), some (.int (nI i)), some (.int (nI m)), some (.int (nI 0)), some (.int nn), o5, o6, some (.int to), o8, o9] [] (n, sh, X, R, I1, L) Q)
    (hQ : ∀ I' r, r = rn_step (fun j => (U j).1) inp ((m, nI q, st, loc) :: rest, u, wd, dp) → ms_post inp t I I' r → Q (some (.int r.1)) (n, sh, X, R, I', L)) : gw_Go y_Mo_makeStep (d + 3) 0 0 59 [some (.ref 533), some (.int (nI i)), some (.int (nI m)), some (.int (nI 0)), some (.int nn), none, none, none, none, none] [] (n, sh, X, R, Is, L) Q := by
  have hp0 := hp
  obtain ⟨s533, s534, s535, s536, s537, s538, s539, s540, s541, s542, s543, s544, s545, s546, s547, s548, s549, s550, s551, s552, s553, s554, s555, s556, s557, r534, r535, r536, r537, r538, r539, r540, r541, r542, r543, r544, r545, r546, r547, r548, r549, r550, r551, r552, r553, r554, r555, r556, r557⟩ := hp
  have one : 1 ≤ st.length → ∃ v s, st = v :: s := fun h => by cases st with | nil => exact absurd h (by decide) | cons v s => exact ⟨v, s, rfl⟩
  have two : 2 ≤ st.length → ∃ y x s, st = y :: x :: s := fun h => by cases st with | nil => exact absurd h (by decide) | cons y s => cases s with | nil => exact absurd h (by simp) | cons x s => exact ⟨y, x, s, rfl⟩
  have three : 3 ≤ st.length → ∃ z y x s, st = z :: y :: x :: s := fun h => by cases st with | nil => exact absurd h (by decide) | cons z s => cases s with | nil => exact absurd h (by simp) | cons y s => cases s with | nil => exact absurd h (by simp) | cons x s => exact ⟨z, y, x, s, rfl⟩
  refine go_iload_n 3 d_Mo_makeStep_59 rfl rfl ?_
  refine go_iconst (v := 2) d_Mo_makeStep_60 rfl ?_
  refine go_icmp_eq 82 d_Mo_makeStep_61 rfl (fun hn => absurd hn (by decide)) (fun _ => ?_)
  refine go_iload_n 3 d_Mo_makeStep_64 rfl rfl ?_
  refine go_bipush (v := 10) d_Mo_makeStep_65 rfl ?_
  refine go_icmp_eq 82 d_Mo_makeStep_67 rfl (fun hn => absurd hn (by decide)) (fun _ => ?_)
  refine go_iload_n 3 d_Mo_makeStep_70 rfl rfl ?_
  refine go_bipush (v := 12) d_Mo_makeStep_71 rfl ?_
  refine go_icmp_eq 82 d_Mo_makeStep_73 rfl (fun hn => absurd hn (by decide)) (fun _ => ?_)
  refine go_iload_n 3 d_Mo_makeStep_76 rfl rfl ?_
  refine go_bipush (v := 14) d_Mo_makeStep_77 rfl ?_
  refine go_icmp_ne 86 d_Mo_makeStep_79 rfl (fun _ => ?_) (fun hn => by first | exact absurd hn (by decide) | exact absurd (by decide) hn)
  refine go_iload_n 3 d_Mo_makeStep_86 rfl rfl ?_
  refine go_iconst (v := 3) d_Mo_makeStep_87 rfl ?_
  refine go_icmp_eq 108 d_Mo_makeStep_88 rfl (fun hn => absurd hn (by decide)) (fun _ => ?_)
  refine go_iload_n 3 d_Mo_makeStep_91 rfl rfl ?_
  refine go_iconst (v := 4) d_Mo_makeStep_92 rfl ?_
  refine go_icmp_eq 108 d_Mo_makeStep_93 rfl (fun hn => absurd hn (by decide)) (fun _ => ?_)
  refine go_iload_n 3 d_Mo_makeStep_96 rfl rfl ?_
  refine go_bipush (v := 8) d_Mo_makeStep_97 rfl ?_
  refine go_icmp_eq 108 d_Mo_makeStep_99 rfl (fun hn => absurd hn (by decide)) (fun _ => ?_)
  refine go_iload_n 3 d_Mo_makeStep_102 rfl rfl ?_
  refine go_bipush (v := 9) d_Mo_makeStep_103 rfl ?_
  refine go_icmp_ne 112 d_Mo_makeStep_105 rfl (fun _ => ?_) (fun hn => by first | exact absurd hn (by decide) | exact absurd (by decide) hn)
  refine go_iload_n 3 d_Mo_makeStep_112 rfl rfl ?_
  refine go_bipush (v := 11) d_Mo_makeStep_113 rfl ?_
  refine go_icmp_ne 122 d_Mo_makeStep_115 rfl (fun _ => ?_) (fun hn => by first | exact absurd hn (by decide) | exact absurd (by decide) hn)
  refine go_iconst (v := 0) d_Mo_makeStep_122 rfl ?_
  refine go_istore d_Mo_makeStep_123 (Nat.le_of_ble_eq_true rfl) ?_
  refine go_iload_n 3 d_Mo_makeStep_125 rfl rfl ?_
  refine go_iconst (v := 1) d_Mo_makeStep_126 rfl ?_
  refine go_icmp_le 136 d_Mo_makeStep_127 rfl (fun _ => ?_) (fun hn => absurd (by decide) hn)
  refine go_iconst (v := 1) d_Mo_makeStep_136 rfl ?_
  refine go_goto 141 d_Mo_makeStep_137 rfl ?_
  refine go_istore d_Mo_makeStep_141 (Nat.le_of_ble_eq_true rfl) ?_
  refine go_aload_n 0 d_Mo_makeStep_143 rfl rfl ?_
  refine go_getR d_Mo_makeStep_144 f_Mo_75 (by assumption) (by assumption) ?_
  refine go_iload_n 1 d_Mo_makeStep_147 rfl rfl ?_
  refine go_iald (i) d_Mo_makeStep_148 (by assumption) (rfl) (hi) (by decide) ?_
  rw [show Is 555 i = nI st.length from fs.2.2.1]
  refine go_iload d_Mo_makeStep_149 rfl ?_
  refine go_icmp_lt 193 d_Mo_makeStep_151 rfl (fun hn => absurd hn (nI_pos (by have := fs.2.2.2.1; omega))) (fun _ => ?_)
  refine go_iload d_Mo_makeStep_154 rfl ?_
  refine go_if_eq 170 d_Mo_makeStep_156 rfl (fun hn => absurd hn (by decide)) (fun _ => ?_)
  refine go_aload_n 0 d_Mo_makeStep_159 rfl rfl ?_
  refine go_getR d_Mo_makeStep_160 f_Mo_75 (by assumption) (by assumption) ?_
  refine go_iload_n 1 d_Mo_makeStep_163 rfl rfl ?_
  refine go_iald (i) d_Mo_makeStep_164 (by assumption) (rfl) (hi) (by decide) ?_
  rw [show Is 555 i = nI st.length from fs.2.2.1]
  refine go_bipush (v := 6) d_Mo_makeStep_165 rfl ?_
  refine go_icmp_eq 193 d_Mo_makeStep_167 rfl (fun h167 => ?_) (fun h167 => ?_)
  · refine go_iconst (v := 3) d_Mo_makeStep_193 rfl ?_
    exact go_iret d_Mo_makeStep_194 rfl (fin3 (by first | exact Or.inl ((nI_ltI (b := 0) (by omega) (by decide)).mp h151) | exact Or.inr (Or.inl (by have e6 := (nI_eq (b := 6) (by omega) (by decide)).mp h167; show 6 < st.length - 0 + 1; omega)) | exact Or.inr (Or.inr (Or.inl ⟨(by decide), fun ⟨j, hj, e⟩ => absurd h190 (k1.mpr (by rw [e]; exact m4 hj))⟩))))
  · refine go_iload_n 3 d_Mo_makeStep_170 rfl rfl ?_
    refine go_iconst (v := 1) d_Mo_makeStep_171 rfl ?_
    refine go_icmp_eq 180 d_Mo_makeStep_172 rfl (fun hn => absurd hn (by decide)) (fun _ => ?_)
    refine go_iload_n 3 d_Mo_makeStep_175 rfl rfl ?_
    refine go_iconst (v := 2) d_Mo_makeStep_176 rfl ?_
    refine go_icmp_ne 195 d_Mo_makeStep_177 rfl (fun _ => ?_) (fun hn => by first | exact absurd hn (by decide) | exact absurd (by decide) hn)
    have ncr : ¬ rn_cr (fun j => (U j).1.length) 0 nn m st.length := fun hh => by rcases hh with hh | hh | ⟨hh, hh2⟩ | ⟨hh, hh2⟩; (exact absurd hh (Nat.not_lt_zero _)); (have hh' : 6 < st.length - 0 + 1 := hh; have h6 : st.length ≠ 6 := fun e => h167 (by rw [e]; rfl); omega); (rcases hh with hh | hh <;> exact absurd hh (by decide)); exact absurd hh (by decide)
    refine go_iload_n 3 d_Mo_makeStep_195 rfl rfl ?_
    refine go_bipush (v := 11) d_Mo_makeStep_196 rfl ?_
    refine go_icmp_ne 244 d_Mo_makeStep_198 rfl (fun _ => ?_) (fun hn => by first | exact absurd hn (by decide) | exact absurd (by decide) hn)
    refine go_iload_n 3 d_Mo_makeStep_244 rfl rfl ?_
    refine go_bipush (v := 11) d_Mo_makeStep_245 rfl ?_
    refine go_icmp_ne 285 d_Mo_makeStep_247 rfl (fun _ => ?_) (fun hn => by first | exact absurd hn (by decide) | exact absurd (by decide) hn)
    refine go_iload_n 3 d_Mo_makeStep_285 rfl rfl ?_
    refine go_bipush (v := 12) d_Mo_makeStep_286 rfl ?_
    refine go_icmp_ne 297 d_Mo_makeStep_288 rfl (fun _ => ?_) (fun hn => by first | exact absurd hn (by decide) | exact absurd (by decide) hn)
    refine go_iload_n 3 d_Mo_makeStep_297 rfl rfl ?_
    refine go_bipush (v := 7) d_Mo_makeStep_298 rfl ?_
    refine go_icmp_ne 308 d_Mo_makeStep_300 rfl (fun _ => ?_) (fun hn => by first | exact absurd hn (by decide) | exact absurd (by decide) hn)
    refine go_iload_n 3 d_Mo_makeStep_308 rfl rfl ?_
    refine go_bipush (v := 8) d_Mo_makeStep_309 rfl ?_
    refine go_icmp_eq 320 d_Mo_makeStep_311 rfl (fun hn => absurd hn (by decide)) (fun _ => ?_)
    refine go_iload_n 3 d_Mo_makeStep_314 rfl rfl ?_
    refine go_bipush (v := 9) d_Mo_makeStep_315 rfl ?_
    refine go_icmp_ne 341 d_Mo_makeStep_317 rfl (fun _ => ?_) (fun hn => by first | exact absurd hn (by decide) | exact absurd (by decide) hn)
    refine go_aload_n 0 d_Mo_makeStep_341 rfl rfl ?_
    refine go_getR d_Mo_makeStep_342 f_Mo_72 (by assumption) (by assumption) ?_
    refine go_iload_n 1 d_Mo_makeStep_345 rfl rfl ?_
    refine go_iald (i) d_Mo_makeStep_346 (by assumption) (rfl) (hi) (by decide) ?_
    rw [fs.2.1]
    refine go_iconst (v := 1) d_Mo_makeStep_347 rfl ?_
    refine go_iadd d_Mo_makeStep_348 ?_
    refine go_istore d_Mo_makeStep_349 (Nat.le_of_ble_eq_true rfl) ?_
    refine go_aload_n 0 d_Mo_makeStep_351 rfl rfl ?_
    refine go_iload_n 1 d_Mo_makeStep_352 rfl rfl ?_
    refine go_iload_n 3 d_Mo_makeStep_353 rfl rfl ?_
    refine go_iload d_Mo_makeStep_354 rfl ?_
    refine go_V3 d_Mo_makeStep_356 k_Mo_276 (by assumption) (Nat.le_of_ble_eq_true rfl) (c_Mo_work (k := 0) (inp := inp) (u := u) (t := t) (wd := wd) hp0 hi fs (by decide) (by decide) (Or.inr (Or.inr (Or.inr (Nat.zero_le _)))) (fun _ => Nat.lt_of_not_le (fun hh => ncr (Or.inr (Or.inl (by show 6 < st.length - 0 + 1; omega))))) (fun hh => absurd hh (by decide)) (hus.kept (Nat.le_refl _) (by rw [hIs0 _ (by decide)]) (by rw [hIs0 _ (by decide)]) (by rw [hIs1 _ (by decide)])) (by omega) (by rw [hIs0 _ (by decide)]; exact hwd) (fun st' loc' u' wd' I1 e1 e2 e3 e4 e5 e6 e7 => ?_) (fun e1 I1 e2 e3 => ?hno))
    case hno =>
      refine go_if_ne 364 d_Mo_makeStep_359 rfl (fun hn => absurd hn (by decide)) (fun _ => ?_)
      refine go_iconst (v := 2) d_Mo_makeStep_362 rfl ?_
      exact go_iret d_Mo_makeStep_363 rfl (hQ I1 (2, ([], u, wd, dp), 0) (by rw [rs_end hq ncr (r := (2, ([], u, wd, dp), 0)) (by rw [rn_wk (by decide) (by decide) (by first | exact Nat.zero_le _ | exact Classical.byContradiction (fun hh => ncr (Or.inl (Nat.lt_of_not_le hh)))), e1]) i_20]) ⟨fun hh => absurd hh i_20, by rw [e2 _ (by decide), hIs0 _ (by decide)]; exact hwd, by rw [e2 _ (by decide), hIs0 _ (by decide)]; exact h31, fun hh => absurd hh i_21, fun _ => ⟨by rw [e2 _ (by decide), hIs0 _ (by decide)], rfl⟩, by rw [e2 _ (by decide)]; exact hIs29, by rw [e2 _ (by decide), hIs0 _ (by decide)], fun q' h1 h2 => by rw [e3 q' h1 (by omega) (by omega) (by omega), hIs1 q' h1]⟩)
    refine go_if_ne 364 d_Mo_makeStep_359 rfl (fun _ => ?_) (fun hn => by first | exact absurd hn (by decide) | exact absurd (by decide) hn)
    exact done _ _ _ _ _ I1 _ _ _ _ (by rw [rn_wk (by decide) (by decide) (by first | exact Nat.zero_le _ | exact Classical.byContradiction (fun hh => ncr (Or.inl (Nat.lt_of_not_le hh)))), e1]) ncr (mf_fr.pl e2) e3 e4 e5 e6 (fun q' h1 h2 => by rw [e7 q' h1 (by omega) (by omega) (by omega), hIs1 q' h1])
theorem c_Mo_mk_1 (hp : pt_Mo sh R) (hc : mc_at I U) (hm : m < 4) (hml : m + rest.length < 4) (hiv : rn_iv m rest) (hrest : mf_rest I rest) (hi0 : rest.length = i) (hi : i < 4) (h27 : I 533 27 = nI (i + 1)) (hus : us_at I inp u t) (ht : t ≤ 3000) (hwd : I 533 30 = wd) (h31 : I 533 31 = dp) (hle : ∀ j, j < 4 → (U j).1.length ≤ 24) (hql : q < 24)
    (hIs0 : ∀ j, j ≠ 29 → Is 533 j = I 533 j) (hIs29 : Is 533 29 = I 533 29 + 1) (hIs1 : ∀ q, q ≠ 533 → Is q = I q) (hIsf : ∀ i', mf_eq I Is i') (fs : mf_fr Is i (nI q) (m, nI q, st, loc)) (hrests : mf_rest Is rest) (hcs : mc_at Is U) (hsz : ∀ j, j < 4 → Is 534 j = nI (U j).1.length) (hst6 : st.length ≤ 6) (hq : ((fun j => (U j).1) m)[q]? = some (1, nn) ∧ ((fun j => (U j).1) m).length ≤ 24)
    (fin3 : rn_cr (fun j => (U j).1.length) 1 nn m st.length → Q (some (.int 3)) (n, sh, X, R, Is, L))
    (done : ∀ (to : Int32) (st' : List Int32) (loc' : Nat → Int32) (u' : Nat) (wd' : Int32) (I1 : Nat → Nat → Int32) (o5 o6 o8 o9 : Option Value), rn_do inp 1 nn m (nI q + 1) st loc rest u wd dp = (0, ((m, to, st', loc') :: rest, u', wd', dp), 0) → ¬ rn_cr (fun j => (U j).1.length) 1 nn m st.length → mf_fr I1 i (nI q) (m, nI q, st', loc') → (∀ i', i' ≠ i → mf_eq Is I1 i') → us_at I1 inp u' (t + 1) → I1 533 30 = wd' → (∀ j, j ≠ 28 → j ≠ 30 → I1 533 j = Is 533 j) → (∀ q, q ≠ 533 → (q < 553 ∨ 558 ≤ q) → I1 q = I q) → gw_Go y_Mo_makeStep (d + 3) 0 0 364 [some (.ref 533), some (.int (nI i)), some (.int (nI m)), some (.int (nI 1)), some (.int nn), o5, o6, some (.int to), o8, o9] [] (n, sh, X, R, I1, L) Q)
    (hQ : ∀ I' r, r = rn_step (fun j => (U j).1) inp ((m, nI q, st, loc) :: rest, u, wd, dp) → ms_post inp t I I' r → Q (some (.int r.1)) (n, sh, X, R, I', L)) : gw_Go y_Mo_makeStep (d + 3) 0 0 59 [some (.ref 533), some (.int (nI i)), some (.int (nI m)), some (.int (nI 1)), some (.int nn), none, none, none, none, none] [] (n, sh, X, R, Is, L) Q := by
  have hp0 := hp
  obtain ⟨s533, s534, s535, s536, s537, s538, s539, s540, s541, s542, s543, s544, s545, s546, s547, s548, s549, s550, s551, s552, s553, s554, s555, s556, s557, r534, r535, r536, r537, r538, r539, r540, r541, r542, r543, r544, r545, r546, r547, r548, r549, r550, r551, r552, r553, r554, r555, r556, r557⟩ := hp
  have one : 1 ≤ st.length → ∃ v s, st = v :: s := fun h => by cases st with | nil => exact absurd h (by decide) | cons v s => exact ⟨v, s, rfl⟩
  have two : 2 ≤ st.length → ∃ y x s, st = y :: x :: s := fun h => by cases st with | nil => exact absurd h (by decide) | cons y s => cases s with | nil => exact absurd h (by simp) | cons x s => exact ⟨y, x, s, rfl⟩
  have three : 3 ≤ st.length → ∃ z y x s, st = z :: y :: x :: s := fun h => by cases st with | nil => exact absurd h (by decide) | cons z s => cases s with | nil => exact absurd h (by simp) | cons y s => cases s with | nil => exact absurd h (by simp) | cons x s => exact ⟨z, y, x, s, rfl⟩
  refine go_iload_n 3 d_Mo_makeStep_59 rfl rfl ?_
  refine go_iconst (v := 2) d_Mo_makeStep_60 rfl ?_
  refine go_icmp_eq 82 d_Mo_makeStep_61 rfl (fun hn => absurd hn (by decide)) (fun _ => ?_)
  refine go_iload_n 3 d_Mo_makeStep_64 rfl rfl ?_
  refine go_bipush (v := 10) d_Mo_makeStep_65 rfl ?_
  refine go_icmp_eq 82 d_Mo_makeStep_67 rfl (fun hn => absurd hn (by decide)) (fun _ => ?_)
  refine go_iload_n 3 d_Mo_makeStep_70 rfl rfl ?_
  refine go_bipush (v := 12) d_Mo_makeStep_71 rfl ?_
  refine go_icmp_eq 82 d_Mo_makeStep_73 rfl (fun hn => absurd hn (by decide)) (fun _ => ?_)
  refine go_iload_n 3 d_Mo_makeStep_76 rfl rfl ?_
  refine go_bipush (v := 14) d_Mo_makeStep_77 rfl ?_
  refine go_icmp_ne 86 d_Mo_makeStep_79 rfl (fun _ => ?_) (fun hn => by first | exact absurd hn (by decide) | exact absurd (by decide) hn)
  refine go_iload_n 3 d_Mo_makeStep_86 rfl rfl ?_
  refine go_iconst (v := 3) d_Mo_makeStep_87 rfl ?_
  refine go_icmp_eq 108 d_Mo_makeStep_88 rfl (fun hn => absurd hn (by decide)) (fun _ => ?_)
  refine go_iload_n 3 d_Mo_makeStep_91 rfl rfl ?_
  refine go_iconst (v := 4) d_Mo_makeStep_92 rfl ?_
  refine go_icmp_eq 108 d_Mo_makeStep_93 rfl (fun hn => absurd hn (by decide)) (fun _ => ?_)
  refine go_iload_n 3 d_Mo_makeStep_96 rfl rfl ?_
  refine go_bipush (v := 8) d_Mo_makeStep_97 rfl ?_
  refine go_icmp_eq 108 d_Mo_makeStep_99 rfl (fun hn => absurd hn (by decide)) (fun _ => ?_)
  refine go_iload_n 3 d_Mo_makeStep_102 rfl rfl ?_
  refine go_bipush (v := 9) d_Mo_makeStep_103 rfl ?_
  refine go_icmp_ne 112 d_Mo_makeStep_105 rfl (fun _ => ?_) (fun hn => by first | exact absurd hn (by decide) | exact absurd (by decide) hn)
  refine go_iload_n 3 d_Mo_makeStep_112 rfl rfl ?_
  refine go_bipush (v := 11) d_Mo_makeStep_113 rfl ?_
  refine go_icmp_ne 122 d_Mo_makeStep_115 rfl (fun _ => ?_) (fun hn => by first | exact absurd hn (by decide) | exact absurd (by decide) hn)
  refine go_iconst (v := 0) d_Mo_makeStep_122 rfl ?_
  refine go_istore d_Mo_makeStep_123 (Nat.le_of_ble_eq_true rfl) ?_
  refine go_iload_n 3 d_Mo_makeStep_125 rfl rfl ?_
  refine go_iconst (v := 1) d_Mo_makeStep_126 rfl ?_
  refine go_icmp_le 136 d_Mo_makeStep_127 rfl (fun _ => ?_) (fun hn => absurd (by decide) hn)
  refine go_iconst (v := 1) d_Mo_makeStep_136 rfl ?_
  refine go_goto 141 d_Mo_makeStep_137 rfl ?_
  refine go_istore d_Mo_makeStep_141 (Nat.le_of_ble_eq_true rfl) ?_
  refine go_aload_n 0 d_Mo_makeStep_143 rfl rfl ?_
  refine go_getR d_Mo_makeStep_144 f_Mo_75 (by assumption) (by assumption) ?_
  refine go_iload_n 1 d_Mo_makeStep_147 rfl rfl ?_
  refine go_iald (i) d_Mo_makeStep_148 (by assumption) (rfl) (hi) (by decide) ?_
  rw [show Is 555 i = nI st.length from fs.2.2.1]
  refine go_iload d_Mo_makeStep_149 rfl ?_
  refine go_icmp_lt 193 d_Mo_makeStep_151 rfl (fun hn => absurd hn (nI_pos (by have := fs.2.2.2.1; omega))) (fun _ => ?_)
  refine go_iload d_Mo_makeStep_154 rfl ?_
  refine go_if_eq 170 d_Mo_makeStep_156 rfl (fun hn => absurd hn (by decide)) (fun _ => ?_)
  refine go_aload_n 0 d_Mo_makeStep_159 rfl rfl ?_
  refine go_getR d_Mo_makeStep_160 f_Mo_75 (by assumption) (by assumption) ?_
  refine go_iload_n 1 d_Mo_makeStep_163 rfl rfl ?_
  refine go_iald (i) d_Mo_makeStep_164 (by assumption) (rfl) (hi) (by decide) ?_
  rw [show Is 555 i = nI st.length from fs.2.2.1]
  refine go_bipush (v := 6) d_Mo_makeStep_165 rfl ?_
  refine go_icmp_eq 193 d_Mo_makeStep_167 rfl (fun h167 => ?_) (fun h167 => ?_)
  · refine go_iconst (v := 3) d_Mo_makeStep_193 rfl ?_
    exact go_iret d_Mo_makeStep_194 rfl (fin3 (by first | exact Or.inl ((nI_ltI (b := 0) (by omega) (by decide)).mp h151) | exact Or.inr (Or.inl (by have e6 := (nI_eq (b := 6) (by omega) (by decide)).mp h167; show 6 < st.length - 0 + 1; omega)) | exact Or.inr (Or.inr (Or.inl ⟨(by decide), fun ⟨j, hj, e⟩ => absurd h190 (k1.mpr (by rw [e]; exact m4 hj))⟩))))
  · refine go_iload_n 3 d_Mo_makeStep_170 rfl rfl ?_
    refine go_iconst (v := 1) d_Mo_makeStep_171 rfl ?_
    refine go_icmp_eq 180 d_Mo_makeStep_172 rfl (fun _ => ?_) (fun hn => absurd (by decide) hn)
    refine go_iload d_Mo_makeStep_180 rfl ?_
    refine go_i2l d_Mo_makeStep_182 (rfl) ?_
    refine go_lconst (v := 0) d_Mo_makeStep_183 rfl ?_
    refine go_ldc2 d_Mo_makeStep_184 i_Mo_84 ?_
    refine go_S3 d_Mo_makeStep_187 k_Mo_86 (Nat.le_of_ble_eq_true rfl) (c_Mo_in (l := 0) (h := 3) rfl rfl (fun b1 k1 z1 => ?_))
    refine go_if_ne 195 d_Mo_makeStep_190 rfl (fun h190 => ?_) (fun h190 => ?_)
    · have ncr : ¬ rn_cr (fun j => (U j).1.length) 1 nn m st.length := fun hh => by rcases hh with hh | hh | ⟨hh, hh2⟩ | ⟨hh, hh2⟩; (exact absurd hh (Nat.not_lt_zero _)); (have hh' : 6 < st.length - 0 + 1 := hh; have h6 : st.length ≠ 6 := fun e => h167 (by rw [e]; rfl); omega); (exact hh2 (m4' (k1.mp h190))); exact absurd hh (by decide)
      refine go_iload_n 3 d_Mo_makeStep_195 rfl rfl ?_
      refine go_bipush (v := 11) d_Mo_makeStep_196 rfl ?_
      refine go_icmp_ne 244 d_Mo_makeStep_198 rfl (fun _ => ?_) (fun hn => by first | exact absurd hn (by decide) | exact absurd (by decide) hn)
      refine go_iload_n 3 d_Mo_makeStep_244 rfl rfl ?_
      refine go_bipush (v := 11) d_Mo_makeStep_245 rfl ?_
      refine go_icmp_ne 285 d_Mo_makeStep_247 rfl (fun _ => ?_) (fun hn => by first | exact absurd hn (by decide) | exact absurd (by decide) hn)
      refine go_iload_n 3 d_Mo_makeStep_285 rfl rfl ?_
      refine go_bipush (v := 12) d_Mo_makeStep_286 rfl ?_
      refine go_icmp_ne 297 d_Mo_makeStep_288 rfl (fun _ => ?_) (fun hn => by first | exact absurd hn (by decide) | exact absurd (by decide) hn)
      refine go_iload_n 3 d_Mo_makeStep_297 rfl rfl ?_
      refine go_bipush (v := 7) d_Mo_makeStep_298 rfl ?_
      refine go_icmp_ne 308 d_Mo_makeStep_300 rfl (fun _ => ?_) (fun hn => by first | exact absurd hn (by decide) | exact absurd (by decide) hn)
      refine go_iload_n 3 d_Mo_makeStep_308 rfl rfl ?_
      refine go_bipush (v := 8) d_Mo_makeStep_309 rfl ?_
      refine go_icmp_eq 320 d_Mo_makeStep_311 rfl (fun hn => absurd hn (by decide)) (fun _ => ?_)
      refine go_iload_n 3 d_Mo_makeStep_314 rfl rfl ?_
      refine go_bipush (v := 9) d_Mo_makeStep_315 rfl ?_
      refine go_icmp_ne 341 d_Mo_makeStep_317 rfl (fun _ => ?_) (fun hn => by first | exact absurd hn (by decide) | exact absurd (by decide) hn)
      refine go_aload_n 0 d_Mo_makeStep_341 rfl rfl ?_
      refine go_getR d_Mo_makeStep_342 f_Mo_72 (by assumption) (by assumption) ?_
      refine go_iload_n 1 d_Mo_makeStep_345 rfl rfl ?_
      refine go_iald (i) d_Mo_makeStep_346 (by assumption) (rfl) (hi) (by decide) ?_
      rw [fs.2.1]
      refine go_iconst (v := 1) d_Mo_makeStep_347 rfl ?_
      refine go_iadd d_Mo_makeStep_348 ?_
      refine go_istore d_Mo_makeStep_349 (Nat.le_of_ble_eq_true rfl) ?_
      refine go_aload_n 0 d_Mo_makeStep_351 rfl rfl ?_
      refine go_iload_n 1 d_Mo_makeStep_352 rfl rfl ?_
      refine go_iload_n 3 d_Mo_makeStep_353 rfl rfl ?_
      refine go_iload d_Mo_makeStep_354 rfl ?_
      refine go_V3 d_Mo_makeStep_356 k_Mo_276 (by assumption) (Nat.le_of_ble_eq_true rfl) (c_Mo_work (k := 1) (inp := inp) (u := u) (t := t) (wd := wd) hp0 hi fs (by decide) (by decide) (Or.inr (Or.inr (Or.inr (Nat.zero_le _)))) (fun _ => Nat.lt_of_not_le (fun hh => ncr (Or.inr (Or.inl (by show 6 < st.length - 0 + 1; omega))))) (fun _ => m4' (k1.mp h190)) (hus.kept (Nat.le_refl _) (by rw [hIs0 _ (by decide)]) (by rw [hIs0 _ (by decide)]) (by rw [hIs1 _ (by decide)])) (by omega) (by rw [hIs0 _ (by decide)]; exact hwd) (fun st' loc' u' wd' I1 e1 e2 e3 e4 e5 e6 e7 => ?_) (fun e1 I1 e2 e3 => ?hno))
      case hno =>
        refine go_if_ne 364 d_Mo_makeStep_359 rfl (fun hn => absurd hn (by decide)) (fun _ => ?_)
        refine go_iconst (v := 2) d_Mo_makeStep_362 rfl ?_
        exact go_iret d_Mo_makeStep_363 rfl (hQ I1 (2, ([], u, wd, dp), 0) (by rw [rs_end hq ncr (r := (2, ([], u, wd, dp), 0)) (by rw [rn_wk (by decide) (by decide) (by first | exact Nat.zero_le _ | exact Classical.byContradiction (fun hh => ncr (Or.inl (Nat.lt_of_not_le hh)))), e1]) i_20]) ⟨fun hh => absurd hh i_20, by rw [e2 _ (by decide), hIs0 _ (by decide)]; exact hwd, by rw [e2 _ (by decide), hIs0 _ (by decide)]; exact h31, fun hh => absurd hh i_21, fun _ => ⟨by rw [e2 _ (by decide), hIs0 _ (by decide)], rfl⟩, by rw [e2 _ (by decide)]; exact hIs29, by rw [e2 _ (by decide), hIs0 _ (by decide)], fun q' h1 h2 => by rw [e3 q' h1 (by omega) (by omega) (by omega), hIs1 q' h1]⟩)
      refine go_if_ne 364 d_Mo_makeStep_359 rfl (fun _ => ?_) (fun hn => by first | exact absurd hn (by decide) | exact absurd (by decide) hn)
      exact done _ _ _ _ _ I1 _ _ _ _ (by rw [rn_wk (by decide) (by decide) (by first | exact Nat.zero_le _ | exact Classical.byContradiction (fun hh => ncr (Or.inl (Nat.lt_of_not_le hh)))), e1]) ncr (mf_fr.pl e2) e3 e4 e5 e6 (fun q' h1 h2 => by rw [e7 q' h1 (by omega) (by omega) (by omega), hIs1 q' h1])
    · refine go_iconst (v := 3) d_Mo_makeStep_193 rfl ?_
      exact go_iret d_Mo_makeStep_194 rfl (fin3 (by first | exact Or.inl ((nI_ltI (b := 0) (by omega) (by decide)).mp h151) | exact Or.inr (Or.inl (by have e6 := (nI_eq (b := 6) (by omega) (by decide)).mp h167; show 6 < st.length - 0 + 1; omega)) | exact Or.inr (Or.inr (Or.inl ⟨(by decide), fun ⟨j, hj, e⟩ => absurd h190 (k1.mpr (by rw [e]; exact m4 hj))⟩))))
theorem c_Mo_mk_2 (hp : pt_Mo sh R) (hc : mc_at I U) (hm : m < 4) (hml : m + rest.length < 4) (hiv : rn_iv m rest) (hrest : mf_rest I rest) (hi0 : rest.length = i) (hi : i < 4) (h27 : I 533 27 = nI (i + 1)) (hus : us_at I inp u t) (ht : t ≤ 3000) (hwd : I 533 30 = wd) (h31 : I 533 31 = dp) (hle : ∀ j, j < 4 → (U j).1.length ≤ 24) (hql : q < 24)
    (hIs0 : ∀ j, j ≠ 29 → Is 533 j = I 533 j) (hIs29 : Is 533 29 = I 533 29 + 1) (hIs1 : ∀ q, q ≠ 533 → Is q = I q) (hIsf : ∀ i', mf_eq I Is i') (fs : mf_fr Is i (nI q) (m, nI q, st, loc)) (hrests : mf_rest Is rest) (hcs : mc_at Is U) (hsz : ∀ j, j < 4 → Is 534 j = nI (U j).1.length) (hst6 : st.length ≤ 6) (hq : ((fun j => (U j).1) m)[q]? = some (2, nn) ∧ ((fun j => (U j).1) m).length ≤ 24)
    (fin3 : rn_cr (fun j => (U j).1.length) 2 nn m st.length → Q (some (.int 3)) (n, sh, X, R, Is, L))
    (done : ∀ (to : Int32) (st' : List Int32) (loc' : Nat → Int32) (u' : Nat) (wd' : Int32) (I1 : Nat → Nat → Int32) (o5 o6 o8 o9 : Option Value), rn_do inp 2 nn m (nI q + 1) st loc rest u wd dp = (0, ((m, to, st', loc') :: rest, u', wd', dp), 0) → ¬ rn_cr (fun j => (U j).1.length) 2 nn m st.length → mf_fr I1 i (nI q) (m, nI q, st', loc') → (∀ i', i' ≠ i → mf_eq Is I1 i') → us_at I1 inp u' (t + 1) → I1 533 30 = wd' → (∀ j, j ≠ 28 → j ≠ 30 → I1 533 j = Is 533 j) → (∀ q, q ≠ 533 → (q < 553 ∨ 558 ≤ q) → I1 q = I q) → gw_Go y_Mo_makeStep (d + 3) 0 0 364 [some (.ref 533), some (.int (nI i)), some (.int (nI m)), some (.int (nI 2)), some (.int nn), o5, o6, some (.int to), o8, o9] [] (n, sh, X, R, I1, L) Q)
    (hQ : ∀ I' r, r = rn_step (fun j => (U j).1) inp ((m, nI q, st, loc) :: rest, u, wd, dp) → ms_post inp t I I' r → Q (some (.int r.1)) (n, sh, X, R, I', L)) : gw_Go y_Mo_makeStep (d + 3) 0 0 59 [some (.ref 533), some (.int (nI i)), some (.int (nI m)), some (.int (nI 2)), some (.int nn), none, none, none, none, none] [] (n, sh, X, R, Is, L) Q := by
  have hp0 := hp
  obtain ⟨s533, s534, s535, s536, s537, s538, s539, s540, s541, s542, s543, s544, s545, s546, s547, s548, s549, s550, s551, s552, s553, s554, s555, s556, s557, r534, r535, r536, r537, r538, r539, r540, r541, r542, r543, r544, r545, r546, r547, r548, r549, r550, r551, r552, r553, r554, r555, r556, r557⟩ := hp
  have one : 1 ≤ st.length → ∃ v s, st = v :: s := fun h => by cases st with | nil => exact absurd h (by decide) | cons v s => exact ⟨v, s, rfl⟩
  have two : 2 ≤ st.length → ∃ y x s, st = y :: x :: s := fun h => by cases st with | nil => exact absurd h (by decide) | cons y s => cases s with | nil => exact absurd h (by simp) | cons x s => exact ⟨y, x, s, rfl⟩
  have three : 3 ≤ st.length → ∃ z y x s, st = z :: y :: x :: s := fun h => by cases st with | nil => exact absurd h (by decide) | cons z s => cases s with | nil => exact absurd h (by simp) | cons y s => cases s with | nil => exact absurd h (by simp) | cons x s => exact ⟨z, y, x, s, rfl⟩
  refine go_iload_n 3 d_Mo_makeStep_59 rfl rfl ?_
  refine go_iconst (v := 2) d_Mo_makeStep_60 rfl ?_
  refine go_icmp_eq 82 d_Mo_makeStep_61 rfl (fun _ => ?_) (fun hn => absurd (by decide) hn)
  refine go_iconst (v := 1) d_Mo_makeStep_82 rfl ?_
  refine go_goto 123 d_Mo_makeStep_83 rfl ?_
  refine go_istore d_Mo_makeStep_123 (Nat.le_of_ble_eq_true rfl) ?_
  refine go_iload_n 3 d_Mo_makeStep_125 rfl rfl ?_
  refine go_iconst (v := 1) d_Mo_makeStep_126 rfl ?_
  refine go_icmp_le 136 d_Mo_makeStep_127 rfl (fun hn => absurd hn (by decide)) (fun _ => ?_)
  refine go_iload_n 3 d_Mo_makeStep_130 rfl rfl ?_
  refine go_bipush (v := 13) d_Mo_makeStep_131 rfl ?_
  refine go_icmp_ne 140 d_Mo_makeStep_133 rfl (fun _ => ?_) (fun hn => by first | exact absurd hn (by decide) | exact absurd (by decide) hn)
  refine go_iconst (v := 0) d_Mo_makeStep_140 rfl ?_
  refine go_istore d_Mo_makeStep_141 (Nat.le_of_ble_eq_true rfl) ?_
  refine go_aload_n 0 d_Mo_makeStep_143 rfl rfl ?_
  refine go_getR d_Mo_makeStep_144 f_Mo_75 (by assumption) (by assumption) ?_
  refine go_iload_n 1 d_Mo_makeStep_147 rfl rfl ?_
  refine go_iald (i) d_Mo_makeStep_148 (by assumption) (rfl) (hi) (by decide) ?_
  rw [show Is 555 i = nI st.length from fs.2.2.1]
  refine go_iload d_Mo_makeStep_149 rfl ?_
  refine go_icmp_lt 193 d_Mo_makeStep_151 rfl (fun h151 => ?_) (fun h151 => ?_)
  · refine go_iconst (v := 3) d_Mo_makeStep_193 rfl ?_
    exact go_iret d_Mo_makeStep_194 rfl (fin3 (by first | exact Or.inl ((nI_ltI (b := 1) (by omega) (by decide)).mp h151) | exact Or.inr (Or.inl (by have e6 := (nI_eq (b := 6) (by omega) (by decide)).mp h167; show 6 < st.length - 1 + 0; omega)) | exact Or.inr (Or.inr (Or.inl ⟨(by decide), fun ⟨j, hj, e⟩ => absurd h190 (k1.mpr (by rw [e]; exact m4 hj))⟩))))
  · refine go_iload d_Mo_makeStep_154 rfl ?_
    refine go_if_eq 170 d_Mo_makeStep_156 rfl (fun _ => ?_) (fun hn => absurd (by decide) hn)
    refine go_iload_n 3 d_Mo_makeStep_170 rfl rfl ?_
    refine go_iconst (v := 1) d_Mo_makeStep_171 rfl ?_
    refine go_icmp_eq 180 d_Mo_makeStep_172 rfl (fun hn => absurd hn (by decide)) (fun _ => ?_)
    refine go_iload_n 3 d_Mo_makeStep_175 rfl rfl ?_
    refine go_iconst (v := 2) d_Mo_makeStep_176 rfl ?_
    refine go_icmp_ne 195 d_Mo_makeStep_177 rfl (fun hn => absurd hn (by decide)) (fun _ => ?_)
    refine go_iload d_Mo_makeStep_180 rfl ?_
    refine go_i2l d_Mo_makeStep_182 (rfl) ?_
    refine go_lconst (v := 0) d_Mo_makeStep_183 rfl ?_
    refine go_ldc2 d_Mo_makeStep_184 i_Mo_84 ?_
    refine go_S3 d_Mo_makeStep_187 k_Mo_86 (Nat.le_of_ble_eq_true rfl) (c_Mo_in (l := 0) (h := 3) rfl rfl (fun b1 k1 z1 => ?_))
    refine go_if_ne 195 d_Mo_makeStep_190 rfl (fun h190 => ?_) (fun h190 => ?_)
    · have ncr : ¬ rn_cr (fun j => (U j).1.length) 2 nn m st.length := fun hh => by rcases hh with hh | hh | ⟨hh, hh2⟩ | ⟨hh, hh2⟩; (exact h151 ((nI_ltI (b := 1) (by omega) (by decide)).mpr hh)); (have hh' : 6 < st.length - 1 + 0 := hh; omega); (exact hh2 (m4' (k1.mp h190))); exact absurd hh (by decide)
      refine go_iload_n 3 d_Mo_makeStep_195 rfl rfl ?_
      refine go_bipush (v := 11) d_Mo_makeStep_196 rfl ?_
      refine go_icmp_ne 244 d_Mo_makeStep_198 rfl (fun _ => ?_) (fun hn => by first | exact absurd hn (by decide) | exact absurd (by decide) hn)
      refine go_iload_n 3 d_Mo_makeStep_244 rfl rfl ?_
      refine go_bipush (v := 11) d_Mo_makeStep_245 rfl ?_
      refine go_icmp_ne 285 d_Mo_makeStep_247 rfl (fun _ => ?_) (fun hn => by first | exact absurd hn (by decide) | exact absurd (by decide) hn)
      refine go_iload_n 3 d_Mo_makeStep_285 rfl rfl ?_
      refine go_bipush (v := 12) d_Mo_makeStep_286 rfl ?_
      refine go_icmp_ne 297 d_Mo_makeStep_288 rfl (fun _ => ?_) (fun hn => by first | exact absurd hn (by decide) | exact absurd (by decide) hn)
      have hlen1 : 1 ≤ st.length := Classical.byContradiction (fun hh => ncr (Or.inl (Nat.lt_of_not_le hh)))
      refine go_iload_n 3 d_Mo_makeStep_297 rfl rfl ?_
      refine go_bipush (v := 7) d_Mo_makeStep_298 rfl ?_
      refine go_icmp_ne 308 d_Mo_makeStep_300 rfl (fun _ => ?_) (fun hn => by first | exact absurd hn (by decide) | exact absurd (by decide) hn)
      refine go_iload_n 3 d_Mo_makeStep_308 rfl rfl ?_
      refine go_bipush (v := 8) d_Mo_makeStep_309 rfl ?_
      refine go_icmp_eq 320 d_Mo_makeStep_311 rfl (fun hn => absurd hn (by decide)) (fun _ => ?_)
      refine go_iload_n 3 d_Mo_makeStep_314 rfl rfl ?_
      refine go_bipush (v := 9) d_Mo_makeStep_315 rfl ?_
      refine go_icmp_ne 341 d_Mo_makeStep_317 rfl (fun _ => ?_) (fun hn => by first | exact absurd hn (by decide) | exact absurd (by decide) hn)
      refine go_aload_n 0 d_Mo_makeStep_341 rfl rfl ?_
      refine go_getR d_Mo_makeStep_342 f_Mo_72 (by assumption) (by assumption) ?_
      refine go_iload_n 1 d_Mo_makeStep_345 rfl rfl ?_
      refine go_iald (i) d_Mo_makeStep_346 (by assumption) (rfl) (hi) (by decide) ?_
      rw [fs.2.1]
      refine go_iconst (v := 1) d_Mo_makeStep_347 rfl ?_
      refine go_iadd d_Mo_makeStep_348 ?_
      refine go_istore d_Mo_makeStep_349 (Nat.le_of_ble_eq_true rfl) ?_
      refine go_aload_n 0 d_Mo_makeStep_351 rfl rfl ?_
      refine go_iload_n 1 d_Mo_makeStep_352 rfl rfl ?_
      refine go_iload_n 3 d_Mo_makeStep_353 rfl rfl ?_
      refine go_iload d_Mo_makeStep_354 rfl ?_
      refine go_V3 d_Mo_makeStep_356 k_Mo_276 (by assumption) (Nat.le_of_ble_eq_true rfl) (c_Mo_work (k := 2) (inp := inp) (u := u) (t := t) (wd := wd) hp0 hi fs (by decide) (by decide) (Or.inr (Or.inr (Or.inr (Classical.byContradiction (fun hh => ncr (Or.inl (Nat.lt_of_not_le hh))))))) (fun hh => absurd hh (by decide)) (fun _ => m4' (k1.mp h190)) (hus.kept (Nat.le_refl _) (by rw [hIs0 _ (by decide)]) (by rw [hIs0 _ (by decide)]) (by rw [hIs1 _ (by decide)])) (by omega) (by rw [hIs0 _ (by decide)]; exact hwd) (fun st' loc' u' wd' I1 e1 e2 e3 e4 e5 e6 e7 => ?_) (fun e1 I1 e2 e3 => ?hno))
      case hno =>
        refine go_if_ne 364 d_Mo_makeStep_359 rfl (fun hn => absurd hn (by decide)) (fun _ => ?_)
        refine go_iconst (v := 2) d_Mo_makeStep_362 rfl ?_
        exact go_iret d_Mo_makeStep_363 rfl (hQ I1 (2, ([], u, wd, dp), 0) (by rw [rs_end hq ncr (r := (2, ([], u, wd, dp), 0)) (by rw [rn_wk (by decide) (by decide) (by first | exact Nat.zero_le _ | exact Classical.byContradiction (fun hh => ncr (Or.inl (Nat.lt_of_not_le hh)))), e1]) i_20]) ⟨fun hh => absurd hh i_20, by rw [e2 _ (by decide), hIs0 _ (by decide)]; exact hwd, by rw [e2 _ (by decide), hIs0 _ (by decide)]; exact h31, fun hh => absurd hh i_21, fun _ => ⟨by rw [e2 _ (by decide), hIs0 _ (by decide)], rfl⟩, by rw [e2 _ (by decide)]; exact hIs29, by rw [e2 _ (by decide), hIs0 _ (by decide)], fun q' h1 h2 => by rw [e3 q' h1 (by omega) (by omega) (by omega), hIs1 q' h1]⟩)
      refine go_if_ne 364 d_Mo_makeStep_359 rfl (fun _ => ?_) (fun hn => by first | exact absurd hn (by decide) | exact absurd (by decide) hn)
      exact done _ _ _ _ _ I1 _ _ _ _ (by rw [rn_wk (by decide) (by decide) (by first | exact Nat.zero_le _ | exact Classical.byContradiction (fun hh => ncr (Or.inl (Nat.lt_of_not_le hh)))), e1]) ncr (mf_fr.pl e2) e3 e4 e5 e6 (fun q' h1 h2 => by rw [e7 q' h1 (by omega) (by omega) (by omega), hIs1 q' h1])
    · refine go_iconst (v := 3) d_Mo_makeStep_193 rfl ?_
      exact go_iret d_Mo_makeStep_194 rfl (fin3 (by first | exact Or.inl ((nI_ltI (b := 1) (by omega) (by decide)).mp h151) | exact Or.inr (Or.inl (by have e6 := (nI_eq (b := 6) (by omega) (by decide)).mp h167; show 6 < st.length - 1 + 0; omega)) | exact Or.inr (Or.inr (Or.inl ⟨(by decide), fun ⟨j, hj, e⟩ => absurd h190 (k1.mpr (by rw [e]; exact m4 hj))⟩))))
theorem c_Mo_mk_3 (hp : pt_Mo sh R) (hc : mc_at I U) (hm : m < 4) (hml : m + rest.length < 4) (hiv : rn_iv m rest) (hrest : mf_rest I rest) (hi0 : rest.length = i) (hi : i < 4) (h27 : I 533 27 = nI (i + 1)) (hus : us_at I inp u t) (ht : t ≤ 3000) (hwd : I 533 30 = wd) (h31 : I 533 31 = dp) (hle : ∀ j, j < 4 → (U j).1.length ≤ 24) (hql : q < 24)
    (hIs0 : ∀ j, j ≠ 29 → Is 533 j = I 533 j) (hIs29 : Is 533 29 = I 533 29 + 1) (hIs1 : ∀ q, q ≠ 533 → Is q = I q) (hIsf : ∀ i', mf_eq I Is i') (fs : mf_fr Is i (nI q) (m, nI q, st, loc)) (hrests : mf_rest Is rest) (hcs : mc_at Is U) (hsz : ∀ j, j < 4 → Is 534 j = nI (U j).1.length) (hst6 : st.length ≤ 6) (hq : ((fun j => (U j).1) m)[q]? = some (3, nn) ∧ ((fun j => (U j).1) m).length ≤ 24)
    (fin3 : rn_cr (fun j => (U j).1.length) 3 nn m st.length → Q (some (.int 3)) (n, sh, X, R, Is, L))
    (done : ∀ (to : Int32) (st' : List Int32) (loc' : Nat → Int32) (u' : Nat) (wd' : Int32) (I1 : Nat → Nat → Int32) (o5 o6 o8 o9 : Option Value), rn_do inp 3 nn m (nI q + 1) st loc rest u wd dp = (0, ((m, to, st', loc') :: rest, u', wd', dp), 0) → ¬ rn_cr (fun j => (U j).1.length) 3 nn m st.length → mf_fr I1 i (nI q) (m, nI q, st', loc') → (∀ i', i' ≠ i → mf_eq Is I1 i') → us_at I1 inp u' (t + 1) → I1 533 30 = wd' → (∀ j, j ≠ 28 → j ≠ 30 → I1 533 j = Is 533 j) → (∀ q, q ≠ 533 → (q < 553 ∨ 558 ≤ q) → I1 q = I q) → gw_Go y_Mo_makeStep (d + 3) 0 0 364 [some (.ref 533), some (.int (nI i)), some (.int (nI m)), some (.int (nI 3)), some (.int nn), o5, o6, some (.int to), o8, o9] [] (n, sh, X, R, I1, L) Q)
    (hQ : ∀ I' r, r = rn_step (fun j => (U j).1) inp ((m, nI q, st, loc) :: rest, u, wd, dp) → ms_post inp t I I' r → Q (some (.int r.1)) (n, sh, X, R, I', L)) : gw_Go y_Mo_makeStep (d + 3) 0 0 59 [some (.ref 533), some (.int (nI i)), some (.int (nI m)), some (.int (nI 3)), some (.int nn), none, none, none, none, none] [] (n, sh, X, R, Is, L) Q := by
  have hp0 := hp
  obtain ⟨s533, s534, s535, s536, s537, s538, s539, s540, s541, s542, s543, s544, s545, s546, s547, s548, s549, s550, s551, s552, s553, s554, s555, s556, s557, r534, r535, r536, r537, r538, r539, r540, r541, r542, r543, r544, r545, r546, r547, r548, r549, r550, r551, r552, r553, r554, r555, r556, r557⟩ := hp
  have one : 1 ≤ st.length → ∃ v s, st = v :: s := fun h => by cases st with | nil => exact absurd h (by decide) | cons v s => exact ⟨v, s, rfl⟩
  have two : 2 ≤ st.length → ∃ y x s, st = y :: x :: s := fun h => by cases st with | nil => exact absurd h (by decide) | cons y s => cases s with | nil => exact absurd h (by simp) | cons x s => exact ⟨y, x, s, rfl⟩
  have three : 3 ≤ st.length → ∃ z y x s, st = z :: y :: x :: s := fun h => by cases st with | nil => exact absurd h (by decide) | cons z s => cases s with | nil => exact absurd h (by simp) | cons y s => cases s with | nil => exact absurd h (by simp) | cons x s => exact ⟨z, y, x, s, rfl⟩
  refine go_iload_n 3 d_Mo_makeStep_59 rfl rfl ?_
  refine go_iconst (v := 2) d_Mo_makeStep_60 rfl ?_
  refine go_icmp_eq 82 d_Mo_makeStep_61 rfl (fun hn => absurd hn (by decide)) (fun _ => ?_)
  refine go_iload_n 3 d_Mo_makeStep_64 rfl rfl ?_
  refine go_bipush (v := 10) d_Mo_makeStep_65 rfl ?_
  refine go_icmp_eq 82 d_Mo_makeStep_67 rfl (fun hn => absurd hn (by decide)) (fun _ => ?_)
  refine go_iload_n 3 d_Mo_makeStep_70 rfl rfl ?_
  refine go_bipush (v := 12) d_Mo_makeStep_71 rfl ?_
  refine go_icmp_eq 82 d_Mo_makeStep_73 rfl (fun hn => absurd hn (by decide)) (fun _ => ?_)
  refine go_iload_n 3 d_Mo_makeStep_76 rfl rfl ?_
  refine go_bipush (v := 14) d_Mo_makeStep_77 rfl ?_
  refine go_icmp_ne 86 d_Mo_makeStep_79 rfl (fun _ => ?_) (fun hn => by first | exact absurd hn (by decide) | exact absurd (by decide) hn)
  refine go_iload_n 3 d_Mo_makeStep_86 rfl rfl ?_
  refine go_iconst (v := 3) d_Mo_makeStep_87 rfl ?_
  refine go_icmp_eq 108 d_Mo_makeStep_88 rfl (fun _ => ?_) (fun hn => absurd (by decide) hn)
  refine go_iconst (v := 2) d_Mo_makeStep_108 rfl ?_
  refine go_goto 123 d_Mo_makeStep_109 rfl ?_
  refine go_istore d_Mo_makeStep_123 (Nat.le_of_ble_eq_true rfl) ?_
  refine go_iload_n 3 d_Mo_makeStep_125 rfl rfl ?_
  refine go_iconst (v := 1) d_Mo_makeStep_126 rfl ?_
  refine go_icmp_le 136 d_Mo_makeStep_127 rfl (fun hn => absurd hn (by decide)) (fun _ => ?_)
  refine go_iload_n 3 d_Mo_makeStep_130 rfl rfl ?_
  refine go_bipush (v := 13) d_Mo_makeStep_131 rfl ?_
  refine go_icmp_ne 140 d_Mo_makeStep_133 rfl (fun _ => ?_) (fun hn => by first | exact absurd hn (by decide) | exact absurd (by decide) hn)
  refine go_iconst (v := 0) d_Mo_makeStep_140 rfl ?_
  refine go_istore d_Mo_makeStep_141 (Nat.le_of_ble_eq_true rfl) ?_
  refine go_aload_n 0 d_Mo_makeStep_143 rfl rfl ?_
  refine go_getR d_Mo_makeStep_144 f_Mo_75 (by assumption) (by assumption) ?_
  refine go_iload_n 1 d_Mo_makeStep_147 rfl rfl ?_
  refine go_iald (i) d_Mo_makeStep_148 (by assumption) (rfl) (hi) (by decide) ?_
  rw [show Is 555 i = nI st.length from fs.2.2.1]
  refine go_iload d_Mo_makeStep_149 rfl ?_
  refine go_icmp_lt 193 d_Mo_makeStep_151 rfl (fun h151 => ?_) (fun h151 => ?_)
  · refine go_iconst (v := 3) d_Mo_makeStep_193 rfl ?_
    exact go_iret d_Mo_makeStep_194 rfl (fin3 (by first | exact Or.inl ((nI_ltI (b := 2) (by omega) (by decide)).mp h151) | exact Or.inr (Or.inl (by have e6 := (nI_eq (b := 6) (by omega) (by decide)).mp h167; show 6 < st.length - 2 + 1; omega)) | exact Or.inr (Or.inr (Or.inl ⟨(by decide), fun ⟨j, hj, e⟩ => absurd h190 (k1.mpr (by rw [e]; exact m4 hj))⟩))))
  · refine go_iload d_Mo_makeStep_154 rfl ?_
    refine go_if_eq 170 d_Mo_makeStep_156 rfl (fun _ => ?_) (fun hn => absurd (by decide) hn)
    refine go_iload_n 3 d_Mo_makeStep_170 rfl rfl ?_
    refine go_iconst (v := 1) d_Mo_makeStep_171 rfl ?_
    refine go_icmp_eq 180 d_Mo_makeStep_172 rfl (fun hn => absurd hn (by decide)) (fun _ => ?_)
    refine go_iload_n 3 d_Mo_makeStep_175 rfl rfl ?_
    refine go_iconst (v := 2) d_Mo_makeStep_176 rfl ?_
    refine go_icmp_ne 195 d_Mo_makeStep_177 rfl (fun _ => ?_) (fun hn => by first | exact absurd hn (by decide) | exact absurd (by decide) hn)
    have ncr : ¬ rn_cr (fun j => (U j).1.length) 3 nn m st.length := fun hh => by rcases hh with hh | hh | ⟨hh, hh2⟩ | ⟨hh, hh2⟩; (exact h151 ((nI_ltI (b := 2) (by omega) (by decide)).mpr hh)); (have hh' : 6 < st.length - 2 + 1 := hh; omega); (rcases hh with hh | hh <;> exact absurd hh (by decide)); exact absurd hh (by decide)
    refine go_iload_n 3 d_Mo_makeStep_195 rfl rfl ?_
    refine go_bipush (v := 11) d_Mo_makeStep_196 rfl ?_
    refine go_icmp_ne 244 d_Mo_makeStep_198 rfl (fun _ => ?_) (fun hn => by first | exact absurd hn (by decide) | exact absurd (by decide) hn)
    refine go_iload_n 3 d_Mo_makeStep_244 rfl rfl ?_
    refine go_bipush (v := 11) d_Mo_makeStep_245 rfl ?_
    refine go_icmp_ne 285 d_Mo_makeStep_247 rfl (fun _ => ?_) (fun hn => by first | exact absurd hn (by decide) | exact absurd (by decide) hn)
    refine go_iload_n 3 d_Mo_makeStep_285 rfl rfl ?_
    refine go_bipush (v := 12) d_Mo_makeStep_286 rfl ?_
    refine go_icmp_ne 297 d_Mo_makeStep_288 rfl (fun _ => ?_) (fun hn => by first | exact absurd hn (by decide) | exact absurd (by decide) hn)
    refine go_iload_n 3 d_Mo_makeStep_297 rfl rfl ?_
    refine go_bipush (v := 7) d_Mo_makeStep_298 rfl ?_
    refine go_icmp_ne 308 d_Mo_makeStep_300 rfl (fun _ => ?_) (fun hn => by first | exact absurd hn (by decide) | exact absurd (by decide) hn)
    refine go_iload_n 3 d_Mo_makeStep_308 rfl rfl ?_
    refine go_bipush (v := 8) d_Mo_makeStep_309 rfl ?_
    refine go_icmp_eq 320 d_Mo_makeStep_311 rfl (fun hn => absurd hn (by decide)) (fun _ => ?_)
    refine go_iload_n 3 d_Mo_makeStep_314 rfl rfl ?_
    refine go_bipush (v := 9) d_Mo_makeStep_315 rfl ?_
    refine go_icmp_ne 341 d_Mo_makeStep_317 rfl (fun _ => ?_) (fun hn => by first | exact absurd hn (by decide) | exact absurd (by decide) hn)
    refine go_aload_n 0 d_Mo_makeStep_341 rfl rfl ?_
    refine go_getR d_Mo_makeStep_342 f_Mo_72 (by assumption) (by assumption) ?_
    refine go_iload_n 1 d_Mo_makeStep_345 rfl rfl ?_
    refine go_iald (i) d_Mo_makeStep_346 (by assumption) (rfl) (hi) (by decide) ?_
    rw [fs.2.1]
    refine go_iconst (v := 1) d_Mo_makeStep_347 rfl ?_
    refine go_iadd d_Mo_makeStep_348 ?_
    refine go_istore d_Mo_makeStep_349 (Nat.le_of_ble_eq_true rfl) ?_
    refine go_aload_n 0 d_Mo_makeStep_351 rfl rfl ?_
    refine go_iload_n 1 d_Mo_makeStep_352 rfl rfl ?_
    refine go_iload_n 3 d_Mo_makeStep_353 rfl rfl ?_
    refine go_iload d_Mo_makeStep_354 rfl ?_
    refine go_V3 d_Mo_makeStep_356 k_Mo_276 (by assumption) (Nat.le_of_ble_eq_true rfl) (c_Mo_work (k := 3) (inp := inp) (u := u) (t := t) (wd := wd) hp0 hi fs (by decide) (by decide) (Or.inr (Or.inr (Or.inr (Classical.byContradiction (fun hh => ncr (Or.inl (Nat.lt_of_not_le hh))))))) (fun hh => absurd hh (by decide)) (fun hh => absurd hh (by decide)) (hus.kept (Nat.le_refl _) (by rw [hIs0 _ (by decide)]) (by rw [hIs0 _ (by decide)]) (by rw [hIs1 _ (by decide)])) (by omega) (by rw [hIs0 _ (by decide)]; exact hwd) (fun st' loc' u' wd' I1 e1 e2 e3 e4 e5 e6 e7 => ?_) (fun e1 I1 e2 e3 => ?hno))
    case hno =>
      refine go_if_ne 364 d_Mo_makeStep_359 rfl (fun hn => absurd hn (by decide)) (fun _ => ?_)
      refine go_iconst (v := 2) d_Mo_makeStep_362 rfl ?_
      exact go_iret d_Mo_makeStep_363 rfl (hQ I1 (2, ([], u, wd, dp), 0) (by rw [rs_end hq ncr (r := (2, ([], u, wd, dp), 0)) (by rw [rn_wk (by decide) (by decide) (by first | exact Nat.zero_le _ | exact Classical.byContradiction (fun hh => ncr (Or.inl (Nat.lt_of_not_le hh)))), e1]) i_20]) ⟨fun hh => absurd hh i_20, by rw [e2 _ (by decide), hIs0 _ (by decide)]; exact hwd, by rw [e2 _ (by decide), hIs0 _ (by decide)]; exact h31, fun hh => absurd hh i_21, fun _ => ⟨by rw [e2 _ (by decide), hIs0 _ (by decide)], rfl⟩, by rw [e2 _ (by decide)]; exact hIs29, by rw [e2 _ (by decide), hIs0 _ (by decide)], fun q' h1 h2 => by rw [e3 q' h1 (by omega) (by omega) (by omega), hIs1 q' h1]⟩)
    refine go_if_ne 364 d_Mo_makeStep_359 rfl (fun _ => ?_) (fun hn => by first | exact absurd hn (by decide) | exact absurd (by decide) hn)
    exact done _ _ _ _ _ I1 _ _ _ _ (by rw [rn_wk (by decide) (by decide) (by first | exact Nat.zero_le _ | exact Classical.byContradiction (fun hh => ncr (Or.inl (Nat.lt_of_not_le hh)))), e1]) ncr (mf_fr.pl e2) e3 e4 e5 e6 (fun q' h1 h2 => by rw [e7 q' h1 (by omega) (by omega) (by omega), hIs1 q' h1])
theorem c_Mo_mk_4 (hp : pt_Mo sh R) (hc : mc_at I U) (hm : m < 4) (hml : m + rest.length < 4) (hiv : rn_iv m rest) (hrest : mf_rest I rest) (hi0 : rest.length = i) (hi : i < 4) (h27 : I 533 27 = nI (i + 1)) (hus : us_at I inp u t) (ht : t ≤ 3000) (hwd : I 533 30 = wd) (h31 : I 533 31 = dp) (hle : ∀ j, j < 4 → (U j).1.length ≤ 24) (hql : q < 24)
    (hIs0 : ∀ j, j ≠ 29 → Is 533 j = I 533 j) (hIs29 : Is 533 29 = I 533 29 + 1) (hIs1 : ∀ q, q ≠ 533 → Is q = I q) (hIsf : ∀ i', mf_eq I Is i') (fs : mf_fr Is i (nI q) (m, nI q, st, loc)) (hrests : mf_rest Is rest) (hcs : mc_at Is U) (hsz : ∀ j, j < 4 → Is 534 j = nI (U j).1.length) (hst6 : st.length ≤ 6) (hq : ((fun j => (U j).1) m)[q]? = some (4, nn) ∧ ((fun j => (U j).1) m).length ≤ 24)
    (fin3 : rn_cr (fun j => (U j).1.length) 4 nn m st.length → Q (some (.int 3)) (n, sh, X, R, Is, L))
    (done : ∀ (to : Int32) (st' : List Int32) (loc' : Nat → Int32) (u' : Nat) (wd' : Int32) (I1 : Nat → Nat → Int32) (o5 o6 o8 o9 : Option Value), rn_do inp 4 nn m (nI q + 1) st loc rest u wd dp = (0, ((m, to, st', loc') :: rest, u', wd', dp), 0) → ¬ rn_cr (fun j => (U j).1.length) 4 nn m st.length → mf_fr I1 i (nI q) (m, nI q, st', loc') → (∀ i', i' ≠ i → mf_eq Is I1 i') → us_at I1 inp u' (t + 1) → I1 533 30 = wd' → (∀ j, j ≠ 28 → j ≠ 30 → I1 533 j = Is 533 j) → (∀ q, q ≠ 533 → (q < 553 ∨ 558 ≤ q) → I1 q = I q) → gw_Go y_Mo_makeStep (d + 3) 0 0 364 [some (.ref 533), some (.int (nI i)), some (.int (nI m)), some (.int (nI 4)), some (.int nn), o5, o6, some (.int to), o8, o9] [] (n, sh, X, R, I1, L) Q)
    (hQ : ∀ I' r, r = rn_step (fun j => (U j).1) inp ((m, nI q, st, loc) :: rest, u, wd, dp) → ms_post inp t I I' r → Q (some (.int r.1)) (n, sh, X, R, I', L)) : gw_Go y_Mo_makeStep (d + 3) 0 0 59 [some (.ref 533), some (.int (nI i)), some (.int (nI m)), some (.int (nI 4)), some (.int nn), none, none, none, none, none] [] (n, sh, X, R, Is, L) Q := by
  have hp0 := hp
  obtain ⟨s533, s534, s535, s536, s537, s538, s539, s540, s541, s542, s543, s544, s545, s546, s547, s548, s549, s550, s551, s552, s553, s554, s555, s556, s557, r534, r535, r536, r537, r538, r539, r540, r541, r542, r543, r544, r545, r546, r547, r548, r549, r550, r551, r552, r553, r554, r555, r556, r557⟩ := hp
  have one : 1 ≤ st.length → ∃ v s, st = v :: s := fun h => by cases st with | nil => exact absurd h (by decide) | cons v s => exact ⟨v, s, rfl⟩
  have two : 2 ≤ st.length → ∃ y x s, st = y :: x :: s := fun h => by cases st with | nil => exact absurd h (by decide) | cons y s => cases s with | nil => exact absurd h (by simp) | cons x s => exact ⟨y, x, s, rfl⟩
  have three : 3 ≤ st.length → ∃ z y x s, st = z :: y :: x :: s := fun h => by cases st with | nil => exact absurd h (by decide) | cons z s => cases s with | nil => exact absurd h (by simp) | cons y s => cases s with | nil => exact absurd h (by simp) | cons x s => exact ⟨z, y, x, s, rfl⟩
  refine go_iload_n 3 d_Mo_makeStep_59 rfl rfl ?_
  refine go_iconst (v := 2) d_Mo_makeStep_60 rfl ?_
  refine go_icmp_eq 82 d_Mo_makeStep_61 rfl (fun hn => absurd hn (by decide)) (fun _ => ?_)
  refine go_iload_n 3 d_Mo_makeStep_64 rfl rfl ?_
  refine go_bipush (v := 10) d_Mo_makeStep_65 rfl ?_
  refine go_icmp_eq 82 d_Mo_makeStep_67 rfl (fun hn => absurd hn (by decide)) (fun _ => ?_)
  refine go_iload_n 3 d_Mo_makeStep_70 rfl rfl ?_
  refine go_bipush (v := 12) d_Mo_makeStep_71 rfl ?_
  refine go_icmp_eq 82 d_Mo_makeStep_73 rfl (fun hn => absurd hn (by decide)) (fun _ => ?_)
  refine go_iload_n 3 d_Mo_makeStep_76 rfl rfl ?_
  refine go_bipush (v := 14) d_Mo_makeStep_77 rfl ?_
  refine go_icmp_ne 86 d_Mo_makeStep_79 rfl (fun _ => ?_) (fun hn => by first | exact absurd hn (by decide) | exact absurd (by decide) hn)
  refine go_iload_n 3 d_Mo_makeStep_86 rfl rfl ?_
  refine go_iconst (v := 3) d_Mo_makeStep_87 rfl ?_
  refine go_icmp_eq 108 d_Mo_makeStep_88 rfl (fun hn => absurd hn (by decide)) (fun _ => ?_)
  refine go_iload_n 3 d_Mo_makeStep_91 rfl rfl ?_
  refine go_iconst (v := 4) d_Mo_makeStep_92 rfl ?_
  refine go_icmp_eq 108 d_Mo_makeStep_93 rfl (fun _ => ?_) (fun hn => absurd (by decide) hn)
  refine go_iconst (v := 2) d_Mo_makeStep_108 rfl ?_
  refine go_goto 123 d_Mo_makeStep_109 rfl ?_
  refine go_istore d_Mo_makeStep_123 (Nat.le_of_ble_eq_true rfl) ?_
  refine go_iload_n 3 d_Mo_makeStep_125 rfl rfl ?_
  refine go_iconst (v := 1) d_Mo_makeStep_126 rfl ?_
  refine go_icmp_le 136 d_Mo_makeStep_127 rfl (fun hn => absurd hn (by decide)) (fun _ => ?_)
  refine go_iload_n 3 d_Mo_makeStep_130 rfl rfl ?_
  refine go_bipush (v := 13) d_Mo_makeStep_131 rfl ?_
  refine go_icmp_ne 140 d_Mo_makeStep_133 rfl (fun _ => ?_) (fun hn => by first | exact absurd hn (by decide) | exact absurd (by decide) hn)
  refine go_iconst (v := 0) d_Mo_makeStep_140 rfl ?_
  refine go_istore d_Mo_makeStep_141 (Nat.le_of_ble_eq_true rfl) ?_
  refine go_aload_n 0 d_Mo_makeStep_143 rfl rfl ?_
  refine go_getR d_Mo_makeStep_144 f_Mo_75 (by assumption) (by assumption) ?_
  refine go_iload_n 1 d_Mo_makeStep_147 rfl rfl ?_
  refine go_iald (i) d_Mo_makeStep_148 (by assumption) (rfl) (hi) (by decide) ?_
  rw [show Is 555 i = nI st.length from fs.2.2.1]
  refine go_iload d_Mo_makeStep_149 rfl ?_
  refine go_icmp_lt 193 d_Mo_makeStep_151 rfl (fun h151 => ?_) (fun h151 => ?_)
  · refine go_iconst (v := 3) d_Mo_makeStep_193 rfl ?_
    exact go_iret d_Mo_makeStep_194 rfl (fin3 (by first | exact Or.inl ((nI_ltI (b := 2) (by omega) (by decide)).mp h151) | exact Or.inr (Or.inl (by have e6 := (nI_eq (b := 6) (by omega) (by decide)).mp h167; show 6 < st.length - 2 + 1; omega)) | exact Or.inr (Or.inr (Or.inl ⟨(by decide), fun ⟨j, hj, e⟩ => absurd h190 (k1.mpr (by rw [e]; exact m4 hj))⟩))))
  · refine go_iload d_Mo_makeStep_154 rfl ?_
    refine go_if_eq 170 d_Mo_makeStep_156 rfl (fun _ => ?_) (fun hn => absurd (by decide) hn)
    refine go_iload_n 3 d_Mo_makeStep_170 rfl rfl ?_
    refine go_iconst (v := 1) d_Mo_makeStep_171 rfl ?_
    refine go_icmp_eq 180 d_Mo_makeStep_172 rfl (fun hn => absurd hn (by decide)) (fun _ => ?_)
    refine go_iload_n 3 d_Mo_makeStep_175 rfl rfl ?_
    refine go_iconst (v := 2) d_Mo_makeStep_176 rfl ?_
    refine go_icmp_ne 195 d_Mo_makeStep_177 rfl (fun _ => ?_) (fun hn => by first | exact absurd hn (by decide) | exact absurd (by decide) hn)
    have ncr : ¬ rn_cr (fun j => (U j).1.length) 4 nn m st.length := fun hh => by rcases hh with hh | hh | ⟨hh, hh2⟩ | ⟨hh, hh2⟩; (exact h151 ((nI_ltI (b := 2) (by omega) (by decide)).mpr hh)); (have hh' : 6 < st.length - 2 + 1 := hh; omega); (rcases hh with hh | hh <;> exact absurd hh (by decide)); exact absurd hh (by decide)
    refine go_iload_n 3 d_Mo_makeStep_195 rfl rfl ?_
    refine go_bipush (v := 11) d_Mo_makeStep_196 rfl ?_
    refine go_icmp_ne 244 d_Mo_makeStep_198 rfl (fun _ => ?_) (fun hn => by first | exact absurd hn (by decide) | exact absurd (by decide) hn)
    refine go_iload_n 3 d_Mo_makeStep_244 rfl rfl ?_
    refine go_bipush (v := 11) d_Mo_makeStep_245 rfl ?_
    refine go_icmp_ne 285 d_Mo_makeStep_247 rfl (fun _ => ?_) (fun hn => by first | exact absurd hn (by decide) | exact absurd (by decide) hn)
    refine go_iload_n 3 d_Mo_makeStep_285 rfl rfl ?_
    refine go_bipush (v := 12) d_Mo_makeStep_286 rfl ?_
    refine go_icmp_ne 297 d_Mo_makeStep_288 rfl (fun _ => ?_) (fun hn => by first | exact absurd hn (by decide) | exact absurd (by decide) hn)
    refine go_iload_n 3 d_Mo_makeStep_297 rfl rfl ?_
    refine go_bipush (v := 7) d_Mo_makeStep_298 rfl ?_
    refine go_icmp_ne 308 d_Mo_makeStep_300 rfl (fun _ => ?_) (fun hn => by first | exact absurd hn (by decide) | exact absurd (by decide) hn)
    refine go_iload_n 3 d_Mo_makeStep_308 rfl rfl ?_
    refine go_bipush (v := 8) d_Mo_makeStep_309 rfl ?_
    refine go_icmp_eq 320 d_Mo_makeStep_311 rfl (fun hn => absurd hn (by decide)) (fun _ => ?_)
    refine go_iload_n 3 d_Mo_makeStep_314 rfl rfl ?_
    refine go_bipush (v := 9) d_Mo_makeStep_315 rfl ?_
    refine go_icmp_ne 341 d_Mo_makeStep_317 rfl (fun _ => ?_) (fun hn => by first | exact absurd hn (by decide) | exact absurd (by decide) hn)
    refine go_aload_n 0 d_Mo_makeStep_341 rfl rfl ?_
    refine go_getR d_Mo_makeStep_342 f_Mo_72 (by assumption) (by assumption) ?_
    refine go_iload_n 1 d_Mo_makeStep_345 rfl rfl ?_
    refine go_iald (i) d_Mo_makeStep_346 (by assumption) (rfl) (hi) (by decide) ?_
    rw [fs.2.1]
    refine go_iconst (v := 1) d_Mo_makeStep_347 rfl ?_
    refine go_iadd d_Mo_makeStep_348 ?_
    refine go_istore d_Mo_makeStep_349 (Nat.le_of_ble_eq_true rfl) ?_
    refine go_aload_n 0 d_Mo_makeStep_351 rfl rfl ?_
    refine go_iload_n 1 d_Mo_makeStep_352 rfl rfl ?_
    refine go_iload_n 3 d_Mo_makeStep_353 rfl rfl ?_
    refine go_iload d_Mo_makeStep_354 rfl ?_
    refine go_V3 d_Mo_makeStep_356 k_Mo_276 (by assumption) (Nat.le_of_ble_eq_true rfl) (c_Mo_work (k := 4) (inp := inp) (u := u) (t := t) (wd := wd) hp0 hi fs (by decide) (by decide) (Or.inr (Or.inr (Or.inr (Classical.byContradiction (fun hh => ncr (Or.inl (Nat.lt_of_not_le hh))))))) (fun hh => absurd hh (by decide)) (fun hh => absurd hh (by decide)) (hus.kept (Nat.le_refl _) (by rw [hIs0 _ (by decide)]) (by rw [hIs0 _ (by decide)]) (by rw [hIs1 _ (by decide)])) (by omega) (by rw [hIs0 _ (by decide)]; exact hwd) (fun st' loc' u' wd' I1 e1 e2 e3 e4 e5 e6 e7 => ?_) (fun e1 I1 e2 e3 => ?hno))
    case hno =>
      refine go_if_ne 364 d_Mo_makeStep_359 rfl (fun hn => absurd hn (by decide)) (fun _ => ?_)
      refine go_iconst (v := 2) d_Mo_makeStep_362 rfl ?_
      exact go_iret d_Mo_makeStep_363 rfl (hQ I1 (2, ([], u, wd, dp), 0) (by rw [rs_end hq ncr (r := (2, ([], u, wd, dp), 0)) (by rw [rn_wk (by decide) (by decide) (by first | exact Nat.zero_le _ | exact Classical.byContradiction (fun hh => ncr (Or.inl (Nat.lt_of_not_le hh)))), e1]) i_20]) ⟨fun hh => absurd hh i_20, by rw [e2 _ (by decide), hIs0 _ (by decide)]; exact hwd, by rw [e2 _ (by decide), hIs0 _ (by decide)]; exact h31, fun hh => absurd hh i_21, fun _ => ⟨by rw [e2 _ (by decide), hIs0 _ (by decide)], rfl⟩, by rw [e2 _ (by decide)]; exact hIs29, by rw [e2 _ (by decide), hIs0 _ (by decide)], fun q' h1 h2 => by rw [e3 q' h1 (by omega) (by omega) (by omega), hIs1 q' h1]⟩)
    refine go_if_ne 364 d_Mo_makeStep_359 rfl (fun _ => ?_) (fun hn => by first | exact absurd hn (by decide) | exact absurd (by decide) hn)
    exact done _ _ _ _ _ I1 _ _ _ _ (by rw [rn_wk (by decide) (by decide) (by first | exact Nat.zero_le _ | exact Classical.byContradiction (fun hh => ncr (Or.inl (Nat.lt_of_not_le hh)))), e1]) ncr (mf_fr.pl e2) e3 e4 e5 e6 (fun q' h1 h2 => by rw [e7 q' h1 (by omega) (by omega) (by omega), hIs1 q' h1])
theorem c_Mo_mk_5 (hp : pt_Mo sh R) (hc : mc_at I U) (hm : m < 4) (hml : m + rest.length < 4) (hiv : rn_iv m rest) (hrest : mf_rest I rest) (hi0 : rest.length = i) (hi : i < 4) (h27 : I 533 27 = nI (i + 1)) (hus : us_at I inp u t) (ht : t ≤ 3000) (hwd : I 533 30 = wd) (h31 : I 533 31 = dp) (hle : ∀ j, j < 4 → (U j).1.length ≤ 24) (hql : q < 24)
    (hIs0 : ∀ j, j ≠ 29 → Is 533 j = I 533 j) (hIs29 : Is 533 29 = I 533 29 + 1) (hIs1 : ∀ q, q ≠ 533 → Is q = I q) (hIsf : ∀ i', mf_eq I Is i') (fs : mf_fr Is i (nI q) (m, nI q, st, loc)) (hrests : mf_rest Is rest) (hcs : mc_at Is U) (hsz : ∀ j, j < 4 → Is 534 j = nI (U j).1.length) (hst6 : st.length ≤ 6) (hq : ((fun j => (U j).1) m)[q]? = some (5, nn) ∧ ((fun j => (U j).1) m).length ≤ 24)
    (fin3 : rn_cr (fun j => (U j).1.length) 5 nn m st.length → Q (some (.int 3)) (n, sh, X, R, Is, L))
    (done : ∀ (to : Int32) (st' : List Int32) (loc' : Nat → Int32) (u' : Nat) (wd' : Int32) (I1 : Nat → Nat → Int32) (o5 o6 o8 o9 : Option Value), rn_do inp 5 nn m (nI q + 1) st loc rest u wd dp = (0, ((m, to, st', loc') :: rest, u', wd', dp), 0) → ¬ rn_cr (fun j => (U j).1.length) 5 nn m st.length → mf_fr I1 i (nI q) (m, nI q, st', loc') → (∀ i', i' ≠ i → mf_eq Is I1 i') → us_at I1 inp u' (t + 1) → I1 533 30 = wd' → (∀ j, j ≠ 28 → j ≠ 30 → I1 533 j = Is 533 j) → (∀ q, q ≠ 533 → (q < 553 ∨ 558 ≤ q) → I1 q = I q) → gw_Go y_Mo_makeStep (d + 3) 0 0 364 [some (.ref 533), some (.int (nI i)), some (.int (nI m)), some (.int (nI 5)), some (.int nn), o5, o6, some (.int to), o8, o9] [] (n, sh, X, R, I1, L) Q)
    (hQ : ∀ I' r, r = rn_step (fun j => (U j).1) inp ((m, nI q, st, loc) :: rest, u, wd, dp) → ms_post inp t I I' r → Q (some (.int r.1)) (n, sh, X, R, I', L)) : gw_Go y_Mo_makeStep (d + 3) 0 0 59 [some (.ref 533), some (.int (nI i)), some (.int (nI m)), some (.int (nI 5)), some (.int nn), none, none, none, none, none] [] (n, sh, X, R, Is, L) Q := by
  have hp0 := hp
  obtain ⟨s533, s534, s535, s536, s537, s538, s539, s540, s541, s542, s543, s544, s545, s546, s547, s548, s549, s550, s551, s552, s553, s554, s555, s556, s557, r534, r535, r536, r537, r538, r539, r540, r541, r542, r543, r544, r545, r546, r547, r548, r549, r550, r551, r552, r553, r554, r555, r556, r557⟩ := hp
  have one : 1 ≤ st.length → ∃ v s, st = v :: s := fun h => by cases st with | nil => exact absurd h (by decide) | cons v s => exact ⟨v, s, rfl⟩
  have two : 2 ≤ st.length → ∃ y x s, st = y :: x :: s := fun h => by cases st with | nil => exact absurd h (by decide) | cons y s => cases s with | nil => exact absurd h (by simp) | cons x s => exact ⟨y, x, s, rfl⟩
  have three : 3 ≤ st.length → ∃ z y x s, st = z :: y :: x :: s := fun h => by cases st with | nil => exact absurd h (by decide) | cons z s => cases s with | nil => exact absurd h (by simp) | cons y s => cases s with | nil => exact absurd h (by simp) | cons x s => exact ⟨z, y, x, s, rfl⟩
  refine go_iload_n 3 d_Mo_makeStep_59 rfl rfl ?_
  refine go_iconst (v := 2) d_Mo_makeStep_60 rfl ?_
  refine go_icmp_eq 82 d_Mo_makeStep_61 rfl (fun hn => absurd hn (by decide)) (fun _ => ?_)
  refine go_iload_n 3 d_Mo_makeStep_64 rfl rfl ?_
  refine go_bipush (v := 10) d_Mo_makeStep_65 rfl ?_
  refine go_icmp_eq 82 d_Mo_makeStep_67 rfl (fun hn => absurd hn (by decide)) (fun _ => ?_)
  refine go_iload_n 3 d_Mo_makeStep_70 rfl rfl ?_
  refine go_bipush (v := 12) d_Mo_makeStep_71 rfl ?_
  refine go_icmp_eq 82 d_Mo_makeStep_73 rfl (fun hn => absurd hn (by decide)) (fun _ => ?_)
  refine go_iload_n 3 d_Mo_makeStep_76 rfl rfl ?_
  refine go_bipush (v := 14) d_Mo_makeStep_77 rfl ?_
  refine go_icmp_ne 86 d_Mo_makeStep_79 rfl (fun _ => ?_) (fun hn => by first | exact absurd hn (by decide) | exact absurd (by decide) hn)
  refine go_iload_n 3 d_Mo_makeStep_86 rfl rfl ?_
  refine go_iconst (v := 3) d_Mo_makeStep_87 rfl ?_
  refine go_icmp_eq 108 d_Mo_makeStep_88 rfl (fun hn => absurd hn (by decide)) (fun _ => ?_)
  refine go_iload_n 3 d_Mo_makeStep_91 rfl rfl ?_
  refine go_iconst (v := 4) d_Mo_makeStep_92 rfl ?_
  refine go_icmp_eq 108 d_Mo_makeStep_93 rfl (fun hn => absurd hn (by decide)) (fun _ => ?_)
  refine go_iload_n 3 d_Mo_makeStep_96 rfl rfl ?_
  refine go_bipush (v := 8) d_Mo_makeStep_97 rfl ?_
  refine go_icmp_eq 108 d_Mo_makeStep_99 rfl (fun hn => absurd hn (by decide)) (fun _ => ?_)
  refine go_iload_n 3 d_Mo_makeStep_102 rfl rfl ?_
  refine go_bipush (v := 9) d_Mo_makeStep_103 rfl ?_
  refine go_icmp_ne 112 d_Mo_makeStep_105 rfl (fun _ => ?_) (fun hn => by first | exact absurd hn (by decide) | exact absurd (by decide) hn)
  refine go_iload_n 3 d_Mo_makeStep_112 rfl rfl ?_
  refine go_bipush (v := 11) d_Mo_makeStep_113 rfl ?_
  refine go_icmp_ne 122 d_Mo_makeStep_115 rfl (fun _ => ?_) (fun hn => by first | exact absurd hn (by decide) | exact absurd (by decide) hn)
  refine go_iconst (v := 0) d_Mo_makeStep_122 rfl ?_
  refine go_istore d_Mo_makeStep_123 (Nat.le_of_ble_eq_true rfl) ?_
  refine go_iload_n 3 d_Mo_makeStep_125 rfl rfl ?_
  refine go_iconst (v := 1) d_Mo_makeStep_126 rfl ?_
  refine go_icmp_le 136 d_Mo_makeStep_127 rfl (fun hn => absurd hn (by decide)) (fun _ => ?_)
  refine go_iload_n 3 d_Mo_makeStep_130 rfl rfl ?_
  refine go_bipush (v := 13) d_Mo_makeStep_131 rfl ?_
  refine go_icmp_ne 140 d_Mo_makeStep_133 rfl (fun _ => ?_) (fun hn => by first | exact absurd hn (by decide) | exact absurd (by decide) hn)
  refine go_iconst (v := 0) d_Mo_makeStep_140 rfl ?_
  refine go_istore d_Mo_makeStep_141 (Nat.le_of_ble_eq_true rfl) ?_
  refine go_aload_n 0 d_Mo_makeStep_143 rfl rfl ?_
  refine go_getR d_Mo_makeStep_144 f_Mo_75 (by assumption) (by assumption) ?_
  refine go_iload_n 1 d_Mo_makeStep_147 rfl rfl ?_
  refine go_iald (i) d_Mo_makeStep_148 (by assumption) (rfl) (hi) (by decide) ?_
  rw [show Is 555 i = nI st.length from fs.2.2.1]
  refine go_iload d_Mo_makeStep_149 rfl ?_
  refine go_icmp_lt 193 d_Mo_makeStep_151 rfl (fun hn => absurd hn (nI_pos (by have := fs.2.2.2.1; omega))) (fun _ => ?_)
  refine go_iload d_Mo_makeStep_154 rfl ?_
  refine go_if_eq 170 d_Mo_makeStep_156 rfl (fun _ => ?_) (fun hn => absurd (by decide) hn)
  refine go_iload_n 3 d_Mo_makeStep_170 rfl rfl ?_
  refine go_iconst (v := 1) d_Mo_makeStep_171 rfl ?_
  refine go_icmp_eq 180 d_Mo_makeStep_172 rfl (fun hn => absurd hn (by decide)) (fun _ => ?_)
  refine go_iload_n 3 d_Mo_makeStep_175 rfl rfl ?_
  refine go_iconst (v := 2) d_Mo_makeStep_176 rfl ?_
  refine go_icmp_ne 195 d_Mo_makeStep_177 rfl (fun _ => ?_) (fun hn => by first | exact absurd hn (by decide) | exact absurd (by decide) hn)
  have ncr : ¬ rn_cr (fun j => (U j).1.length) 5 nn m st.length := fun hh => by rcases hh with hh | hh | ⟨hh, hh2⟩ | ⟨hh, hh2⟩; (exact absurd hh (Nat.not_lt_zero _)); (have hh' : 6 < st.length - 0 + 0 := hh; omega); (rcases hh with hh | hh <;> exact absurd hh (by decide)); exact absurd hh (by decide)
  refine go_iload_n 3 d_Mo_makeStep_195 rfl rfl ?_
  refine go_bipush (v := 11) d_Mo_makeStep_196 rfl ?_
  refine go_icmp_ne 244 d_Mo_makeStep_198 rfl (fun _ => ?_) (fun hn => by first | exact absurd hn (by decide) | exact absurd (by decide) hn)
  refine go_iload_n 3 d_Mo_makeStep_244 rfl rfl ?_
  refine go_bipush (v := 11) d_Mo_makeStep_245 rfl ?_
  refine go_icmp_ne 285 d_Mo_makeStep_247 rfl (fun _ => ?_) (fun hn => by first | exact absurd hn (by decide) | exact absurd (by decide) hn)
  refine go_iload_n 3 d_Mo_makeStep_285 rfl rfl ?_
  refine go_bipush (v := 12) d_Mo_makeStep_286 rfl ?_
  refine go_icmp_ne 297 d_Mo_makeStep_288 rfl (fun _ => ?_) (fun hn => by first | exact absurd hn (by decide) | exact absurd (by decide) hn)
  refine go_iload_n 3 d_Mo_makeStep_297 rfl rfl ?_
  refine go_bipush (v := 7) d_Mo_makeStep_298 rfl ?_
  refine go_icmp_ne 308 d_Mo_makeStep_300 rfl (fun _ => ?_) (fun hn => by first | exact absurd hn (by decide) | exact absurd (by decide) hn)
  refine go_iload_n 3 d_Mo_makeStep_308 rfl rfl ?_
  refine go_bipush (v := 8) d_Mo_makeStep_309 rfl ?_
  refine go_icmp_eq 320 d_Mo_makeStep_311 rfl (fun hn => absurd hn (by decide)) (fun _ => ?_)
  refine go_iload_n 3 d_Mo_makeStep_314 rfl rfl ?_
  refine go_bipush (v := 9) d_Mo_makeStep_315 rfl ?_
  refine go_icmp_ne 341 d_Mo_makeStep_317 rfl (fun _ => ?_) (fun hn => by first | exact absurd hn (by decide) | exact absurd (by decide) hn)
  refine go_aload_n 0 d_Mo_makeStep_341 rfl rfl ?_
  refine go_getR d_Mo_makeStep_342 f_Mo_72 (by assumption) (by assumption) ?_
  refine go_iload_n 1 d_Mo_makeStep_345 rfl rfl ?_
  refine go_iald (i) d_Mo_makeStep_346 (by assumption) (rfl) (hi) (by decide) ?_
  rw [fs.2.1]
  refine go_iconst (v := 1) d_Mo_makeStep_347 rfl ?_
  refine go_iadd d_Mo_makeStep_348 ?_
  refine go_istore d_Mo_makeStep_349 (Nat.le_of_ble_eq_true rfl) ?_
  refine go_aload_n 0 d_Mo_makeStep_351 rfl rfl ?_
  refine go_iload_n 1 d_Mo_makeStep_352 rfl rfl ?_
  refine go_iload_n 3 d_Mo_makeStep_353 rfl rfl ?_
  refine go_iload d_Mo_makeStep_354 rfl ?_
  refine go_V3 d_Mo_makeStep_356 k_Mo_276 (by assumption) (Nat.le_of_ble_eq_true rfl) (c_Mo_work (k := 5) (inp := inp) (u := u) (t := t) (wd := wd) hp0 hi fs (by decide) (by decide) (Or.inr (Or.inr (Or.inr (Nat.zero_le _)))) (fun hh => absurd hh (by decide)) (fun hh => absurd hh (by decide)) (hus.kept (Nat.le_refl _) (by rw [hIs0 _ (by decide)]) (by rw [hIs0 _ (by decide)]) (by rw [hIs1 _ (by decide)])) (by omega) (by rw [hIs0 _ (by decide)]; exact hwd) (fun st' loc' u' wd' I1 e1 e2 e3 e4 e5 e6 e7 => ?_) (fun e1 I1 e2 e3 => ?hno))
  case hno =>
    refine go_if_ne 364 d_Mo_makeStep_359 rfl (fun hn => absurd hn (by decide)) (fun _ => ?_)
    refine go_iconst (v := 2) d_Mo_makeStep_362 rfl ?_
    exact go_iret d_Mo_makeStep_363 rfl (hQ I1 (2, ([], u, wd, dp), 0) (by rw [rs_end hq ncr (r := (2, ([], u, wd, dp), 0)) (by rw [rn_wk (by decide) (by decide) (by first | exact Nat.zero_le _ | exact Classical.byContradiction (fun hh => ncr (Or.inl (Nat.lt_of_not_le hh)))), e1]) i_20]) ⟨fun hh => absurd hh i_20, by rw [e2 _ (by decide), hIs0 _ (by decide)]; exact hwd, by rw [e2 _ (by decide), hIs0 _ (by decide)]; exact h31, fun hh => absurd hh i_21, fun _ => ⟨by rw [e2 _ (by decide), hIs0 _ (by decide)], rfl⟩, by rw [e2 _ (by decide)]; exact hIs29, by rw [e2 _ (by decide), hIs0 _ (by decide)], fun q' h1 h2 => by rw [e3 q' h1 (by omega) (by omega) (by omega), hIs1 q' h1]⟩)
  refine go_if_ne 364 d_Mo_makeStep_359 rfl (fun _ => ?_) (fun hn => by first | exact absurd hn (by decide) | exact absurd (by decide) hn)
  exact done _ _ _ _ _ I1 _ _ _ _ (by rw [rn_wk (by decide) (by decide) (by first | exact Nat.zero_le _ | exact Classical.byContradiction (fun hh => ncr (Or.inl (Nat.lt_of_not_le hh)))), e1]) ncr (mf_fr.pl e2) e3 e4 e5 e6 (fun q' h1 h2 => by rw [e7 q' h1 (by omega) (by omega) (by omega), hIs1 q' h1])
theorem c_Mo_mk_6 (hp : pt_Mo sh R) (hc : mc_at I U) (hm : m < 4) (hml : m + rest.length < 4) (hiv : rn_iv m rest) (hrest : mf_rest I rest) (hi0 : rest.length = i) (hi : i < 4) (h27 : I 533 27 = nI (i + 1)) (hus : us_at I inp u t) (ht : t ≤ 3000) (hwd : I 533 30 = wd) (h31 : I 533 31 = dp) (hle : ∀ j, j < 4 → (U j).1.length ≤ 24) (hql : q < 24)
    (hIs0 : ∀ j, j ≠ 29 → Is 533 j = I 533 j) (hIs29 : Is 533 29 = I 533 29 + 1) (hIs1 : ∀ q, q ≠ 533 → Is q = I q) (hIsf : ∀ i', mf_eq I Is i') (fs : mf_fr Is i (nI q) (m, nI q, st, loc)) (hrests : mf_rest Is rest) (hcs : mc_at Is U) (hsz : ∀ j, j < 4 → Is 534 j = nI (U j).1.length) (hst6 : st.length ≤ 6) (hq : ((fun j => (U j).1) m)[q]? = some (6, nn) ∧ ((fun j => (U j).1) m).length ≤ 24)
    (fin3 : rn_cr (fun j => (U j).1.length) 6 nn m st.length → Q (some (.int 3)) (n, sh, X, R, Is, L))
    (done : ∀ (to : Int32) (st' : List Int32) (loc' : Nat → Int32) (u' : Nat) (wd' : Int32) (I1 : Nat → Nat → Int32) (o5 o6 o8 o9 : Option Value), rn_do inp 6 nn m (nI q + 1) st loc rest u wd dp = (0, ((m, to, st', loc') :: rest, u', wd', dp), 0) → ¬ rn_cr (fun j => (U j).1.length) 6 nn m st.length → mf_fr I1 i (nI q) (m, nI q, st', loc') → (∀ i', i' ≠ i → mf_eq Is I1 i') → us_at I1 inp u' (t + 1) → I1 533 30 = wd' → (∀ j, j ≠ 28 → j ≠ 30 → I1 533 j = Is 533 j) → (∀ q, q ≠ 533 → (q < 553 ∨ 558 ≤ q) → I1 q = I q) → gw_Go y_Mo_makeStep (d + 3) 0 0 364 [some (.ref 533), some (.int (nI i)), some (.int (nI m)), some (.int (nI 6)), some (.int nn), o5, o6, some (.int to), o8, o9] [] (n, sh, X, R, I1, L) Q)
    (hQ : ∀ I' r, r = rn_step (fun j => (U j).1) inp ((m, nI q, st, loc) :: rest, u, wd, dp) → ms_post inp t I I' r → Q (some (.int r.1)) (n, sh, X, R, I', L)) : gw_Go y_Mo_makeStep (d + 3) 0 0 59 [some (.ref 533), some (.int (nI i)), some (.int (nI m)), some (.int (nI 6)), some (.int nn), none, none, none, none, none] [] (n, sh, X, R, Is, L) Q := by
  have hp0 := hp
  obtain ⟨s533, s534, s535, s536, s537, s538, s539, s540, s541, s542, s543, s544, s545, s546, s547, s548, s549, s550, s551, s552, s553, s554, s555, s556, s557, r534, r535, r536, r537, r538, r539, r540, r541, r542, r543, r544, r545, r546, r547, r548, r549, r550, r551, r552, r553, r554, r555, r556, r557⟩ := hp
  have one : 1 ≤ st.length → ∃ v s, st = v :: s := fun h => by cases st with | nil => exact absurd h (by decide) | cons v s => exact ⟨v, s, rfl⟩
  have two : 2 ≤ st.length → ∃ y x s, st = y :: x :: s := fun h => by cases st with | nil => exact absurd h (by decide) | cons y s => cases s with | nil => exact absurd h (by simp) | cons x s => exact ⟨y, x, s, rfl⟩
  have three : 3 ≤ st.length → ∃ z y x s, st = z :: y :: x :: s := fun h => by cases st with | nil => exact absurd h (by decide) | cons z s => cases s with | nil => exact absurd h (by simp) | cons y s => cases s with | nil => exact absurd h (by simp) | cons x s => exact ⟨z, y, x, s, rfl⟩
  refine go_iload_n 3 d_Mo_makeStep_59 rfl rfl ?_
  refine go_iconst (v := 2) d_Mo_makeStep_60 rfl ?_
  refine go_icmp_eq 82 d_Mo_makeStep_61 rfl (fun hn => absurd hn (by decide)) (fun _ => ?_)
  refine go_iload_n 3 d_Mo_makeStep_64 rfl rfl ?_
  refine go_bipush (v := 10) d_Mo_makeStep_65 rfl ?_
  refine go_icmp_eq 82 d_Mo_makeStep_67 rfl (fun hn => absurd hn (by decide)) (fun _ => ?_)
  refine go_iload_n 3 d_Mo_makeStep_70 rfl rfl ?_
  refine go_bipush (v := 12) d_Mo_makeStep_71 rfl ?_
  refine go_icmp_eq 82 d_Mo_makeStep_73 rfl (fun hn => absurd hn (by decide)) (fun _ => ?_)
  refine go_iload_n 3 d_Mo_makeStep_76 rfl rfl ?_
  refine go_bipush (v := 14) d_Mo_makeStep_77 rfl ?_
  refine go_icmp_ne 86 d_Mo_makeStep_79 rfl (fun _ => ?_) (fun hn => by first | exact absurd hn (by decide) | exact absurd (by decide) hn)
  refine go_iload_n 3 d_Mo_makeStep_86 rfl rfl ?_
  refine go_iconst (v := 3) d_Mo_makeStep_87 rfl ?_
  refine go_icmp_eq 108 d_Mo_makeStep_88 rfl (fun hn => absurd hn (by decide)) (fun _ => ?_)
  refine go_iload_n 3 d_Mo_makeStep_91 rfl rfl ?_
  refine go_iconst (v := 4) d_Mo_makeStep_92 rfl ?_
  refine go_icmp_eq 108 d_Mo_makeStep_93 rfl (fun hn => absurd hn (by decide)) (fun _ => ?_)
  refine go_iload_n 3 d_Mo_makeStep_96 rfl rfl ?_
  refine go_bipush (v := 8) d_Mo_makeStep_97 rfl ?_
  refine go_icmp_eq 108 d_Mo_makeStep_99 rfl (fun hn => absurd hn (by decide)) (fun _ => ?_)
  refine go_iload_n 3 d_Mo_makeStep_102 rfl rfl ?_
  refine go_bipush (v := 9) d_Mo_makeStep_103 rfl ?_
  refine go_icmp_ne 112 d_Mo_makeStep_105 rfl (fun _ => ?_) (fun hn => by first | exact absurd hn (by decide) | exact absurd (by decide) hn)
  refine go_iload_n 3 d_Mo_makeStep_112 rfl rfl ?_
  refine go_bipush (v := 11) d_Mo_makeStep_113 rfl ?_
  refine go_icmp_ne 122 d_Mo_makeStep_115 rfl (fun _ => ?_) (fun hn => by first | exact absurd hn (by decide) | exact absurd (by decide) hn)
  refine go_iconst (v := 0) d_Mo_makeStep_122 rfl ?_
  refine go_istore d_Mo_makeStep_123 (Nat.le_of_ble_eq_true rfl) ?_
  refine go_iload_n 3 d_Mo_makeStep_125 rfl rfl ?_
  refine go_iconst (v := 1) d_Mo_makeStep_126 rfl ?_
  refine go_icmp_le 136 d_Mo_makeStep_127 rfl (fun hn => absurd hn (by decide)) (fun _ => ?_)
  refine go_iload_n 3 d_Mo_makeStep_130 rfl rfl ?_
  refine go_bipush (v := 13) d_Mo_makeStep_131 rfl ?_
  refine go_icmp_ne 140 d_Mo_makeStep_133 rfl (fun _ => ?_) (fun hn => by first | exact absurd hn (by decide) | exact absurd (by decide) hn)
  refine go_iconst (v := 0) d_Mo_makeStep_140 rfl ?_
  refine go_istore d_Mo_makeStep_141 (Nat.le_of_ble_eq_true rfl) ?_
  refine go_aload_n 0 d_Mo_makeStep_143 rfl rfl ?_
  refine go_getR d_Mo_makeStep_144 f_Mo_75 (by assumption) (by assumption) ?_
  refine go_iload_n 1 d_Mo_makeStep_147 rfl rfl ?_
  refine go_iald (i) d_Mo_makeStep_148 (by assumption) (rfl) (hi) (by decide) ?_
  rw [show Is 555 i = nI st.length from fs.2.2.1]
  refine go_iload d_Mo_makeStep_149 rfl ?_
  refine go_icmp_lt 193 d_Mo_makeStep_151 rfl (fun hn => absurd hn (nI_pos (by have := fs.2.2.2.1; omega))) (fun _ => ?_)
  refine go_iload d_Mo_makeStep_154 rfl ?_
  refine go_if_eq 170 d_Mo_makeStep_156 rfl (fun _ => ?_) (fun hn => absurd (by decide) hn)
  refine go_iload_n 3 d_Mo_makeStep_170 rfl rfl ?_
  refine go_iconst (v := 1) d_Mo_makeStep_171 rfl ?_
  refine go_icmp_eq 180 d_Mo_makeStep_172 rfl (fun hn => absurd hn (by decide)) (fun _ => ?_)
  refine go_iload_n 3 d_Mo_makeStep_175 rfl rfl ?_
  refine go_iconst (v := 2) d_Mo_makeStep_176 rfl ?_
  refine go_icmp_ne 195 d_Mo_makeStep_177 rfl (fun _ => ?_) (fun hn => by first | exact absurd hn (by decide) | exact absurd (by decide) hn)
  have ncr : ¬ rn_cr (fun j => (U j).1.length) 6 nn m st.length := fun hh => by rcases hh with hh | hh | ⟨hh, hh2⟩ | ⟨hh, hh2⟩; (exact absurd hh (Nat.not_lt_zero _)); (have hh' : 6 < st.length - 0 + 0 := hh; omega); (rcases hh with hh | hh <;> exact absurd hh (by decide)); exact absurd hh (by decide)
  refine go_iload_n 3 d_Mo_makeStep_195 rfl rfl ?_
  refine go_bipush (v := 11) d_Mo_makeStep_196 rfl ?_
  refine go_icmp_ne 244 d_Mo_makeStep_198 rfl (fun _ => ?_) (fun hn => by first | exact absurd hn (by decide) | exact absurd (by decide) hn)
  refine go_iload_n 3 d_Mo_makeStep_244 rfl rfl ?_
  refine go_bipush (v := 11) d_Mo_makeStep_245 rfl ?_
  refine go_icmp_ne 285 d_Mo_makeStep_247 rfl (fun _ => ?_) (fun hn => by first | exact absurd hn (by decide) | exact absurd (by decide) hn)
  refine go_iload_n 3 d_Mo_makeStep_285 rfl rfl ?_
  refine go_bipush (v := 12) d_Mo_makeStep_286 rfl ?_
  refine go_icmp_ne 297 d_Mo_makeStep_288 rfl (fun _ => ?_) (fun hn => by first | exact absurd hn (by decide) | exact absurd (by decide) hn)
  refine go_iload_n 3 d_Mo_makeStep_297 rfl rfl ?_
  refine go_bipush (v := 7) d_Mo_makeStep_298 rfl ?_
  refine go_icmp_ne 308 d_Mo_makeStep_300 rfl (fun _ => ?_) (fun hn => by first | exact absurd hn (by decide) | exact absurd (by decide) hn)
  refine go_iload_n 3 d_Mo_makeStep_308 rfl rfl ?_
  refine go_bipush (v := 8) d_Mo_makeStep_309 rfl ?_
  refine go_icmp_eq 320 d_Mo_makeStep_311 rfl (fun hn => absurd hn (by decide)) (fun _ => ?_)
  refine go_iload_n 3 d_Mo_makeStep_314 rfl rfl ?_
  refine go_bipush (v := 9) d_Mo_makeStep_315 rfl ?_
  refine go_icmp_ne 341 d_Mo_makeStep_317 rfl (fun _ => ?_) (fun hn => by first | exact absurd hn (by decide) | exact absurd (by decide) hn)
  refine go_aload_n 0 d_Mo_makeStep_341 rfl rfl ?_
  refine go_getR d_Mo_makeStep_342 f_Mo_72 (by assumption) (by assumption) ?_
  refine go_iload_n 1 d_Mo_makeStep_345 rfl rfl ?_
  refine go_iald (i) d_Mo_makeStep_346 (by assumption) (rfl) (hi) (by decide) ?_
  rw [fs.2.1]
  refine go_iconst (v := 1) d_Mo_makeStep_347 rfl ?_
  refine go_iadd d_Mo_makeStep_348 ?_
  refine go_istore d_Mo_makeStep_349 (Nat.le_of_ble_eq_true rfl) ?_
  refine go_aload_n 0 d_Mo_makeStep_351 rfl rfl ?_
  refine go_iload_n 1 d_Mo_makeStep_352 rfl rfl ?_
  refine go_iload_n 3 d_Mo_makeStep_353 rfl rfl ?_
  refine go_iload d_Mo_makeStep_354 rfl ?_
  refine go_V3 d_Mo_makeStep_356 k_Mo_276 (by assumption) (Nat.le_of_ble_eq_true rfl) (c_Mo_work (k := 6) (inp := inp) (u := u) (t := t) (wd := wd) hp0 hi fs (by decide) (by decide) (Or.inr (Or.inr (Or.inr (Nat.zero_le _)))) (fun hh => absurd hh (by decide)) (fun hh => absurd hh (by decide)) (hus.kept (Nat.le_refl _) (by rw [hIs0 _ (by decide)]) (by rw [hIs0 _ (by decide)]) (by rw [hIs1 _ (by decide)])) (by omega) (by rw [hIs0 _ (by decide)]; exact hwd) (fun st' loc' u' wd' I1 e1 e2 e3 e4 e5 e6 e7 => ?_) (fun e1 I1 e2 e3 => ?hno))
  case hno =>
    refine go_if_ne 364 d_Mo_makeStep_359 rfl (fun hn => absurd hn (by decide)) (fun _ => ?_)
    refine go_iconst (v := 2) d_Mo_makeStep_362 rfl ?_
    exact go_iret d_Mo_makeStep_363 rfl (hQ I1 (2, ([], u, wd, dp), 0) (by rw [rs_end hq ncr (r := (2, ([], u, wd, dp), 0)) (by rw [rn_wk (by decide) (by decide) (by first | exact Nat.zero_le _ | exact Classical.byContradiction (fun hh => ncr (Or.inl (Nat.lt_of_not_le hh)))), e1]) i_20]) ⟨fun hh => absurd hh i_20, by rw [e2 _ (by decide), hIs0 _ (by decide)]; exact hwd, by rw [e2 _ (by decide), hIs0 _ (by decide)]; exact h31, fun hh => absurd hh i_21, fun _ => ⟨by rw [e2 _ (by decide), hIs0 _ (by decide)], rfl⟩, by rw [e2 _ (by decide)]; exact hIs29, by rw [e2 _ (by decide), hIs0 _ (by decide)], fun q' h1 h2 => by rw [e3 q' h1 (by omega) (by omega) (by omega), hIs1 q' h1]⟩)
  refine go_if_ne 364 d_Mo_makeStep_359 rfl (fun _ => ?_) (fun hn => by first | exact absurd hn (by decide) | exact absurd (by decide) hn)
  exact done _ _ _ _ _ I1 _ _ _ _ (by rw [rn_wk (by decide) (by decide) (by first | exact Nat.zero_le _ | exact Classical.byContradiction (fun hh => ncr (Or.inl (Nat.lt_of_not_le hh)))), e1]) ncr (mf_fr.pl e2) e3 e4 e5 e6 (fun q' h1 h2 => by rw [e7 q' h1 (by omega) (by omega) (by omega), hIs1 q' h1])
theorem c_Mo_mk_7 (hp : pt_Mo sh R) (hc : mc_at I U) (hm : m < 4) (hml : m + rest.length < 4) (hiv : rn_iv m rest) (hrest : mf_rest I rest) (hi0 : rest.length = i) (hi : i < 4) (h27 : I 533 27 = nI (i + 1)) (hus : us_at I inp u t) (ht : t ≤ 3000) (hwd : I 533 30 = wd) (h31 : I 533 31 = dp) (hle : ∀ j, j < 4 → (U j).1.length ≤ 24) (hql : q < 24)
    (hIs0 : ∀ j, j ≠ 29 → Is 533 j = I 533 j) (hIs29 : Is 533 29 = I 533 29 + 1) (hIs1 : ∀ q, q ≠ 533 → Is q = I q) (hIsf : ∀ i', mf_eq I Is i') (fs : mf_fr Is i (nI q) (m, nI q, st, loc)) (hrests : mf_rest Is rest) (hcs : mc_at Is U) (hsz : ∀ j, j < 4 → Is 534 j = nI (U j).1.length) (hst6 : st.length ≤ 6) (hq : ((fun j => (U j).1) m)[q]? = some (7, nn) ∧ ((fun j => (U j).1) m).length ≤ 24)
    (fin3 : rn_cr (fun j => (U j).1.length) 7 nn m st.length → Q (some (.int 3)) (n, sh, X, R, Is, L))
    (done : ∀ (to : Int32) (st' : List Int32) (loc' : Nat → Int32) (u' : Nat) (wd' : Int32) (I1 : Nat → Nat → Int32) (o5 o6 o8 o9 : Option Value), rn_do inp 7 nn m (nI q + 1) st loc rest u wd dp = (0, ((m, to, st', loc') :: rest, u', wd', dp), 0) → ¬ rn_cr (fun j => (U j).1.length) 7 nn m st.length → mf_fr I1 i (nI q) (m, nI q, st', loc') → (∀ i', i' ≠ i → mf_eq Is I1 i') → us_at I1 inp u' (t + 1) → I1 533 30 = wd' → (∀ j, j ≠ 28 → j ≠ 30 → I1 533 j = Is 533 j) → (∀ q, q ≠ 533 → (q < 553 ∨ 558 ≤ q) → I1 q = I q) → gw_Go y_Mo_makeStep (d + 3) 0 0 364 [some (.ref 533), some (.int (nI i)), some (.int (nI m)), some (.int (nI 7)), some (.int nn), o5, o6, some (.int to), o8, o9] [] (n, sh, X, R, I1, L) Q)
    (hQ : ∀ I' r, r = rn_step (fun j => (U j).1) inp ((m, nI q, st, loc) :: rest, u, wd, dp) → ms_post inp t I I' r → Q (some (.int r.1)) (n, sh, X, R, I', L)) : gw_Go y_Mo_makeStep (d + 3) 0 0 59 [some (.ref 533), some (.int (nI i)), some (.int (nI m)), some (.int (nI 7)), some (.int nn), none, none, none, none, none] [] (n, sh, X, R, Is, L) Q := by
  have hp0 := hp
  obtain ⟨s533, s534, s535, s536, s537, s538, s539, s540, s541, s542, s543, s544, s545, s546, s547, s548, s549, s550, s551, s552, s553, s554, s555, s556, s557, r534, r535, r536, r537, r538, r539, r540, r541, r542, r543, r544, r545, r546, r547, r548, r549, r550, r551, r552, r553, r554, r555, r556, r557⟩ := hp
  have one : 1 ≤ st.length → ∃ v s, st = v :: s := fun h => by cases st with | nil => exact absurd h (by decide) | cons v s => exact ⟨v, s, rfl⟩
  have two : 2 ≤ st.length → ∃ y x s, st = y :: x :: s := fun h => by cases st with | nil => exact absurd h (by decide) | cons y s => cases s with | nil => exact absurd h (by simp) | cons x s => exact ⟨y, x, s, rfl⟩
  have three : 3 ≤ st.length → ∃ z y x s, st = z :: y :: x :: s := fun h => by cases st with | nil => exact absurd h (by decide) | cons z s => cases s with | nil => exact absurd h (by simp) | cons y s => cases s with | nil => exact absurd h (by simp) | cons x s => exact ⟨z, y, x, s, rfl⟩
  refine go_iload_n 3 d_Mo_makeStep_59 rfl rfl ?_
  refine go_iconst (v := 2) d_Mo_makeStep_60 rfl ?_
  refine go_icmp_eq 82 d_Mo_makeStep_61 rfl (fun hn => absurd hn (by decide)) (fun _ => ?_)
  refine go_iload_n 3 d_Mo_makeStep_64 rfl rfl ?_
  refine go_bipush (v := 10) d_Mo_makeStep_65 rfl ?_
  refine go_icmp_eq 82 d_Mo_makeStep_67 rfl (fun hn => absurd hn (by decide)) (fun _ => ?_)
  refine go_iload_n 3 d_Mo_makeStep_70 rfl rfl ?_
  refine go_bipush (v := 12) d_Mo_makeStep_71 rfl ?_
  refine go_icmp_eq 82 d_Mo_makeStep_73 rfl (fun hn => absurd hn (by decide)) (fun _ => ?_)
  refine go_iload_n 3 d_Mo_makeStep_76 rfl rfl ?_
  refine go_bipush (v := 14) d_Mo_makeStep_77 rfl ?_
  refine go_icmp_ne 86 d_Mo_makeStep_79 rfl (fun _ => ?_) (fun hn => by first | exact absurd hn (by decide) | exact absurd (by decide) hn)
  refine go_iload_n 3 d_Mo_makeStep_86 rfl rfl ?_
  refine go_iconst (v := 3) d_Mo_makeStep_87 rfl ?_
  refine go_icmp_eq 108 d_Mo_makeStep_88 rfl (fun hn => absurd hn (by decide)) (fun _ => ?_)
  refine go_iload_n 3 d_Mo_makeStep_91 rfl rfl ?_
  refine go_iconst (v := 4) d_Mo_makeStep_92 rfl ?_
  refine go_icmp_eq 108 d_Mo_makeStep_93 rfl (fun hn => absurd hn (by decide)) (fun _ => ?_)
  refine go_iload_n 3 d_Mo_makeStep_96 rfl rfl ?_
  refine go_bipush (v := 8) d_Mo_makeStep_97 rfl ?_
  refine go_icmp_eq 108 d_Mo_makeStep_99 rfl (fun hn => absurd hn (by decide)) (fun _ => ?_)
  refine go_iload_n 3 d_Mo_makeStep_102 rfl rfl ?_
  refine go_bipush (v := 9) d_Mo_makeStep_103 rfl ?_
  refine go_icmp_ne 112 d_Mo_makeStep_105 rfl (fun _ => ?_) (fun hn => by first | exact absurd hn (by decide) | exact absurd (by decide) hn)
  refine go_iload_n 3 d_Mo_makeStep_112 rfl rfl ?_
  refine go_bipush (v := 11) d_Mo_makeStep_113 rfl ?_
  refine go_icmp_ne 122 d_Mo_makeStep_115 rfl (fun _ => ?_) (fun hn => by first | exact absurd hn (by decide) | exact absurd (by decide) hn)
  refine go_iconst (v := 0) d_Mo_makeStep_122 rfl ?_
  refine go_istore d_Mo_makeStep_123 (Nat.le_of_ble_eq_true rfl) ?_
  refine go_iload_n 3 d_Mo_makeStep_125 rfl rfl ?_
  refine go_iconst (v := 1) d_Mo_makeStep_126 rfl ?_
  refine go_icmp_le 136 d_Mo_makeStep_127 rfl (fun hn => absurd hn (by decide)) (fun _ => ?_)
  refine go_iload_n 3 d_Mo_makeStep_130 rfl rfl ?_
  refine go_bipush (v := 13) d_Mo_makeStep_131 rfl ?_
  refine go_icmp_ne 140 d_Mo_makeStep_133 rfl (fun _ => ?_) (fun hn => by first | exact absurd hn (by decide) | exact absurd (by decide) hn)
  refine go_iconst (v := 0) d_Mo_makeStep_140 rfl ?_
  refine go_istore d_Mo_makeStep_141 (Nat.le_of_ble_eq_true rfl) ?_
  refine go_aload_n 0 d_Mo_makeStep_143 rfl rfl ?_
  refine go_getR d_Mo_makeStep_144 f_Mo_75 (by assumption) (by assumption) ?_
  refine go_iload_n 1 d_Mo_makeStep_147 rfl rfl ?_
  refine go_iald (i) d_Mo_makeStep_148 (by assumption) (rfl) (hi) (by decide) ?_
  rw [show Is 555 i = nI st.length from fs.2.2.1]
  refine go_iload d_Mo_makeStep_149 rfl ?_
  refine go_icmp_lt 193 d_Mo_makeStep_151 rfl (fun hn => absurd hn (nI_pos (by have := fs.2.2.2.1; omega))) (fun _ => ?_)
  refine go_iload d_Mo_makeStep_154 rfl ?_
  refine go_if_eq 170 d_Mo_makeStep_156 rfl (fun _ => ?_) (fun hn => absurd (by decide) hn)
  refine go_iload_n 3 d_Mo_makeStep_170 rfl rfl ?_
  refine go_iconst (v := 1) d_Mo_makeStep_171 rfl ?_
  refine go_icmp_eq 180 d_Mo_makeStep_172 rfl (fun hn => absurd hn (by decide)) (fun _ => ?_)
  refine go_iload_n 3 d_Mo_makeStep_175 rfl rfl ?_
  refine go_iconst (v := 2) d_Mo_makeStep_176 rfl ?_
  refine go_icmp_ne 195 d_Mo_makeStep_177 rfl (fun _ => ?_) (fun hn => by first | exact absurd hn (by decide) | exact absurd (by decide) hn)
  have ncr : ¬ rn_cr (fun j => (U j).1.length) 7 nn m st.length := fun hh => by rcases hh with hh | hh | ⟨hh, hh2⟩ | ⟨hh, hh2⟩; (exact absurd hh (Nat.not_lt_zero _)); (have hh' : 6 < st.length - 0 + 0 := hh; omega); (rcases hh with hh | hh <;> exact absurd hh (by decide)); exact absurd hh (by decide)
  refine go_iload_n 3 d_Mo_makeStep_195 rfl rfl ?_
  refine go_bipush (v := 11) d_Mo_makeStep_196 rfl ?_
  refine go_icmp_ne 244 d_Mo_makeStep_198 rfl (fun _ => ?_) (fun hn => by first | exact absurd hn (by decide) | exact absurd (by decide) hn)
  refine go_iload_n 3 d_Mo_makeStep_244 rfl rfl ?_
  refine go_bipush (v := 11) d_Mo_makeStep_245 rfl ?_
  refine go_icmp_ne 285 d_Mo_makeStep_247 rfl (fun _ => ?_) (fun hn => by first | exact absurd hn (by decide) | exact absurd (by decide) hn)
  refine go_iload_n 3 d_Mo_makeStep_285 rfl rfl ?_
  refine go_bipush (v := 12) d_Mo_makeStep_286 rfl ?_
  refine go_icmp_ne 297 d_Mo_makeStep_288 rfl (fun _ => ?_) (fun hn => by first | exact absurd hn (by decide) | exact absurd (by decide) hn)
  refine go_iload_n 3 d_Mo_makeStep_297 rfl rfl ?_
  refine go_bipush (v := 7) d_Mo_makeStep_298 rfl ?_
  refine go_icmp_ne 308 d_Mo_makeStep_300 rfl (fun hn => absurd hn (by decide)) (fun _ => ?_)
  refine go_iload d_Mo_makeStep_303 rfl ?_
  refine go_goto 349 d_Mo_makeStep_305 rfl ?_
  refine go_istore d_Mo_makeStep_349 (Nat.le_of_ble_eq_true rfl) ?_
  refine go_aload_n 0 d_Mo_makeStep_351 rfl rfl ?_
  refine go_iload_n 1 d_Mo_makeStep_352 rfl rfl ?_
  refine go_iload_n 3 d_Mo_makeStep_353 rfl rfl ?_
  refine go_iload d_Mo_makeStep_354 rfl ?_
  refine go_V3 d_Mo_makeStep_356 k_Mo_276 (by assumption) (Nat.le_of_ble_eq_true rfl) (c_Mo_work (k := 7) (inp := inp) (u := u) (t := t) (wd := wd) hp0 hi fs (by decide) (by decide) (Or.inr (Or.inr (Or.inr (Nat.zero_le _)))) (fun hh => absurd hh (by decide)) (fun hh => absurd hh (by decide)) (hus.kept (Nat.le_refl _) (by rw [hIs0 _ (by decide)]) (by rw [hIs0 _ (by decide)]) (by rw [hIs1 _ (by decide)])) (by omega) (by rw [hIs0 _ (by decide)]; exact hwd) (fun st' loc' u' wd' I1 e1 e2 e3 e4 e5 e6 e7 => ?_) (fun e1 I1 e2 e3 => ?hno))
  case hno =>
    cases e1
  cases e1
  refine go_if_ne 364 d_Mo_makeStep_359 rfl (fun _ => ?_) (fun hn => by first | exact absurd hn (by decide) | exact absurd (by decide) hn)
  exact done _ _ _ _ _ I1 _ _ _ _ rfl ncr (mf_fr.pl e2) e3 e4 e5 e6 (fun q' h1 h2 => by rw [e7 q' h1 (by omega) (by omega) (by omega), hIs1 q' h1])
theorem c_Mo_mk_8 (hp : pt_Mo sh R) (hc : mc_at I U) (hm : m < 4) (hml : m + rest.length < 4) (hiv : rn_iv m rest) (hrest : mf_rest I rest) (hi0 : rest.length = i) (hi : i < 4) (h27 : I 533 27 = nI (i + 1)) (hus : us_at I inp u t) (ht : t ≤ 3000) (hwd : I 533 30 = wd) (h31 : I 533 31 = dp) (hle : ∀ j, j < 4 → (U j).1.length ≤ 24) (hql : q < 24)
    (hIs0 : ∀ j, j ≠ 29 → Is 533 j = I 533 j) (hIs29 : Is 533 29 = I 533 29 + 1) (hIs1 : ∀ q, q ≠ 533 → Is q = I q) (hIsf : ∀ i', mf_eq I Is i') (fs : mf_fr Is i (nI q) (m, nI q, st, loc)) (hrests : mf_rest Is rest) (hcs : mc_at Is U) (hsz : ∀ j, j < 4 → Is 534 j = nI (U j).1.length) (hst6 : st.length ≤ 6) (hq : ((fun j => (U j).1) m)[q]? = some (8, nn) ∧ ((fun j => (U j).1) m).length ≤ 24)
    (fin3 : rn_cr (fun j => (U j).1.length) 8 nn m st.length → Q (some (.int 3)) (n, sh, X, R, Is, L))
    (done : ∀ (to : Int32) (st' : List Int32) (loc' : Nat → Int32) (u' : Nat) (wd' : Int32) (I1 : Nat → Nat → Int32) (o5 o6 o8 o9 : Option Value), rn_do inp 8 nn m (nI q + 1) st loc rest u wd dp = (0, ((m, to, st', loc') :: rest, u', wd', dp), 0) → ¬ rn_cr (fun j => (U j).1.length) 8 nn m st.length → mf_fr I1 i (nI q) (m, nI q, st', loc') → (∀ i', i' ≠ i → mf_eq Is I1 i') → us_at I1 inp u' (t + 1) → I1 533 30 = wd' → (∀ j, j ≠ 28 → j ≠ 30 → I1 533 j = Is 533 j) → (∀ q, q ≠ 533 → (q < 553 ∨ 558 ≤ q) → I1 q = I q) → gw_Go y_Mo_makeStep (d + 3) 0 0 364 [some (.ref 533), some (.int (nI i)), some (.int (nI m)), some (.int (nI 8)), some (.int nn), o5, o6, some (.int to), o8, o9] [] (n, sh, X, R, I1, L) Q)
    (hQ : ∀ I' r, r = rn_step (fun j => (U j).1) inp ((m, nI q, st, loc) :: rest, u, wd, dp) → ms_post inp t I I' r → Q (some (.int r.1)) (n, sh, X, R, I', L)) : gw_Go y_Mo_makeStep (d + 3) 0 0 59 [some (.ref 533), some (.int (nI i)), some (.int (nI m)), some (.int (nI 8)), some (.int nn), none, none, none, none, none] [] (n, sh, X, R, Is, L) Q := by
  have hp0 := hp
  obtain ⟨s533, s534, s535, s536, s537, s538, s539, s540, s541, s542, s543, s544, s545, s546, s547, s548, s549, s550, s551, s552, s553, s554, s555, s556, s557, r534, r535, r536, r537, r538, r539, r540, r541, r542, r543, r544, r545, r546, r547, r548, r549, r550, r551, r552, r553, r554, r555, r556, r557⟩ := hp
  have one : 1 ≤ st.length → ∃ v s, st = v :: s := fun h => by cases st with | nil => exact absurd h (by decide) | cons v s => exact ⟨v, s, rfl⟩
  have two : 2 ≤ st.length → ∃ y x s, st = y :: x :: s := fun h => by cases st with | nil => exact absurd h (by decide) | cons y s => cases s with | nil => exact absurd h (by simp) | cons x s => exact ⟨y, x, s, rfl⟩
  have three : 3 ≤ st.length → ∃ z y x s, st = z :: y :: x :: s := fun h => by cases st with | nil => exact absurd h (by decide) | cons z s => cases s with | nil => exact absurd h (by simp) | cons y s => cases s with | nil => exact absurd h (by simp) | cons x s => exact ⟨z, y, x, s, rfl⟩
  refine go_iload_n 3 d_Mo_makeStep_59 rfl rfl ?_
  refine go_iconst (v := 2) d_Mo_makeStep_60 rfl ?_
  refine go_icmp_eq 82 d_Mo_makeStep_61 rfl (fun hn => absurd hn (by decide)) (fun _ => ?_)
  refine go_iload_n 3 d_Mo_makeStep_64 rfl rfl ?_
  refine go_bipush (v := 10) d_Mo_makeStep_65 rfl ?_
  refine go_icmp_eq 82 d_Mo_makeStep_67 rfl (fun hn => absurd hn (by decide)) (fun _ => ?_)
  refine go_iload_n 3 d_Mo_makeStep_70 rfl rfl ?_
  refine go_bipush (v := 12) d_Mo_makeStep_71 rfl ?_
  refine go_icmp_eq 82 d_Mo_makeStep_73 rfl (fun hn => absurd hn (by decide)) (fun _ => ?_)
  refine go_iload_n 3 d_Mo_makeStep_76 rfl rfl ?_
  refine go_bipush (v := 14) d_Mo_makeStep_77 rfl ?_
  refine go_icmp_ne 86 d_Mo_makeStep_79 rfl (fun _ => ?_) (fun hn => by first | exact absurd hn (by decide) | exact absurd (by decide) hn)
  refine go_iload_n 3 d_Mo_makeStep_86 rfl rfl ?_
  refine go_iconst (v := 3) d_Mo_makeStep_87 rfl ?_
  refine go_icmp_eq 108 d_Mo_makeStep_88 rfl (fun hn => absurd hn (by decide)) (fun _ => ?_)
  refine go_iload_n 3 d_Mo_makeStep_91 rfl rfl ?_
  refine go_iconst (v := 4) d_Mo_makeStep_92 rfl ?_
  refine go_icmp_eq 108 d_Mo_makeStep_93 rfl (fun hn => absurd hn (by decide)) (fun _ => ?_)
  refine go_iload_n 3 d_Mo_makeStep_96 rfl rfl ?_
  refine go_bipush (v := 8) d_Mo_makeStep_97 rfl ?_
  refine go_icmp_eq 108 d_Mo_makeStep_99 rfl (fun _ => ?_) (fun hn => absurd (by decide) hn)
  refine go_iconst (v := 2) d_Mo_makeStep_108 rfl ?_
  refine go_goto 123 d_Mo_makeStep_109 rfl ?_
  refine go_istore d_Mo_makeStep_123 (Nat.le_of_ble_eq_true rfl) ?_
  refine go_iload_n 3 d_Mo_makeStep_125 rfl rfl ?_
  refine go_iconst (v := 1) d_Mo_makeStep_126 rfl ?_
  refine go_icmp_le 136 d_Mo_makeStep_127 rfl (fun hn => absurd hn (by decide)) (fun _ => ?_)
  refine go_iload_n 3 d_Mo_makeStep_130 rfl rfl ?_
  refine go_bipush (v := 13) d_Mo_makeStep_131 rfl ?_
  refine go_icmp_ne 140 d_Mo_makeStep_133 rfl (fun _ => ?_) (fun hn => by first | exact absurd hn (by decide) | exact absurd (by decide) hn)
  refine go_iconst (v := 0) d_Mo_makeStep_140 rfl ?_
  refine go_istore d_Mo_makeStep_141 (Nat.le_of_ble_eq_true rfl) ?_
  refine go_aload_n 0 d_Mo_makeStep_143 rfl rfl ?_
  refine go_getR d_Mo_makeStep_144 f_Mo_75 (by assumption) (by assumption) ?_
  refine go_iload_n 1 d_Mo_makeStep_147 rfl rfl ?_
  refine go_iald (i) d_Mo_makeStep_148 (by assumption) (rfl) (hi) (by decide) ?_
  rw [show Is 555 i = nI st.length from fs.2.2.1]
  refine go_iload d_Mo_makeStep_149 rfl ?_
  refine go_icmp_lt 193 d_Mo_makeStep_151 rfl (fun h151 => ?_) (fun h151 => ?_)
  · refine go_iconst (v := 3) d_Mo_makeStep_193 rfl ?_
    exact go_iret d_Mo_makeStep_194 rfl (fin3 (by first | exact Or.inl ((nI_ltI (b := 2) (by omega) (by decide)).mp h151) | exact Or.inr (Or.inl (by have e6 := (nI_eq (b := 6) (by omega) (by decide)).mp h167; show 6 < st.length - 2 + 0; omega)) | exact Or.inr (Or.inr (Or.inl ⟨(by decide), fun ⟨j, hj, e⟩ => absurd h190 (k1.mpr (by rw [e]; exact m4 hj))⟩))))
  · refine go_iload d_Mo_makeStep_154 rfl ?_
    refine go_if_eq 170 d_Mo_makeStep_156 rfl (fun _ => ?_) (fun hn => absurd (by decide) hn)
    refine go_iload_n 3 d_Mo_makeStep_170 rfl rfl ?_
    refine go_iconst (v := 1) d_Mo_makeStep_171 rfl ?_
    refine go_icmp_eq 180 d_Mo_makeStep_172 rfl (fun hn => absurd hn (by decide)) (fun _ => ?_)
    refine go_iload_n 3 d_Mo_makeStep_175 rfl rfl ?_
    refine go_iconst (v := 2) d_Mo_makeStep_176 rfl ?_
    refine go_icmp_ne 195 d_Mo_makeStep_177 rfl (fun _ => ?_) (fun hn => by first | exact absurd hn (by decide) | exact absurd (by decide) hn)
    have ncr : ¬ rn_cr (fun j => (U j).1.length) 8 nn m st.length := fun hh => by rcases hh with hh | hh | ⟨hh, hh2⟩ | ⟨hh, hh2⟩; (exact h151 ((nI_ltI (b := 2) (by omega) (by decide)).mpr hh)); (have hh' : 6 < st.length - 2 + 0 := hh; omega); (rcases hh with hh | hh <;> exact absurd hh (by decide)); exact absurd hh (by decide)
    refine go_iload_n 3 d_Mo_makeStep_195 rfl rfl ?_
    refine go_bipush (v := 11) d_Mo_makeStep_196 rfl ?_
    refine go_icmp_ne 244 d_Mo_makeStep_198 rfl (fun _ => ?_) (fun hn => by first | exact absurd hn (by decide) | exact absurd (by decide) hn)
    refine go_iload_n 3 d_Mo_makeStep_244 rfl rfl ?_
    refine go_bipush (v := 11) d_Mo_makeStep_245 rfl ?_
    refine go_icmp_ne 285 d_Mo_makeStep_247 rfl (fun _ => ?_) (fun hn => by first | exact absurd hn (by decide) | exact absurd (by decide) hn)
    refine go_iload_n 3 d_Mo_makeStep_285 rfl rfl ?_
    refine go_bipush (v := 12) d_Mo_makeStep_286 rfl ?_
    refine go_icmp_ne 297 d_Mo_makeStep_288 rfl (fun _ => ?_) (fun hn => by first | exact absurd hn (by decide) | exact absurd (by decide) hn)
    refine go_iload_n 3 d_Mo_makeStep_297 rfl rfl ?_
    refine go_bipush (v := 7) d_Mo_makeStep_298 rfl ?_
    refine go_icmp_ne 308 d_Mo_makeStep_300 rfl (fun _ => ?_) (fun hn => by first | exact absurd hn (by decide) | exact absurd (by decide) hn)
    refine go_iload_n 3 d_Mo_makeStep_308 rfl rfl ?_
    refine go_bipush (v := 8) d_Mo_makeStep_309 rfl ?_
    refine go_icmp_eq 320 d_Mo_makeStep_311 rfl (fun _ => ?_) (fun hn => absurd (by decide) hn)
    obtain ⟨y, x, st1, rfl⟩ : ∃ y x s, st = y :: x :: s := two (Classical.byContradiction (fun hh => ncr (Or.inl (Nat.lt_of_not_le hh))))
    refine go_aload_n 0 d_Mo_makeStep_320 rfl rfl ?_
    refine go_iload_n 1 d_Mo_makeStep_321 rfl rfl ?_
    refine go_iload_n 3 d_Mo_makeStep_322 rfl rfl ?_
    refine go_bipush (v := 8) d_Mo_makeStep_323 rfl ?_
    refine go_icmp_ne 332 d_Mo_makeStep_325 rfl (fun hn => absurd hn (by decide)) (fun _ => ?_)
    refine go_iconst (v := 1) d_Mo_makeStep_328 rfl ?_
    refine go_goto 333 d_Mo_makeStep_329 rfl ?_
    refine go_iload d_Mo_makeStep_333 rfl ?_
    refine go_V3 d_Mo_makeStep_335 k_Mo_273 (by assumption) (Nat.le_of_ble_eq_true rfl) (c_Mo_choose true hp0 hi fs (fun I0 c1 c2 c3 => ?_))
    refine go_goto 349 d_Mo_makeStep_338 rfl ?_
    refine go_istore d_Mo_makeStep_349 (Nat.le_of_ble_eq_true rfl) ?_
    refine go_aload_n 0 d_Mo_makeStep_351 rfl rfl ?_
    refine go_iload_n 1 d_Mo_makeStep_352 rfl rfl ?_
    refine go_iload_n 3 d_Mo_makeStep_353 rfl rfl ?_
    refine go_iload d_Mo_makeStep_354 rfl ?_
    refine go_V3 d_Mo_makeStep_356 k_Mo_276 (by assumption) (Nat.le_of_ble_eq_true rfl) (c_Mo_work (k := 8) (inp := inp) (u := u) (t := t) (wd := wd) hp0 hi c1 (by decide) (by decide) (Or.inr (Or.inl rfl)) (fun hh => absurd hh (by decide)) (fun hh => absurd hh (by decide)) (hus.kept (Nat.le_refl _) (by rw [c3 _ (by decide), hIs0 _ (by decide)]) (by rw [c3 _ (by decide), hIs0 _ (by decide)]) (by rw [c3 _ (by decide), hIs1 _ (by decide)])) (by omega) (by rw [c3 _ (by decide), hIs0 _ (by decide)]; exact hwd) (fun st' loc' u' wd' I1 e1 e2 e3 e4 e5 e6 e7 => ?_) (fun e1 I1 e2 e3 => by cases e1))
    cases e1
    refine go_if_ne 364 d_Mo_makeStep_359 rfl (fun _ => ?_) (fun hn => by first | exact absurd hn (by decide) | exact absurd (by decide) hn)
    exact done _ _ _ _ _ I1 _ _ _ _ rfl ncr (mf_fr.pl e2) (fun i' hi' => (c2 i' hi').trans (e3 i' hi')) e4 e5 (fun j h1 h2 => by rw [e6 j h1 h2, c3 _ (by decide)]) (fun q' h1 h2 => by rw [e7 q' h1 (by omega) (by omega) (by omega), c3 q' (by omega), hIs1 q' h1])
theorem c_Mo_mk_9 (hp : pt_Mo sh R) (hc : mc_at I U) (hm : m < 4) (hml : m + rest.length < 4) (hiv : rn_iv m rest) (hrest : mf_rest I rest) (hi0 : rest.length = i) (hi : i < 4) (h27 : I 533 27 = nI (i + 1)) (hus : us_at I inp u t) (ht : t ≤ 3000) (hwd : I 533 30 = wd) (h31 : I 533 31 = dp) (hle : ∀ j, j < 4 → (U j).1.length ≤ 24) (hql : q < 24)
    (hIs0 : ∀ j, j ≠ 29 → Is 533 j = I 533 j) (hIs29 : Is 533 29 = I 533 29 + 1) (hIs1 : ∀ q, q ≠ 533 → Is q = I q) (hIsf : ∀ i', mf_eq I Is i') (fs : mf_fr Is i (nI q) (m, nI q, st, loc)) (hrests : mf_rest Is rest) (hcs : mc_at Is U) (hsz : ∀ j, j < 4 → Is 534 j = nI (U j).1.length) (hst6 : st.length ≤ 6) (hq : ((fun j => (U j).1) m)[q]? = some (9, nn) ∧ ((fun j => (U j).1) m).length ≤ 24)
    (fin3 : rn_cr (fun j => (U j).1.length) 9 nn m st.length → Q (some (.int 3)) (n, sh, X, R, Is, L))
    (done : ∀ (to : Int32) (st' : List Int32) (loc' : Nat → Int32) (u' : Nat) (wd' : Int32) (I1 : Nat → Nat → Int32) (o5 o6 o8 o9 : Option Value), rn_do inp 9 nn m (nI q + 1) st loc rest u wd dp = (0, ((m, to, st', loc') :: rest, u', wd', dp), 0) → ¬ rn_cr (fun j => (U j).1.length) 9 nn m st.length → mf_fr I1 i (nI q) (m, nI q, st', loc') → (∀ i', i' ≠ i → mf_eq Is I1 i') → us_at I1 inp u' (t + 1) → I1 533 30 = wd' → (∀ j, j ≠ 28 → j ≠ 30 → I1 533 j = Is 533 j) → (∀ q, q ≠ 533 → (q < 553 ∨ 558 ≤ q) → I1 q = I q) → gw_Go y_Mo_makeStep (d + 3) 0 0 364 [some (.ref 533), some (.int (nI i)), some (.int (nI m)), some (.int (nI 9)), some (.int nn), o5, o6, some (.int to), o8, o9] [] (n, sh, X, R, I1, L) Q)
    (hQ : ∀ I' r, r = rn_step (fun j => (U j).1) inp ((m, nI q, st, loc) :: rest, u, wd, dp) → ms_post inp t I I' r → Q (some (.int r.1)) (n, sh, X, R, I', L)) : gw_Go y_Mo_makeStep (d + 3) 0 0 59 [some (.ref 533), some (.int (nI i)), some (.int (nI m)), some (.int (nI 9)), some (.int nn), none, none, none, none, none] [] (n, sh, X, R, Is, L) Q := by
  have hp0 := hp
  obtain ⟨s533, s534, s535, s536, s537, s538, s539, s540, s541, s542, s543, s544, s545, s546, s547, s548, s549, s550, s551, s552, s553, s554, s555, s556, s557, r534, r535, r536, r537, r538, r539, r540, r541, r542, r543, r544, r545, r546, r547, r548, r549, r550, r551, r552, r553, r554, r555, r556, r557⟩ := hp
  have one : 1 ≤ st.length → ∃ v s, st = v :: s := fun h => by cases st with | nil => exact absurd h (by decide) | cons v s => exact ⟨v, s, rfl⟩
  have two : 2 ≤ st.length → ∃ y x s, st = y :: x :: s := fun h => by cases st with | nil => exact absurd h (by decide) | cons y s => cases s with | nil => exact absurd h (by simp) | cons x s => exact ⟨y, x, s, rfl⟩
  have three : 3 ≤ st.length → ∃ z y x s, st = z :: y :: x :: s := fun h => by cases st with | nil => exact absurd h (by decide) | cons z s => cases s with | nil => exact absurd h (by simp) | cons y s => cases s with | nil => exact absurd h (by simp) | cons x s => exact ⟨z, y, x, s, rfl⟩
  refine go_iload_n 3 d_Mo_makeStep_59 rfl rfl ?_
  refine go_iconst (v := 2) d_Mo_makeStep_60 rfl ?_
  refine go_icmp_eq 82 d_Mo_makeStep_61 rfl (fun hn => absurd hn (by decide)) (fun _ => ?_)
  refine go_iload_n 3 d_Mo_makeStep_64 rfl rfl ?_
  refine go_bipush (v := 10) d_Mo_makeStep_65 rfl ?_
  refine go_icmp_eq 82 d_Mo_makeStep_67 rfl (fun hn => absurd hn (by decide)) (fun _ => ?_)
  refine go_iload_n 3 d_Mo_makeStep_70 rfl rfl ?_
  refine go_bipush (v := 12) d_Mo_makeStep_71 rfl ?_
  refine go_icmp_eq 82 d_Mo_makeStep_73 rfl (fun hn => absurd hn (by decide)) (fun _ => ?_)
  refine go_iload_n 3 d_Mo_makeStep_76 rfl rfl ?_
  refine go_bipush (v := 14) d_Mo_makeStep_77 rfl ?_
  refine go_icmp_ne 86 d_Mo_makeStep_79 rfl (fun _ => ?_) (fun hn => by first | exact absurd hn (by decide) | exact absurd (by decide) hn)
  refine go_iload_n 3 d_Mo_makeStep_86 rfl rfl ?_
  refine go_iconst (v := 3) d_Mo_makeStep_87 rfl ?_
  refine go_icmp_eq 108 d_Mo_makeStep_88 rfl (fun hn => absurd hn (by decide)) (fun _ => ?_)
  refine go_iload_n 3 d_Mo_makeStep_91 rfl rfl ?_
  refine go_iconst (v := 4) d_Mo_makeStep_92 rfl ?_
  refine go_icmp_eq 108 d_Mo_makeStep_93 rfl (fun hn => absurd hn (by decide)) (fun _ => ?_)
  refine go_iload_n 3 d_Mo_makeStep_96 rfl rfl ?_
  refine go_bipush (v := 8) d_Mo_makeStep_97 rfl ?_
  refine go_icmp_eq 108 d_Mo_makeStep_99 rfl (fun hn => absurd hn (by decide)) (fun _ => ?_)
  refine go_iload_n 3 d_Mo_makeStep_102 rfl rfl ?_
  refine go_bipush (v := 9) d_Mo_makeStep_103 rfl ?_
  refine go_icmp_ne 112 d_Mo_makeStep_105 rfl (fun hn => absurd hn (by decide)) (fun _ => ?_)
  refine go_iconst (v := 2) d_Mo_makeStep_108 rfl ?_
  refine go_goto 123 d_Mo_makeStep_109 rfl ?_
  refine go_istore d_Mo_makeStep_123 (Nat.le_of_ble_eq_true rfl) ?_
  refine go_iload_n 3 d_Mo_makeStep_125 rfl rfl ?_
  refine go_iconst (v := 1) d_Mo_makeStep_126 rfl ?_
  refine go_icmp_le 136 d_Mo_makeStep_127 rfl (fun hn => absurd hn (by decide)) (fun _ => ?_)
  refine go_iload_n 3 d_Mo_makeStep_130 rfl rfl ?_
  refine go_bipush (v := 13) d_Mo_makeStep_131 rfl ?_
  refine go_icmp_ne 140 d_Mo_makeStep_133 rfl (fun _ => ?_) (fun hn => by first | exact absurd hn (by decide) | exact absurd (by decide) hn)
  refine go_iconst (v := 0) d_Mo_makeStep_140 rfl ?_
  refine go_istore d_Mo_makeStep_141 (Nat.le_of_ble_eq_true rfl) ?_
  refine go_aload_n 0 d_Mo_makeStep_143 rfl rfl ?_
  refine go_getR d_Mo_makeStep_144 f_Mo_75 (by assumption) (by assumption) ?_
  refine go_iload_n 1 d_Mo_makeStep_147 rfl rfl ?_
  refine go_iald (i) d_Mo_makeStep_148 (by assumption) (rfl) (hi) (by decide) ?_
  rw [show Is 555 i = nI st.length from fs.2.2.1]
  refine go_iload d_Mo_makeStep_149 rfl ?_
  refine go_icmp_lt 193 d_Mo_makeStep_151 rfl (fun h151 => ?_) (fun h151 => ?_)
  · refine go_iconst (v := 3) d_Mo_makeStep_193 rfl ?_
    exact go_iret d_Mo_makeStep_194 rfl (fin3 (by first | exact Or.inl ((nI_ltI (b := 2) (by omega) (by decide)).mp h151) | exact Or.inr (Or.inl (by have e6 := (nI_eq (b := 6) (by omega) (by decide)).mp h167; show 6 < st.length - 2 + 0; omega)) | exact Or.inr (Or.inr (Or.inl ⟨(by decide), fun ⟨j, hj, e⟩ => absurd h190 (k1.mpr (by rw [e]; exact m4 hj))⟩))))
  · refine go_iload d_Mo_makeStep_154 rfl ?_
    refine go_if_eq 170 d_Mo_makeStep_156 rfl (fun _ => ?_) (fun hn => absurd (by decide) hn)
    refine go_iload_n 3 d_Mo_makeStep_170 rfl rfl ?_
    refine go_iconst (v := 1) d_Mo_makeStep_171 rfl ?_
    refine go_icmp_eq 180 d_Mo_makeStep_172 rfl (fun hn => absurd hn (by decide)) (fun _ => ?_)
    refine go_iload_n 3 d_Mo_makeStep_175 rfl rfl ?_
    refine go_iconst (v := 2) d_Mo_makeStep_176 rfl ?_
    refine go_icmp_ne 195 d_Mo_makeStep_177 rfl (fun _ => ?_) (fun hn => by first | exact absurd hn (by decide) | exact absurd (by decide) hn)
    have ncr : ¬ rn_cr (fun j => (U j).1.length) 9 nn m st.length := fun hh => by rcases hh with hh | hh | ⟨hh, hh2⟩ | ⟨hh, hh2⟩; (exact h151 ((nI_ltI (b := 2) (by omega) (by decide)).mpr hh)); (have hh' : 6 < st.length - 2 + 0 := hh; omega); (rcases hh with hh | hh <;> exact absurd hh (by decide)); exact absurd hh (by decide)
    refine go_iload_n 3 d_Mo_makeStep_195 rfl rfl ?_
    refine go_bipush (v := 11) d_Mo_makeStep_196 rfl ?_
    refine go_icmp_ne 244 d_Mo_makeStep_198 rfl (fun _ => ?_) (fun hn => by first | exact absurd hn (by decide) | exact absurd (by decide) hn)
    refine go_iload_n 3 d_Mo_makeStep_244 rfl rfl ?_
    refine go_bipush (v := 11) d_Mo_makeStep_245 rfl ?_
    refine go_icmp_ne 285 d_Mo_makeStep_247 rfl (fun _ => ?_) (fun hn => by first | exact absurd hn (by decide) | exact absurd (by decide) hn)
    refine go_iload_n 3 d_Mo_makeStep_285 rfl rfl ?_
    refine go_bipush (v := 12) d_Mo_makeStep_286 rfl ?_
    refine go_icmp_ne 297 d_Mo_makeStep_288 rfl (fun _ => ?_) (fun hn => by first | exact absurd hn (by decide) | exact absurd (by decide) hn)
    refine go_iload_n 3 d_Mo_makeStep_297 rfl rfl ?_
    refine go_bipush (v := 7) d_Mo_makeStep_298 rfl ?_
    refine go_icmp_ne 308 d_Mo_makeStep_300 rfl (fun _ => ?_) (fun hn => by first | exact absurd hn (by decide) | exact absurd (by decide) hn)
    refine go_iload_n 3 d_Mo_makeStep_308 rfl rfl ?_
    refine go_bipush (v := 8) d_Mo_makeStep_309 rfl ?_
    refine go_icmp_eq 320 d_Mo_makeStep_311 rfl (fun hn => absurd hn (by decide)) (fun _ => ?_)
    refine go_iload_n 3 d_Mo_makeStep_314 rfl rfl ?_
    refine go_bipush (v := 9) d_Mo_makeStep_315 rfl ?_
    refine go_icmp_ne 341 d_Mo_makeStep_317 rfl (fun hn => absurd hn (by decide)) (fun _ => ?_)
    obtain ⟨y, x, st1, rfl⟩ : ∃ y x s, st = y :: x :: s := two (Classical.byContradiction (fun hh => ncr (Or.inl (Nat.lt_of_not_le hh))))
    refine go_aload_n 0 d_Mo_makeStep_320 rfl rfl ?_
    refine go_iload_n 1 d_Mo_makeStep_321 rfl rfl ?_
    refine go_iload_n 3 d_Mo_makeStep_322 rfl rfl ?_
    refine go_bipush (v := 8) d_Mo_makeStep_323 rfl ?_
    refine go_icmp_ne 332 d_Mo_makeStep_325 rfl (fun _ => ?_) (fun hn => by first | exact absurd hn (by decide) | exact absurd (by decide) hn)
    refine go_iconst (v := 0) d_Mo_makeStep_332 rfl ?_
    refine go_iload d_Mo_makeStep_333 rfl ?_
    refine go_V3 d_Mo_makeStep_335 k_Mo_273 (by assumption) (Nat.le_of_ble_eq_true rfl) (c_Mo_choose false hp0 hi fs (fun I0 c1 c2 c3 => ?_))
    refine go_goto 349 d_Mo_makeStep_338 rfl ?_
    refine go_istore d_Mo_makeStep_349 (Nat.le_of_ble_eq_true rfl) ?_
    refine go_aload_n 0 d_Mo_makeStep_351 rfl rfl ?_
    refine go_iload_n 1 d_Mo_makeStep_352 rfl rfl ?_
    refine go_iload_n 3 d_Mo_makeStep_353 rfl rfl ?_
    refine go_iload d_Mo_makeStep_354 rfl ?_
    refine go_V3 d_Mo_makeStep_356 k_Mo_276 (by assumption) (Nat.le_of_ble_eq_true rfl) (c_Mo_work (k := 9) (inp := inp) (u := u) (t := t) (wd := wd) hp0 hi c1 (by decide) (by decide) (Or.inr (Or.inr (Or.inl rfl))) (fun hh => absurd hh (by decide)) (fun hh => absurd hh (by decide)) (hus.kept (Nat.le_refl _) (by rw [c3 _ (by decide), hIs0 _ (by decide)]) (by rw [c3 _ (by decide), hIs0 _ (by decide)]) (by rw [c3 _ (by decide), hIs1 _ (by decide)])) (by omega) (by rw [c3 _ (by decide), hIs0 _ (by decide)]; exact hwd) (fun st' loc' u' wd' I1 e1 e2 e3 e4 e5 e6 e7 => ?_) (fun e1 I1 e2 e3 => by cases e1))
    cases e1
    refine go_if_ne 364 d_Mo_makeStep_359 rfl (fun _ => ?_) (fun hn => by first | exact absurd hn (by decide) | exact absurd (by decide) hn)
    exact done _ _ _ _ _ I1 _ _ _ _ rfl ncr (mf_fr.pl e2) (fun i' hi' => (c2 i' hi').trans (e3 i' hi')) e4 e5 (fun j h1 h2 => by rw [e6 j h1 h2, c3 _ (by decide)]) (fun q' h1 h2 => by rw [e7 q' h1 (by omega) (by omega) (by omega), c3 q' (by omega), hIs1 q' h1])
theorem c_Mo_mk_10 (hp : pt_Mo sh R) (hc : mc_at I U) (hm : m < 4) (hml : m + rest.length < 4) (hiv : rn_iv m rest) (hrest : mf_rest I rest) (hi0 : rest.length = i) (hi : i < 4) (h27 : I 533 27 = nI (i + 1)) (hus : us_at I inp u t) (ht : t ≤ 3000) (hwd : I 533 30 = wd) (h31 : I 533 31 = dp) (hle : ∀ j, j < 4 → (U j).1.length ≤ 24) (hql : q < 24)
    (hIs0 : ∀ j, j ≠ 29 → Is 533 j = I 533 j) (hIs29 : Is 533 29 = I 533 29 + 1) (hIs1 : ∀ q, q ≠ 533 → Is q = I q) (hIsf : ∀ i', mf_eq I Is i') (fs : mf_fr Is i (nI q) (m, nI q, st, loc)) (hrests : mf_rest Is rest) (hcs : mc_at Is U) (hsz : ∀ j, j < 4 → Is 534 j = nI (U j).1.length) (hst6 : st.length ≤ 6) (hq : ((fun j => (U j).1) m)[q]? = some (10, nn) ∧ ((fun j => (U j).1) m).length ≤ 24)
    (fin3 : rn_cr (fun j => (U j).1.length) 10 nn m st.length → Q (some (.int 3)) (n, sh, X, R, Is, L))
    (done : ∀ (to : Int32) (st' : List Int32) (loc' : Nat → Int32) (u' : Nat) (wd' : Int32) (I1 : Nat → Nat → Int32) (o5 o6 o8 o9 : Option Value), rn_do inp 10 nn m (nI q + 1) st loc rest u wd dp = (0, ((m, to, st', loc') :: rest, u', wd', dp), 0) → ¬ rn_cr (fun j => (U j).1.length) 10 nn m st.length → mf_fr I1 i (nI q) (m, nI q, st', loc') → (∀ i', i' ≠ i → mf_eq Is I1 i') → us_at I1 inp u' (t + 1) → I1 533 30 = wd' → (∀ j, j ≠ 28 → j ≠ 30 → I1 533 j = Is 533 j) → (∀ q, q ≠ 533 → (q < 553 ∨ 558 ≤ q) → I1 q = I q) → gw_Go y_Mo_makeStep (d + 3) 0 0 364 [some (.ref 533), some (.int (nI i)), some (.int (nI m)), some (.int (nI 10)), some (.int nn), o5, o6, some (.int to), o8, o9] [] (n, sh, X, R, I1, L) Q)
    (hQ : ∀ I' r, r = rn_step (fun j => (U j).1) inp ((m, nI q, st, loc) :: rest, u, wd, dp) → ms_post inp t I I' r → Q (some (.int r.1)) (n, sh, X, R, I', L)) : gw_Go y_Mo_makeStep (d + 3) 0 0 59 [some (.ref 533), some (.int (nI i)), some (.int (nI m)), some (.int (nI 10)), some (.int nn), none, none, none, none, none] [] (n, sh, X, R, Is, L) Q := by
  have hp0 := hp
  obtain ⟨s533, s534, s535, s536, s537, s538, s539, s540, s541, s542, s543, s544, s545, s546, s547, s548, s549, s550, s551, s552, s553, s554, s555, s556, s557, r534, r535, r536, r537, r538, r539, r540, r541, r542, r543, r544, r545, r546, r547, r548, r549, r550, r551, r552, r553, r554, r555, r556, r557⟩ := hp
  have one : 1 ≤ st.length → ∃ v s, st = v :: s := fun h => by cases st with | nil => exact absurd h (by decide) | cons v s => exact ⟨v, s, rfl⟩
  have two : 2 ≤ st.length → ∃ y x s, st = y :: x :: s := fun h => by cases st with | nil => exact absurd h (by decide) | cons y s => cases s with | nil => exact absurd h (by simp) | cons x s => exact ⟨y, x, s, rfl⟩
  have three : 3 ≤ st.length → ∃ z y x s, st = z :: y :: x :: s := fun h => by cases st with | nil => exact absurd h (by decide) | cons z s => cases s with | nil => exact absurd h (by simp) | cons y s => cases s with | nil => exact absurd h (by simp) | cons x s => exact ⟨z, y, x, s, rfl⟩
  refine go_iload_n 3 d_Mo_makeStep_59 rfl rfl ?_
  refine go_iconst (v := 2) d_Mo_makeStep_60 rfl ?_
  refine go_icmp_eq 82 d_Mo_makeStep_61 rfl (fun hn => absurd hn (by decide)) (fun _ => ?_)
  refine go_iload_n 3 d_Mo_makeStep_64 rfl rfl ?_
  refine go_bipush (v := 10) d_Mo_makeStep_65 rfl ?_
  refine go_icmp_eq 82 d_Mo_makeStep_67 rfl (fun _ => ?_) (fun hn => absurd (by decide) hn)
  refine go_iconst (v := 1) d_Mo_makeStep_82 rfl ?_
  refine go_goto 123 d_Mo_makeStep_83 rfl ?_
  refine go_istore d_Mo_makeStep_123 (Nat.le_of_ble_eq_true rfl) ?_
  refine go_iload_n 3 d_Mo_makeStep_125 rfl rfl ?_
  refine go_iconst (v := 1) d_Mo_makeStep_126 rfl ?_
  refine go_icmp_le 136 d_Mo_makeStep_127 rfl (fun hn => absurd hn (by decide)) (fun _ => ?_)
  refine go_iload_n 3 d_Mo_makeStep_130 rfl rfl ?_
  refine go_bipush (v := 13) d_Mo_makeStep_131 rfl ?_
  refine go_icmp_ne 140 d_Mo_makeStep_133 rfl (fun _ => ?_) (fun hn => by first | exact absurd hn (by decide) | exact absurd (by decide) hn)
  refine go_iconst (v := 0) d_Mo_makeStep_140 rfl ?_
  refine go_istore d_Mo_makeStep_141 (Nat.le_of_ble_eq_true rfl) ?_
  refine go_aload_n 0 d_Mo_makeStep_143 rfl rfl ?_
  refine go_getR d_Mo_makeStep_144 f_Mo_75 (by assumption) (by assumption) ?_
  refine go_iload_n 1 d_Mo_makeStep_147 rfl rfl ?_
  refine go_iald (i) d_Mo_makeStep_148 (by assumption) (rfl) (hi) (by decide) ?_
  rw [show Is 555 i = nI st.length from fs.2.2.1]
  refine go_iload d_Mo_makeStep_149 rfl ?_
  refine go_icmp_lt 193 d_Mo_makeStep_151 rfl (fun h151 => ?_) (fun h151 => ?_)
  · refine go_iconst (v := 3) d_Mo_makeStep_193 rfl ?_
    exact go_iret d_Mo_makeStep_194 rfl (fin3 (by first | exact Or.inl ((nI_ltI (b := 1) (by omega) (by decide)).mp h151) | exact Or.inr (Or.inl (by have e6 := (nI_eq (b := 6) (by omega) (by decide)).mp h167; show 6 < st.length - 1 + 0; omega)) | exact Or.inr (Or.inr (Or.inl ⟨(by decide), fun ⟨j, hj, e⟩ => absurd h190 (k1.mpr (by rw [e]; exact m4 hj))⟩))))
  · refine go_iload d_Mo_makeStep_154 rfl ?_
    refine go_if_eq 170 d_Mo_makeStep_156 rfl (fun _ => ?_) (fun hn => absurd (by decide) hn)
    refine go_iload_n 3 d_Mo_makeStep_170 rfl rfl ?_
    refine go_iconst (v := 1) d_Mo_makeStep_171 rfl ?_
    refine go_icmp_eq 180 d_Mo_makeStep_172 rfl (fun hn => absurd hn (by decide)) (fun _ => ?_)
    refine go_iload_n 3 d_Mo_makeStep_175 rfl rfl ?_
    refine go_iconst (v := 2) d_Mo_makeStep_176 rfl ?_
    refine go_icmp_ne 195 d_Mo_makeStep_177 rfl (fun _ => ?_) (fun hn => by first | exact absurd hn (by decide) | exact absurd (by decide) hn)
    have ncr : ¬ rn_cr (fun j => (U j).1.length) 10 nn m st.length := fun hh => by rcases hh with hh | hh | ⟨hh, hh2⟩ | ⟨hh, hh2⟩; (exact h151 ((nI_ltI (b := 1) (by omega) (by decide)).mpr hh)); (have hh' : 6 < st.length - 1 + 0 := hh; omega); (rcases hh with hh | hh <;> exact absurd hh (by decide)); exact absurd hh (by decide)
    refine go_iload_n 3 d_Mo_makeStep_195 rfl rfl ?_
    refine go_bipush (v := 11) d_Mo_makeStep_196 rfl ?_
    refine go_icmp_ne 244 d_Mo_makeStep_198 rfl (fun _ => ?_) (fun hn => by first | exact absurd hn (by decide) | exact absurd (by decide) hn)
    refine go_iload_n 3 d_Mo_makeStep_244 rfl rfl ?_
    refine go_bipush (v := 11) d_Mo_makeStep_245 rfl ?_
    refine go_icmp_ne 285 d_Mo_makeStep_247 rfl (fun _ => ?_) (fun hn => by first | exact absurd hn (by decide) | exact absurd (by decide) hn)
    refine go_iload_n 3 d_Mo_makeStep_285 rfl rfl ?_
    refine go_bipush (v := 12) d_Mo_makeStep_286 rfl ?_
    refine go_icmp_ne 297 d_Mo_makeStep_288 rfl (fun _ => ?_) (fun hn => by first | exact absurd hn (by decide) | exact absurd (by decide) hn)
    have hlen1 : 1 ≤ st.length := Classical.byContradiction (fun hh => ncr (Or.inl (Nat.lt_of_not_le hh)))
    refine go_iload_n 3 d_Mo_makeStep_297 rfl rfl ?_
    refine go_bipush (v := 7) d_Mo_makeStep_298 rfl ?_
    refine go_icmp_ne 308 d_Mo_makeStep_300 rfl (fun _ => ?_) (fun hn => by first | exact absurd hn (by decide) | exact absurd (by decide) hn)
    refine go_iload_n 3 d_Mo_makeStep_308 rfl rfl ?_
    refine go_bipush (v := 8) d_Mo_makeStep_309 rfl ?_
    refine go_icmp_eq 320 d_Mo_makeStep_311 rfl (fun hn => absurd hn (by decide)) (fun _ => ?_)
    refine go_iload_n 3 d_Mo_makeStep_314 rfl rfl ?_
    refine go_bipush (v := 9) d_Mo_makeStep_315 rfl ?_
    refine go_icmp_ne 341 d_Mo_makeStep_317 rfl (fun _ => ?_) (fun hn => by first | exact absurd hn (by decide) | exact absurd (by decide) hn)
    refine go_aload_n 0 d_Mo_makeStep_341 rfl rfl ?_
    refine go_getR d_Mo_makeStep_342 f_Mo_72 (by assumption) (by assumption) ?_
    refine go_iload_n 1 d_Mo_makeStep_345 rfl rfl ?_
    refine go_iald (i) d_Mo_makeStep_346 (by assumption) (rfl) (hi) (by decide) ?_
    rw [fs.2.1]
    refine go_iconst (v := 1) d_Mo_makeStep_347 rfl ?_
    refine go_iadd d_Mo_makeStep_348 ?_
    refine go_istore d_Mo_makeStep_349 (Nat.le_of_ble_eq_true rfl) ?_
    refine go_aload_n 0 d_Mo_makeStep_351 rfl rfl ?_
    refine go_iload_n 1 d_Mo_makeStep_352 rfl rfl ?_
    refine go_iload_n 3 d_Mo_makeStep_353 rfl rfl ?_
    refine go_iload d_Mo_makeStep_354 rfl ?_
    refine go_V3 d_Mo_makeStep_356 k_Mo_276 (by assumption) (Nat.le_of_ble_eq_true rfl) (c_Mo_work (k := 10) (inp := inp) (u := u) (t := t) (wd := wd) hp0 hi fs (by decide) (by decide) (Or.inr (Or.inr (Or.inr (Classical.byContradiction (fun hh => ncr (Or.inl (Nat.lt_of_not_le hh))))))) (fun hh => absurd hh (by decide)) (fun hh => absurd hh (by decide)) (hus.kept (Nat.le_refl _) (by rw [hIs0 _ (by decide)]) (by rw [hIs0 _ (by decide)]) (by rw [hIs1 _ (by decide)])) (by omega) (by rw [hIs0 _ (by decide)]; exact hwd) (fun st' loc' u' wd' I1 e1 e2 e3 e4 e5 e6 e7 => ?_) (fun e1 I1 e2 e3 => ?hno))
    case hno =>
      refine go_if_ne 364 d_Mo_makeStep_359 rfl (fun hn => absurd hn (by decide)) (fun _ => ?_)
      refine go_iconst (v := 2) d_Mo_makeStep_362 rfl ?_
      exact go_iret d_Mo_makeStep_363 rfl (hQ I1 (2, ([], u, wd, dp), 0) (by rw [rs_end hq ncr (r := (2, ([], u, wd, dp), 0)) (by rw [rn_wk (by decide) (by decide) (by first | exact Nat.zero_le _ | exact Classical.byContradiction (fun hh => ncr (Or.inl (Nat.lt_of_not_le hh)))), e1]) i_20]) ⟨fun hh => absurd hh i_20, by rw [e2 _ (by decide), hIs0 _ (by decide)]; exact hwd, by rw [e2 _ (by decide), hIs0 _ (by decide)]; exact h31, fun hh => absurd hh i_21, fun _ => ⟨by rw [e2 _ (by decide), hIs0 _ (by decide)], rfl⟩, by rw [e2 _ (by decide)]; exact hIs29, by rw [e2 _ (by decide), hIs0 _ (by decide)], fun q' h1 h2 => by rw [e3 q' h1 (by omega) (by omega) (by omega), hIs1 q' h1]⟩)
    refine go_if_ne 364 d_Mo_makeStep_359 rfl (fun _ => ?_) (fun hn => by first | exact absurd hn (by decide) | exact absurd (by decide) hn)
    exact done _ _ _ _ _ I1 _ _ _ _ (by rw [rn_wk (by decide) (by decide) (by first | exact Nat.zero_le _ | exact Classical.byContradiction (fun hh => ncr (Or.inl (Nat.lt_of_not_le hh)))), e1]) ncr (mf_fr.pl e2) e3 e4 e5 e6 (fun q' h1 h2 => by rw [e7 q' h1 (by omega) (by omega) (by omega), hIs1 q' h1])
theorem c_Mo_mk_11 (hp : pt_Mo sh R) (hc : mc_at I U) (hm : m < 4) (hml : m + rest.length < 4) (hiv : rn_iv m rest) (hrest : mf_rest I rest) (hi0 : rest.length = i) (hi : i < 4) (h27 : I 533 27 = nI (i + 1)) (hus : us_at I inp u t) (ht : t ≤ 3000) (hwd : I 533 30 = wd) (h31 : I 533 31 = dp) (hle : ∀ j, j < 4 → (U j).1.length ≤ 24) (hql : q < 24)
    (hIs0 : ∀ j, j ≠ 29 → Is 533 j = I 533 j) (hIs29 : Is 533 29 = I 533 29 + 1) (hIs1 : ∀ q, q ≠ 533 → Is q = I q) (hIsf : ∀ i', mf_eq I Is i') (fs : mf_fr Is i (nI q) (m, nI q, st, loc)) (hrests : mf_rest Is rest) (hcs : mc_at Is U) (hsz : ∀ j, j < 4 → Is 534 j = nI (U j).1.length) (hst6 : st.length ≤ 6) (hq : ((fun j => (U j).1) m)[q]? = some (11, nn) ∧ ((fun j => (U j).1) m).length ≤ 24)
    (fin3 : rn_cr (fun j => (U j).1.length) 11 nn m st.length → Q (some (.int 3)) (n, sh, X, R, Is, L))
    (done : ∀ (to : Int32) (st' : List Int32) (loc' : Nat → Int32) (u' : Nat) (wd' : Int32) (I1 : Nat → Nat → Int32) (o5 o6 o8 o9 : Option Value), rn_do inp 11 nn m (nI q + 1) st loc rest u wd dp = (0, ((m, to, st', loc') :: rest, u', wd', dp), 0) → ¬ rn_cr (fun j => (U j).1.length) 11 nn m st.length → mf_fr I1 i (nI q) (m, nI q, st', loc') → (∀ i', i' ≠ i → mf_eq Is I1 i') → us_at I1 inp u' (t + 1) → I1 533 30 = wd' → (∀ j, j ≠ 28 → j ≠ 30 → I1 533 j = Is 533 j) → (∀ q, q ≠ 533 → (q < 553 ∨ 558 ≤ q) → I1 q = I q) → gw_Go y_Mo_makeStep (d + 3) 0 0 364 [some (.ref 533), some (.int (nI i)), some (.int (nI m)), some (.int (nI 11)), some (.int nn), o5, o6, some (.int to), o8, o9] [] (n, sh, X, R, I1, L) Q)
    (hQ : ∀ I' r, r = rn_step (fun j => (U j).1) inp ((m, nI q, st, loc) :: rest, u, wd, dp) → ms_post inp t I I' r → Q (some (.int r.1)) (n, sh, X, R, I', L)) : gw_Go y_Mo_makeStep (d + 3) 0 0 59 [some (.ref 533), some (.int (nI i)), some (.int (nI m)), some (.int (nI 11)), some (.int nn), none, none, none, none, none] [] (n, sh, X, R, Is, L) Q := by
  have hp0 := hp
  obtain ⟨s533, s534, s535, s536, s537, s538, s539, s540, s541, s542, s543, s544, s545, s546, s547, s548, s549, s550, s551, s552, s553, s554, s555, s556, s557, r534, r535, r536, r537, r538, r539, r540, r541, r542, r543, r544, r545, r546, r547, r548, r549, r550, r551, r552, r553, r554, r555, r556, r557⟩ := hp
  have one : 1 ≤ st.length → ∃ v s, st = v :: s := fun h => by cases st with | nil => exact absurd h (by decide) | cons v s => exact ⟨v, s, rfl⟩
  have two : 2 ≤ st.length → ∃ y x s, st = y :: x :: s := fun h => by cases st with | nil => exact absurd h (by decide) | cons y s => cases s with | nil => exact absurd h (by simp) | cons x s => exact ⟨y, x, s, rfl⟩
  have three : 3 ≤ st.length → ∃ z y x s, st = z :: y :: x :: s := fun h => by cases st with | nil => exact absurd h (by decide) | cons z s => cases s with | nil => exact absurd h (by simp) | cons y s => cases s with | nil => exact absurd h (by simp) | cons x s => exact ⟨z, y, x, s, rfl⟩
  refine go_iload_n 3 d_Mo_makeStep_59 rfl rfl ?_
  refine go_iconst (v := 2) d_Mo_makeStep_60 rfl ?_
  refine go_icmp_eq 82 d_Mo_makeStep_61 rfl (fun hn => absurd hn (by decide)) (fun _ => ?_)
  refine go_iload_n 3 d_Mo_makeStep_64 rfl rfl ?_
  refine go_bipush (v := 10) d_Mo_makeStep_65 rfl ?_
  refine go_icmp_eq 82 d_Mo_makeStep_67 rfl (fun hn => absurd hn (by decide)) (fun _ => ?_)
  refine go_iload_n 3 d_Mo_makeStep_70 rfl rfl ?_
  refine go_bipush (v := 12) d_Mo_makeStep_71 rfl ?_
  refine go_icmp_eq 82 d_Mo_makeStep_73 rfl (fun hn => absurd hn (by decide)) (fun _ => ?_)
  refine go_iload_n 3 d_Mo_makeStep_76 rfl rfl ?_
  refine go_bipush (v := 14) d_Mo_makeStep_77 rfl ?_
  refine go_icmp_ne 86 d_Mo_makeStep_79 rfl (fun _ => ?_) (fun hn => by first | exact absurd hn (by decide) | exact absurd (by decide) hn)
  refine go_iload_n 3 d_Mo_makeStep_86 rfl rfl ?_
  refine go_iconst (v := 3) d_Mo_makeStep_87 rfl ?_
  refine go_icmp_eq 108 d_Mo_makeStep_88 rfl (fun hn => absurd hn (by decide)) (fun _ => ?_)
  refine go_iload_n 3 d_Mo_makeStep_91 rfl rfl ?_
  refine go_iconst (v := 4) d_Mo_makeStep_92 rfl ?_
  refine go_icmp_eq 108 d_Mo_makeStep_93 rfl (fun hn => absurd hn (by decide)) (fun _ => ?_)
  refine go_iload_n 3 d_Mo_makeStep_96 rfl rfl ?_
  refine go_bipush (v := 8) d_Mo_makeStep_97 rfl ?_
  refine go_icmp_eq 108 d_Mo_makeStep_99 rfl (fun hn => absurd hn (by decide)) (fun _ => ?_)
  refine go_iload_n 3 d_Mo_makeStep_102 rfl rfl ?_
  refine go_bipush (v := 9) d_Mo_makeStep_103 rfl ?_
  refine go_icmp_ne 112 d_Mo_makeStep_105 rfl (fun _ => ?_) (fun hn => by first | exact absurd hn (by decide) | exact absurd (by decide) hn)
  refine go_iload_n 3 d_Mo_makeStep_112 rfl rfl ?_
  refine go_bipush (v := 11) d_Mo_makeStep_113 rfl ?_
  refine go_icmp_ne 122 d_Mo_makeStep_115 rfl (fun hn => absurd hn (by decide)) (fun _ => ?_)
  refine go_iconst (v := 3) d_Mo_makeStep_118 rfl ?_
  refine go_goto 123 d_Mo_makeStep_119 rfl ?_
  refine go_istore d_Mo_makeStep_123 (Nat.le_of_ble_eq_true rfl) ?_
  refine go_iload_n 3 d_Mo_makeStep_125 rfl rfl ?_
  refine go_iconst (v := 1) d_Mo_makeStep_126 rfl ?_
  refine go_icmp_le 136 d_Mo_makeStep_127 rfl (fun hn => absurd hn (by decide)) (fun _ => ?_)
  refine go_iload_n 3 d_Mo_makeStep_130 rfl rfl ?_
  refine go_bipush (v := 13) d_Mo_makeStep_131 rfl ?_
  refine go_icmp_ne 140 d_Mo_makeStep_133 rfl (fun _ => ?_) (fun hn => by first | exact absurd hn (by decide) | exact absurd (by decide) hn)
  refine go_iconst (v := 0) d_Mo_makeStep_140 rfl ?_
  refine go_istore d_Mo_makeStep_141 (Nat.le_of_ble_eq_true rfl) ?_
  refine go_aload_n 0 d_Mo_makeStep_143 rfl rfl ?_
  refine go_getR d_Mo_makeStep_144 f_Mo_75 (by assumption) (by assumption) ?_
  refine go_iload_n 1 d_Mo_makeStep_147 rfl rfl ?_
  refine go_iald (i) d_Mo_makeStep_148 (by assumption) (rfl) (hi) (by decide) ?_
  rw [show Is 555 i = nI st.length from fs.2.2.1]
  refine go_iload d_Mo_makeStep_149 rfl ?_
  refine go_icmp_lt 193 d_Mo_makeStep_151 rfl (fun h151 => ?_) (fun h151 => ?_)
  · refine go_iconst (v := 3) d_Mo_makeStep_193 rfl ?_
    exact go_iret d_Mo_makeStep_194 rfl (fin3 (by first | exact Or.inl ((nI_ltI (b := 3) (by omega) (by decide)).mp h151) | exact Or.inr (Or.inl (by have e6 := (nI_eq (b := 6) (by omega) (by decide)).mp h167; show 6 < st.length - 3 + 1; omega)) | exact Or.inr (Or.inr (Or.inl ⟨(by decide), fun ⟨j, hj, e⟩ => absurd h190 (k1.mpr (by rw [e]; exact m4 hj))⟩))))
  · refine go_iload d_Mo_makeStep_154 rfl ?_
    refine go_if_eq 170 d_Mo_makeStep_156 rfl (fun _ => ?_) (fun hn => absurd (by decide) hn)
    refine go_iload_n 3 d_Mo_makeStep_170 rfl rfl ?_
    refine go_iconst (v := 1) d_Mo_makeStep_171 rfl ?_
    refine go_icmp_eq 180 d_Mo_makeStep_172 rfl (fun hn => absurd hn (by decide)) (fun _ => ?_)
    refine go_iload_n 3 d_Mo_makeStep_175 rfl rfl ?_
    refine go_iconst (v := 2) d_Mo_makeStep_176 rfl ?_
    refine go_icmp_ne 195 d_Mo_makeStep_177 rfl (fun _ => ?_) (fun hn => by first | exact absurd hn (by decide) | exact absurd (by decide) hn)
    refine go_iload_n 3 d_Mo_makeStep_195 rfl rfl ?_
    refine go_bipush (v := 11) d_Mo_makeStep_196 rfl ?_
    refine go_icmp_ne 244 d_Mo_makeStep_198 rfl (fun hn => absurd hn (by decide)) (fun _ => ?_)
    refine go_iload d_Mo_makeStep_201 rfl ?_
    refine go_i2l d_Mo_makeStep_203 (rfl) ?_
    refine go_lconst (v := 0) d_Mo_makeStep_204 rfl ?_
    refine go_iload_n 2 d_Mo_makeStep_205 rfl rfl ?_
    refine go_iconst (v := 1) d_Mo_makeStep_206 rfl ?_
    refine go_isub d_Mo_makeStep_207 ?_
    refine go_i2l d_Mo_makeStep_208 (rfl) ?_
    refine go_S3 d_Mo_makeStep_209 k_Mo_86 (Nat.le_of_ble_eq_true rfl) (c_Mo_in (l := 0) (h := nI m - 1) rfl rfl (fun b1 k1 z1 => ?_))
    refine go_if_eq 242 d_Mo_makeStep_212 rfl (fun h212 => ?_) (fun h212 => ?_)
    · refine go_iconst (v := 3) d_Mo_makeStep_242 rfl ?_
      exact go_iret d_Mo_makeStep_243 rfl (fin3 (by first | exact Or.inr (Or.inr (Or.inr ⟨rfl, fun ⟨j', hj', e, _⟩ => absurd h212 (k1.mpr (len_in (by omega) hj' e))⟩)) | exact Or.inr (Or.inr (Or.inr ⟨rfl, fun ⟨j', hj', e, hl⟩ => by (have ej := (nI_eq (by omega) (by omega)).mp (hnn.symm.trans e); subst ej; exact hl ((nI_eq (a := (U j).1.length) (b := 0) (by have := hle j (by omega); omega) (by decide)).mp h239))⟩))))
    · obtain ⟨j, hj, hnn⟩ : ∃ j, j < m ∧ nn = nI j := in_len (by omega) (k1.mp h212)
      refine go_aload_n 0 d_Mo_makeStep_215 rfl rfl ?_
      refine go_getR d_Mo_makeStep_216 f_Mo_7 (by assumption) (by assumption) ?_
      refine go_iload d_Mo_makeStep_219 rfl ?_
      refine go_i2l d_Mo_makeStep_221 (rfl) ?_
      refine go_lconst (v := 0) d_Mo_makeStep_222 rfl ?_
      refine go_ldc2 d_Mo_makeStep_223 i_Mo_84 ?_
      refine go_S3 d_Mo_makeStep_226 k_Mo_86 (Nat.le_of_ble_eq_true rfl) (c_Mo_in (l := 0) (h := 3) rfl rfl (fun b2 k2 z2 => ?_))
      refine go_if_eq 237 d_Mo_makeStep_229 rfl (fun hn => absurd hn (k2.mpr (by rw [hnn]; exact m4 (by omega)))) (fun _ => ?_)
      refine go_iload d_Mo_makeStep_232 rfl ?_
      refine go_goto 238 d_Mo_makeStep_234 rfl ?_
      refine go_iald (j) d_Mo_makeStep_238 (by assumption) (hnn) (by omega) (by decide) ?_
      rw [hsz j (by omega)]
      refine go_if_ne 244 d_Mo_makeStep_239 rfl (fun h239 => ?_) (fun h239 => ?_)
      · refine go_iload_n 3 d_Mo_makeStep_244 rfl rfl ?_
        refine go_bipush (v := 11) d_Mo_makeStep_245 rfl ?_
        refine go_icmp_ne 285 d_Mo_makeStep_247 rfl (fun hn => absurd hn (by decide)) (fun _ => ?_)
        have ncr : ¬ rn_cr (fun j => (U j).1.length) 11 nn m st.length := fun hh => by rcases hh with hh | hh | ⟨hh, hh2⟩ | ⟨hh, hh2⟩; (exact h151 ((nI_ltI (b := 3) (by omega) (by decide)).mpr hh)); (have hh' : 6 < st.length - 3 + 1 := hh; omega); (rcases hh with hh | hh <;> exact absurd hh (by decide)); exact hh2 ⟨j, hj, hnn, fun e => h239 (by rw [show (U j).1.length = 0 from e]; rfl)⟩
        obtain ⟨z, y, x, st1, rfl⟩ : ∃ z y x s, st = z :: y :: x :: s := three (Classical.byContradiction (fun hh => ncr (Or.inl (Nat.lt_of_not_le hh))))
        refine go_aload_n 0 d_Mo_makeStep_250 rfl rfl ?_
        refine go_iload_n 1 d_Mo_makeStep_251 rfl rfl ?_
        refine go_V1 d_Mo_makeStep_252 k_Mo_267 (by assumption) (Nat.le_of_ble_eq_true rfl) (c_Mo_take hp0 hi fs (fun I1 f1 f2 f3 => ?_))
        refine go_istore d_Mo_makeStep_255 (Nat.le_of_ble_eq_true rfl) ?_
        refine go_aload_n 0 d_Mo_makeStep_257 rfl rfl ?_
        refine go_iload_n 1 d_Mo_makeStep_258 rfl rfl ?_
        refine go_V1 d_Mo_makeStep_259 k_Mo_267 (by assumption) (Nat.le_of_ble_eq_true rfl) (c_Mo_take hp0 hi f1 (fun I2 g1 g2 g3 => ?_))
        refine go_istore d_Mo_makeStep_262 (Nat.le_of_ble_eq_true rfl) ?_
        refine go_aload_n 0 d_Mo_makeStep_264 rfl rfl ?_
        refine go_iload_n 1 d_Mo_makeStep_265 rfl rfl ?_
        refine go_V1 d_Mo_makeStep_266 k_Mo_267 (by assumption) (Nat.le_of_ble_eq_true rfl) (c_Mo_take hp0 hi g1 (fun I3 e1 e2 e3 => ?_))
        refine go_istore d_Mo_makeStep_269 (Nat.le_of_ble_eq_true rfl) ?_
        refine go_aload_n 0 d_Mo_makeStep_271 rfl rfl ?_
        refine go_iload d_Mo_makeStep_272 rfl ?_
        refine go_iload d_Mo_makeStep_274 rfl ?_
        refine go_iload d_Mo_makeStep_276 rfl ?_
        refine go_iload d_Mo_makeStep_278 rfl ?_
        rw [hnn]
        have w3 : ∀ q, q ≠ 555 → I3 q = Is q := fun q hq => by rw [e3 q hq, g3 q hq, f3 q hq]
        refine go_V4 d_Mo_makeStep_280 k_Mo_259 (by assumption) (Nat.le_of_ble_eq_true rfl) (c_Mo_enter (fl := i + 1) (dp := dp) hp0 (by omega) (by rw [w3 _ (by decide), hIs0 _ (by decide)]; exact h27) (by rw [w3 _ (by decide), hIs0 _ (by decide)]; exact h31) (fun I4 c1 c2 c3 c4 c5 c6 => ?_))
        refine go_iconst (v := 0) d_Mo_makeStep_283 rfl ?_
        exact go_iret d_Mo_makeStep_284 rfl (hQ I4 (0, ((j, 0, [], ar_v x y z) :: (m, nI q + 1, st1, loc) :: rest, u, wd, if dp < nI (rest.length + 2) then nI (rest.length + 2) else dp), 0) (by rw [rs_go hq ncr (r := (0, ((j, 0, [], ar_v x y z) :: (m, nI q + 1, st1, loc) :: rest, u, wd, if dp < nI (rest.length + 2) then nI (rest.length + 2) else dp), 0)) (by rw [hnn]; show (0, ((((nI j).toNatClampNeg, 0, [], ar_v x y z) :: (m, nI q + 1, st1, loc) :: rest), u, wd, _), 0) = _; rw [nI_clamp (by omega)]) rfl rfl ⟨0, Nat.pos_of_ne_zero (fun e => h239 (by rw [e]; rfl)), rfl⟩]) ⟨fun _ => ⟨⟨_, _, rfl, by show mf_fr I4 (rest.length + 1) 0 _; rw [hi0]; exact c1, ⟨⟨by show mf_fr I4 rest.length (nI q + 1 - 1) _; rw [hi0, Int32.add_sub_cancel]; exact (mf_fr.pl e1).ptw (c2 i (by omega)), q + 1, by omega, nI_1 q⟩, (hrest.ptw (fun i' hi' => (((hIsf i').trans (f2 i' (by omega))).trans (g2 i' (by omega))).trans ((e2 i' (by omega)).trans (c2 i' (by omega)))))⟩, by show _ = nI (rest.length + 1 + 1); rw [hi0]; exact c3⟩, (hus.kept (by omega) (by rw [c5 _ (by decide) (by decide), w3 _ (by decide), hIs0 _ (by decide)]) (by rw [c5 _ (by decide) (by decide), w3 _ (by decide), hIs0 _ (by decide)]) (by rw [c6 _ (by decide) (by decide), w3 _ (by decide), hIs1 _ (by decide)]))⟩, by rw [c5 _ (by decide) (by decide), w3 _ (by decide), hIs0 _ (by decide)]; exact hwd, by rw [c4]; show (if dp < nI (i + 1 + 1) then nI (i + 1 + 1) else dp) = (if dp < nI (rest.length + 2) then nI (rest.length + 2) else dp); rw [← hi0], fun hh => absurd hh i_01, fun _ => ⟨by rw [c5 _ (by decide) (by decide), w3 _ (by decide), hIs0 _ (by decide)], rfl⟩, by rw [c5 _ (by decide) (by decide), w3 _ (by decide)]; exact hIs29, by rw [c5 _ (by decide) (by decide), w3 _ (by decide), hIs0 _ (by decide)], fun q' h1 h2 => by rw [c6 q' h1 (by omega), w3 q' (by omega), hIs1 q' h1]⟩)
      · refine go_iconst (v := 3) d_Mo_makeStep_242 rfl ?_
        exact go_iret d_Mo_makeStep_243 rfl (fin3 (by first | exact Or.inr (Or.inr (Or.inr ⟨rfl, fun ⟨j', hj', e, _⟩ => absurd h212 (k1.mpr (len_in (by omega) hj' e))⟩)) | exact Or.inr (Or.inr (Or.inr ⟨rfl, fun ⟨j', hj', e, hl⟩ => by (have ej := (nI_eq (by omega) (by omega)).mp (hnn.symm.trans e); subst ej; exact hl ((nI_eq (a := (U j).1.length) (b := 0) (by have := hle j (by omega); omega) (by decide)).mp h239))⟩))))
theorem c_Mo_mk_12 (hp : pt_Mo sh R) (hc : mc_at I U) (hm : m < 4) (hml : m + rest.length < 4) (hiv : rn_iv m rest) (hrest : mf_rest I rest) (hi0 : rest.length = i) (hi : i < 4) (h27 : I 533 27 = nI (i + 1)) (hus : us_at I inp u t) (ht : t ≤ 3000) (hwd : I 533 30 = wd) (h31 : I 533 31 = dp) (hle : ∀ j, j < 4 → (U j).1.length ≤ 24) (hql : q < 24)
    (hIs0 : ∀ j, j ≠ 29 → Is 533 j = I 533 j) (hIs29 : Is 533 29 = I 533 29 + 1) (hIs1 : ∀ q, q ≠ 533 → Is q = I q) (hIsf : ∀ i', mf_eq I Is i') (fs : mf_fr Is i (nI q) (m, nI q, st, loc)) (hrests : mf_rest Is rest) (hcs : mc_at Is U) (hsz : ∀ j, j < 4 → Is 534 j = nI (U j).1.length) (hst6 : st.length ≤ 6) (hq : ((fun j => (U j).1) m)[q]? = some (12, nn) ∧ ((fun j => (U j).1) m).length ≤ 24)
    (fin3 : rn_cr (fun j => (U j).1.length) 12 nn m st.length → Q (some (.int 3)) (n, sh, X, R, Is, L))
    (done : ∀ (to : Int32) (st' : List Int32) (loc' : Nat → Int32) (u' : Nat) (wd' : Int32) (I1 : Nat → Nat → Int32) (o5 o6 o8 o9 : Option Value), rn_do inp 12 nn m (nI q + 1) st loc rest u wd dp = (0, ((m, to, st', loc') :: rest, u', wd', dp), 0) → ¬ rn_cr (fun j => (U j).1.length) 12 nn m st.length → mf_fr I1 i (nI q) (m, nI q, st', loc') → (∀ i', i' ≠ i → mf_eq Is I1 i') → us_at I1 inp u' (t + 1) → I1 533 30 = wd' → (∀ j, j ≠ 28 → j ≠ 30 → I1 533 j = Is 533 j) → (∀ q, q ≠ 533 → (q < 553 ∨ 558 ≤ q) → I1 q = I q) → gw_Go y_Mo_makeStep (d + 3) 0 0 364 [some (.ref 533), some (.int (nI i)), some (.int (nI m)), some (.int (nI 12)), some (.int nn), o5, o6, some (.int to), o8, o9] [] (n, sh, X, R, I1, L) Q)
    (hQ : ∀ I' r, r = rn_step (fun j => (U j).1) inp ((m, nI q, st, loc) :: rest, u, wd, dp) → ms_post inp t I I' r → Q (some (.int r.1)) (n, sh, X, R, I', L)) : gw_Go y_Mo_makeStep (d + 3) 0 0 59 [some (.ref 533), some (.int (nI i)), some (.int (nI m)), some (.int (nI 12)), some (.int nn), none, none, none, none, none] [] (n, sh, X, R, Is, L) Q := by
  have hp0 := hp
  obtain ⟨s533, s534, s535, s536, s537, s538, s539, s540, s541, s542, s543, s544, s545, s546, s547, s548, s549, s550, s551, s552, s553, s554, s555, s556, s557, r534, r535, r536, r537, r538, r539, r540, r541, r542, r543, r544, r545, r546, r547, r548, r549, r550, r551, r552, r553, r554, r555, r556, r557⟩ := hp
  have one : 1 ≤ st.length → ∃ v s, st = v :: s := fun h => by cases st with | nil => exact absurd h (by decide) | cons v s => exact ⟨v, s, rfl⟩
  have two : 2 ≤ st.length → ∃ y x s, st = y :: x :: s := fun h => by cases st with | nil => exact absurd h (by decide) | cons y s => cases s with | nil => exact absurd h (by simp) | cons x s => exact ⟨y, x, s, rfl⟩
  have three : 3 ≤ st.length → ∃ z y x s, st = z :: y :: x :: s := fun h => by cases st with | nil => exact absurd h (by decide) | cons z s => cases s with | nil => exact absurd h (by simp) | cons y s => cases s with | nil => exact absurd h (by simp) | cons x s => exact ⟨z, y, x, s, rfl⟩
  refine go_iload_n 3 d_Mo_makeStep_59 rfl rfl ?_
  refine go_iconst (v := 2) d_Mo_makeStep_60 rfl ?_
  refine go_icmp_eq 82 d_Mo_makeStep_61 rfl (fun hn => absurd hn (by decide)) (fun _ => ?_)
  refine go_iload_n 3 d_Mo_makeStep_64 rfl rfl ?_
  refine go_bipush (v := 10) d_Mo_makeStep_65 rfl ?_
  refine go_icmp_eq 82 d_Mo_makeStep_67 rfl (fun hn => absurd hn (by decide)) (fun _ => ?_)
  refine go_iload_n 3 d_Mo_makeStep_70 rfl rfl ?_
  refine go_bipush (v := 12) d_Mo_makeStep_71 rfl ?_
  refine go_icmp_eq 82 d_Mo_makeStep_73 rfl (fun _ => ?_) (fun hn => absurd (by decide) hn)
  refine go_iconst (v := 1) d_Mo_makeStep_82 rfl ?_
  refine go_goto 123 d_Mo_makeStep_83 rfl ?_
  refine go_istore d_Mo_makeStep_123 (Nat.le_of_ble_eq_true rfl) ?_
  refine go_iload_n 3 d_Mo_makeStep_125 rfl rfl ?_
  refine go_iconst (v := 1) d_Mo_makeStep_126 rfl ?_
  refine go_icmp_le 136 d_Mo_makeStep_127 rfl (fun hn => absurd hn (by decide)) (fun _ => ?_)
  refine go_iload_n 3 d_Mo_makeStep_130 rfl rfl ?_
  refine go_bipush (v := 13) d_Mo_makeStep_131 rfl ?_
  refine go_icmp_ne 140 d_Mo_makeStep_133 rfl (fun _ => ?_) (fun hn => by first | exact absurd hn (by decide) | exact absurd (by decide) hn)
  refine go_iconst (v := 0) d_Mo_makeStep_140 rfl ?_
  refine go_istore d_Mo_makeStep_141 (Nat.le_of_ble_eq_true rfl) ?_
  refine go_aload_n 0 d_Mo_makeStep_143 rfl rfl ?_
  refine go_getR d_Mo_makeStep_144 f_Mo_75 (by assumption) (by assumption) ?_
  refine go_iload_n 1 d_Mo_makeStep_147 rfl rfl ?_
  refine go_iald (i) d_Mo_makeStep_148 (by assumption) (rfl) (hi) (by decide) ?_
  rw [show Is 555 i = nI st.length from fs.2.2.1]
  refine go_iload d_Mo_makeStep_149 rfl ?_
  refine go_icmp_lt 193 d_Mo_makeStep_151 rfl (fun h151 => ?_) (fun h151 => ?_)
  · refine go_iconst (v := 3) d_Mo_makeStep_193 rfl ?_
    exact go_iret d_Mo_makeStep_194 rfl (fin3 (by first | exact Or.inl ((nI_ltI (b := 1) (by omega) (by decide)).mp h151) | exact Or.inr (Or.inl (by have e6 := (nI_eq (b := 6) (by omega) (by decide)).mp h167; show 6 < st.length - 1 + 0; omega)) | exact Or.inr (Or.inr (Or.inl ⟨(by decide), fun ⟨j, hj, e⟩ => absurd h190 (k1.mpr (by rw [e]; exact m4 hj))⟩))))
  · refine go_iload d_Mo_makeStep_154 rfl ?_
    refine go_if_eq 170 d_Mo_makeStep_156 rfl (fun _ => ?_) (fun hn => absurd (by decide) hn)
    refine go_iload_n 3 d_Mo_makeStep_170 rfl rfl ?_
    refine go_iconst (v := 1) d_Mo_makeStep_171 rfl ?_
    refine go_icmp_eq 180 d_Mo_makeStep_172 rfl (fun hn => absurd hn (by decide)) (fun _ => ?_)
    refine go_iload_n 3 d_Mo_makeStep_175 rfl rfl ?_
    refine go_iconst (v := 2) d_Mo_makeStep_176 rfl ?_
    refine go_icmp_ne 195 d_Mo_makeStep_177 rfl (fun _ => ?_) (fun hn => by first | exact absurd hn (by decide) | exact absurd (by decide) hn)
    have ncr : ¬ rn_cr (fun j => (U j).1.length) 12 nn m st.length := fun hh => by rcases hh with hh | hh | ⟨hh, hh2⟩ | ⟨hh, hh2⟩; (exact h151 ((nI_ltI (b := 1) (by omega) (by decide)).mpr hh)); (have hh' : 6 < st.length - 1 + 0 := hh; omega); (rcases hh with hh | hh <;> exact absurd hh (by decide)); exact absurd hh (by decide)
    refine go_iload_n 3 d_Mo_makeStep_195 rfl rfl ?_
    refine go_bipush (v := 11) d_Mo_makeStep_196 rfl ?_
    refine go_icmp_ne 244 d_Mo_makeStep_198 rfl (fun _ => ?_) (fun hn => by first | exact absurd hn (by decide) | exact absurd (by decide) hn)
    refine go_iload_n 3 d_Mo_makeStep_244 rfl rfl ?_
    refine go_bipush (v := 11) d_Mo_makeStep_245 rfl ?_
    refine go_icmp_ne 285 d_Mo_makeStep_247 rfl (fun _ => ?_) (fun hn => by first | exact absurd hn (by decide) | exact absurd (by decide) hn)
    refine go_iload_n 3 d_Mo_makeStep_285 rfl rfl ?_
    refine go_bipush (v := 12) d_Mo_makeStep_286 rfl ?_
    refine go_icmp_ne 297 d_Mo_makeStep_288 rfl (fun hn => absurd hn (by decide)) (fun _ => ?_)
    obtain ⟨v, st1, rfl⟩ : ∃ v s, st = v :: s := one (Classical.byContradiction (fun hh => ncr (Or.inl (Nat.lt_of_not_le hh))))
    cases rest with
    | nil =>
      have hi0' : i = 0 := hi0.symm
      subst hi0'
      refine go_aload_n 0 d_Mo_makeStep_291 rfl rfl ?_
      refine go_iload_n 1 d_Mo_makeStep_292 rfl rfl ?_
      refine go_V1 d_Mo_makeStep_293 k_Mo_270 (by assumption) (Nat.le_of_ble_eq_true rfl) (c_Mo_leave1 hp0 fs (fun I1 c1 c2 c3 => ?_))
      exact go_iret d_Mo_makeStep_296 rfl (hQ I1 (1, ([], u, wd, dp), v) (by rw [rs_end hq ncr (r := (1, ([], u, wd, dp), v)) rfl i_10]) ⟨fun hh => absurd hh i_10, by rw [c2 _ (by decide) (by decide), hIs0 _ (by decide)]; exact hwd, by rw [c2 _ (by decide) (by decide), hIs0 _ (by decide)]; exact h31, fun _ => c1, fun hh => absurd rfl hh, by rw [c2 _ (by decide) (by decide)]; exact hIs29, by rw [c2 _ (by decide) (by decide), hIs0 _ (by decide)], fun q' h1 h2 => by rw [c3 q' h1 (by omega), hIs1 q' h1]⟩)
    | cons g r2 =>
      obtain ⟨m2, p2, st2, loc2⟩ := g
      have hi0' : i = r2.length + 1 := hi0.symm
      subst hi0'
      have h6 : st2.length < 6 := hiv.2.1
      have hm2 : m2 < 4 := by have := rn_iv_lt hiv.2.2; dsimp only at this; omega
      obtain ⟨⟨hg, q2, hq2, hp2⟩, hr2⟩ := hrests
      refine go_aload_n 0 d_Mo_makeStep_291 rfl rfl ?_
      refine go_iload_n 1 d_Mo_makeStep_292 rfl rfl ?_
      refine go_V1 d_Mo_makeStep_293 k_Mo_270 (by assumption) (Nat.le_of_ble_eq_true rfl) (c_Mo_leave2 hp0 hcs (by omega) fs hg hr2 h6 hm2 hq2 hp2 (by rw [hIs0 _ (by decide)]; exact h27) (fun I1 b c1 c2 c3 c4 c5 c6 c7 => ?_))
      have hr : rn_do inp 12 nn m (nI q + 1) (v :: st1) loc ((m2, p2, st2, loc2) :: r2) u wd dp = (0, ((m2, p2, v :: st2, loc2) :: r2, u, wd, dp), 0) := rfl
      rcases c7 with c7 | c7
      · subst c7
        refine go_iret d_Mo_makeStep_296 rfl (hQ I1 _ (by rw [rs_go hq ncr hr rfl rfl (c6.mp rfl)]) ⟨fun _ => ⟨⟨_, _, rfl, c1, c2, c3⟩, (hus.kept (I' := I1) (t' := t + 1) (by omega) (by rw [c4 _ (by decide), hIs0 _ (by decide)]) (by rw [c4 _ (by decide), hIs0 _ (by decide)]) (by rw [c5 _ (by decide) (by decide), hIs1 _ (by decide)]))⟩, by rw [c4 _ (by decide), hIs0 _ (by decide)]; exact hwd, by rw [c4 _ (by decide), hIs0 _ (by decide)]; exact h31, fun hh => absurd hh i_01, fun _ => ⟨by rw [c4 _ (by decide), hIs0 _ (by decide)], rfl⟩, by rw [c4 _ (by decide)]; exact hIs29, by rw [c4 _ (by decide), hIs0 _ (by decide)], fun q' h1 h2 => by rw [c5 q' h1 (by omega), hIs1 q' h1]⟩)
      · subst c7
        refine go_iret d_Mo_makeStep_296 rfl (hQ I1 _ (by rw [rs_out hq ncr hr rfl rfl (fun hh => absurd (c6.mpr hh) (by decide))]) ⟨fun hh => absurd hh i_30, by rw [c4 _ (by decide), hIs0 _ (by decide)]; exact hwd, by rw [c4 _ (by decide), hIs0 _ (by decide)]; exact h31, fun hh => absurd hh i_31, fun _ => ⟨by rw [c4 _ (by decide), hIs0 _ (by decide)], rfl⟩, by rw [c4 _ (by decide)]; exact hIs29, by rw [c4 _ (by decide), hIs0 _ (by decide)], fun q' h1 h2 => by rw [c5 q' h1 (by omega), hIs1 q' h1]⟩)
theorem c_Mo_mk_13 (hp : pt_Mo sh R) (hc : mc_at I U) (hm : m < 4) (hml : m + rest.length < 4) (hiv : rn_iv m rest) (hrest : mf_rest I rest) (hi0 : rest.length = i) (hi : i < 4) (h27 : I 533 27 = nI (i + 1)) (hus : us_at I inp u t) (ht : t ≤ 3000) (hwd : I 533 30 = wd) (h31 : I 533 31 = dp) (hle : ∀ j, j < 4 → (U j).1.length ≤ 24) (hql : q < 24)
    (hIs0 : ∀ j, j ≠ 29 → Is 533 j = I 533 j) (hIs29 : Is 533 29 = I 533 29 + 1) (hIs1 : ∀ q, q ≠ 533 → Is q = I q) (hIsf : ∀ i', mf_eq I Is i') (fs : mf_fr Is i (nI q) (m, nI q, st, loc)) (hrests : mf_rest Is rest) (hcs : mc_at Is U) (hsz : ∀ j, j < 4 → Is 534 j = nI (U j).1.length) (hst6 : st.length ≤ 6) (hq : ((fun j => (U j).1) m)[q]? = some (13, nn) ∧ ((fun j => (U j).1) m).length ≤ 24)
    (fin3 : rn_cr (fun j => (U j).1.length) 13 nn m st.length → Q (some (.int 3)) (n, sh, X, R, Is, L))
    (done : ∀ (to : Int32) (st' : List Int32) (loc' : Nat → Int32) (u' : Nat) (wd' : Int32) (I1 : Nat → Nat → Int32) (o5 o6 o8 o9 : Option Value), rn_do inp 13 nn m (nI q + 1) st loc rest u wd dp = (0, ((m, to, st', loc') :: rest, u', wd', dp), 0) → ¬ rn_cr (fun j => (U j).1.length) 13 nn m st.length → mf_fr I1 i (nI q) (m, nI q, st', loc') → (∀ i', i' ≠ i → mf_eq Is I1 i') → us_at I1 inp u' (t + 1) → I1 533 30 = wd' → (∀ j, j ≠ 28 → j ≠ 30 → I1 533 j = Is 533 j) → (∀ q, q ≠ 533 → (q < 553 ∨ 558 ≤ q) → I1 q = I q) → gw_Go y_Mo_makeStep (d + 3) 0 0 364 [some (.ref 533), some (.int (nI i)), some (.int (nI m)), some (.int (nI 13)), some (.int nn), o5, o6, some (.int to), o8, o9] [] (n, sh, X, R, I1, L) Q)
    (hQ : ∀ I' r, r = rn_step (fun j => (U j).1) inp ((m, nI q, st, loc) :: rest, u, wd, dp) → ms_post inp t I I' r → Q (some (.int r.1)) (n, sh, X, R, I', L)) : gw_Go y_Mo_makeStep (d + 3) 0 0 59 [some (.ref 533), some (.int (nI i)), some (.int (nI m)), some (.int (nI 13)), some (.int nn), none, none, none, none, none] [] (n, sh, X, R, Is, L) Q := by
  have hp0 := hp
  obtain ⟨s533, s534, s535, s536, s537, s538, s539, s540, s541, s542, s543, s544, s545, s546, s547, s548, s549, s550, s551, s552, s553, s554, s555, s556, s557, r534, r535, r536, r537, r538, r539, r540, r541, r542, r543, r544, r545, r546, r547, r548, r549, r550, r551, r552, r553, r554, r555, r556, r557⟩ := hp
  have one : 1 ≤ st.length → ∃ v s, st = v :: s := fun h => by cases st with | nil => exact absurd h (by decide) | cons v s => exact ⟨v, s, rfl⟩
  have two : 2 ≤ st.length → ∃ y x s, st = y :: x :: s := fun h => by cases st with | nil => exact absurd h (by decide) | cons y s => cases s with | nil => exact absurd h (by simp) | cons x s => exact ⟨y, x, s, rfl⟩
  have three : 3 ≤ st.length → ∃ z y x s, st = z :: y :: x :: s := fun h => by cases st with | nil => exact absurd h (by decide) | cons z s => cases s with | nil => exact absurd h (by simp) | cons y s => cases s with | nil => exact absurd h (by simp) | cons x s => exact ⟨z, y, x, s, rfl⟩
  refine go_iload_n 3 d_Mo_makeStep_59 rfl rfl ?_
  refine go_iconst (v := 2) d_Mo_makeStep_60 rfl ?_
  refine go_icmp_eq 82 d_Mo_makeStep_61 rfl (fun hn => absurd hn (by decide)) (fun _ => ?_)
  refine go_iload_n 3 d_Mo_makeStep_64 rfl rfl ?_
  refine go_bipush (v := 10) d_Mo_makeStep_65 rfl ?_
  refine go_icmp_eq 82 d_Mo_makeStep_67 rfl (fun hn => absurd hn (by decide)) (fun _ => ?_)
  refine go_iload_n 3 d_Mo_makeStep_70 rfl rfl ?_
  refine go_bipush (v := 12) d_Mo_makeStep_71 rfl ?_
  refine go_icmp_eq 82 d_Mo_makeStep_73 rfl (fun hn => absurd hn (by decide)) (fun _ => ?_)
  refine go_iload_n 3 d_Mo_makeStep_76 rfl rfl ?_
  refine go_bipush (v := 14) d_Mo_makeStep_77 rfl ?_
  refine go_icmp_ne 86 d_Mo_makeStep_79 rfl (fun _ => ?_) (fun hn => by first | exact absurd hn (by decide) | exact absurd (by decide) hn)
  refine go_iload_n 3 d_Mo_makeStep_86 rfl rfl ?_
  refine go_iconst (v := 3) d_Mo_makeStep_87 rfl ?_
  refine go_icmp_eq 108 d_Mo_makeStep_88 rfl (fun hn => absurd hn (by decide)) (fun _ => ?_)
  refine go_iload_n 3 d_Mo_makeStep_91 rfl rfl ?_
  refine go_iconst (v := 4) d_Mo_makeStep_92 rfl ?_
  refine go_icmp_eq 108 d_Mo_makeStep_93 rfl (fun hn => absurd hn (by decide)) (fun _ => ?_)
  refine go_iload_n 3 d_Mo_makeStep_96 rfl rfl ?_
  refine go_bipush (v := 8) d_Mo_makeStep_97 rfl ?_
  refine go_icmp_eq 108 d_Mo_makeStep_99 rfl (fun hn => absurd hn (by decide)) (fun _ => ?_)
  refine go_iload_n 3 d_Mo_makeStep_102 rfl rfl ?_
  refine go_bipush (v := 9) d_Mo_makeStep_103 rfl ?_
  refine go_icmp_ne 112 d_Mo_makeStep_105 rfl (fun _ => ?_) (fun hn => by first | exact absurd hn (by decide) | exact absurd (by decide) hn)
  refine go_iload_n 3 d_Mo_makeStep_112 rfl rfl ?_
  refine go_bipush (v := 11) d_Mo_makeStep_113 rfl ?_
  refine go_icmp_ne 122 d_Mo_makeStep_115 rfl (fun _ => ?_) (fun hn => by first | exact absurd hn (by decide) | exact absurd (by decide) hn)
  refine go_iconst (v := 0) d_Mo_makeStep_122 rfl ?_
  refine go_istore d_Mo_makeStep_123 (Nat.le_of_ble_eq_true rfl) ?_
  refine go_iload_n 3 d_Mo_makeStep_125 rfl rfl ?_
  refine go_iconst (v := 1) d_Mo_makeStep_126 rfl ?_
  refine go_icmp_le 136 d_Mo_makeStep_127 rfl (fun hn => absurd hn (by decide)) (fun _ => ?_)
  refine go_iload_n 3 d_Mo_makeStep_130 rfl rfl ?_
  refine go_bipush (v := 13) d_Mo_makeStep_131 rfl ?_
  refine go_icmp_ne 140 d_Mo_makeStep_133 rfl (fun hn => absurd hn (by decide)) (fun _ => ?_)
  refine go_iconst (v := 1) d_Mo_makeStep_136 rfl ?_
  refine go_goto 141 d_Mo_makeStep_137 rfl ?_
  refine go_istore d_Mo_makeStep_141 (Nat.le_of_ble_eq_true rfl) ?_
  refine go_aload_n 0 d_Mo_makeStep_143 rfl rfl ?_
  refine go_getR d_Mo_makeStep_144 f_Mo_75 (by assumption) (by assumption) ?_
  refine go_iload_n 1 d_Mo_makeStep_147 rfl rfl ?_
  refine go_iald (i) d_Mo_makeStep_148 (by assumption) (rfl) (hi) (by decide) ?_
  rw [show Is 555 i = nI st.length from fs.2.2.1]
  refine go_iload d_Mo_makeStep_149 rfl ?_
  refine go_icmp_lt 193 d_Mo_makeStep_151 rfl (fun hn => absurd hn (nI_pos (by have := fs.2.2.2.1; omega))) (fun _ => ?_)
  refine go_iload d_Mo_makeStep_154 rfl ?_
  refine go_if_eq 170 d_Mo_makeStep_156 rfl (fun hn => absurd hn (by decide)) (fun _ => ?_)
  refine go_aload_n 0 d_Mo_makeStep_159 rfl rfl ?_
  refine go_getR d_Mo_makeStep_160 f_Mo_75 (by assumption) (by assumption) ?_
  refine go_iload_n 1 d_Mo_makeStep_163 rfl rfl ?_
  refine go_iald (i) d_Mo_makeStep_164 (by assumption) (rfl) (hi) (by decide) ?_
  rw [show Is 555 i = nI st.length from fs.2.2.1]
  refine go_bipush (v := 6) d_Mo_makeStep_165 rfl ?_
  refine go_icmp_eq 193 d_Mo_makeStep_167 rfl (fun h167 => ?_) (fun h167 => ?_)
  · refine go_iconst (v := 3) d_Mo_makeStep_193 rfl ?_
    exact go_iret d_Mo_makeStep_194 rfl (fin3 (by first | exact Or.inl ((nI_ltI (b := 0) (by omega) (by decide)).mp h151) | exact Or.inr (Or.inl (by have e6 := (nI_eq (b := 6) (by omega) (by decide)).mp h167; show 6 < st.length - 0 + 1; omega)) | exact Or.inr (Or.inr (Or.inl ⟨(by decide), fun ⟨j, hj, e⟩ => absurd h190 (k1.mpr (by rw [e]; exact m4 hj))⟩))))
  · refine go_iload_n 3 d_Mo_makeStep_170 rfl rfl ?_
    refine go_iconst (v := 1) d_Mo_makeStep_171 rfl ?_
    refine go_icmp_eq 180 d_Mo_makeStep_172 rfl (fun hn => absurd hn (by decide)) (fun _ => ?_)
    refine go_iload_n 3 d_Mo_makeStep_175 rfl rfl ?_
    refine go_iconst (v := 2) d_Mo_makeStep_176 rfl ?_
    refine go_icmp_ne 195 d_Mo_makeStep_177 rfl (fun _ => ?_) (fun hn => by first | exact absurd hn (by decide) | exact absurd (by decide) hn)
    have ncr : ¬ rn_cr (fun j => (U j).1.length) 13 nn m st.length := fun hh => by rcases hh with hh | hh | ⟨hh, hh2⟩ | ⟨hh, hh2⟩; (exact absurd hh (Nat.not_lt_zero _)); (have hh' : 6 < st.length - 0 + 1 := hh; have h6 : st.length ≠ 6 := fun e => h167 (by rw [e]; rfl); omega); (rcases hh with hh | hh <;> exact absurd hh (by decide)); exact absurd hh (by decide)
    refine go_iload_n 3 d_Mo_makeStep_195 rfl rfl ?_
    refine go_bipush (v := 11) d_Mo_makeStep_196 rfl ?_
    refine go_icmp_ne 244 d_Mo_makeStep_198 rfl (fun _ => ?_) (fun hn => by first | exact absurd hn (by decide) | exact absurd (by decide) hn)
    refine go_iload_n 3 d_Mo_makeStep_244 rfl rfl ?_
    refine go_bipush (v := 11) d_Mo_makeStep_245 rfl ?_
    refine go_icmp_ne 285 d_Mo_makeStep_247 rfl (fun _ => ?_) (fun hn => by first | exact absurd hn (by decide) | exact absurd (by decide) hn)
    refine go_iload_n 3 d_Mo_makeStep_285 rfl rfl ?_
    refine go_bipush (v := 12) d_Mo_makeStep_286 rfl ?_
    refine go_icmp_ne 297 d_Mo_makeStep_288 rfl (fun _ => ?_) (fun hn => by first | exact absurd hn (by decide) | exact absurd (by decide) hn)
    refine go_iload_n 3 d_Mo_makeStep_297 rfl rfl ?_
    refine go_bipush (v := 7) d_Mo_makeStep_298 rfl ?_
    refine go_icmp_ne 308 d_Mo_makeStep_300 rfl (fun _ => ?_) (fun hn => by first | exact absurd hn (by decide) | exact absurd (by decide) hn)
    refine go_iload_n 3 d_Mo_makeStep_308 rfl rfl ?_
    refine go_bipush (v := 8) d_Mo_makeStep_309 rfl ?_
    refine go_icmp_eq 320 d_Mo_makeStep_311 rfl (fun hn => absurd hn (by decide)) (fun _ => ?_)
    refine go_iload_n 3 d_Mo_makeStep_314 rfl rfl ?_
    refine go_bipush (v := 9) d_Mo_makeStep_315 rfl ?_
    refine go_icmp_ne 341 d_Mo_makeStep_317 rfl (fun _ => ?_) (fun hn => by first | exact absurd hn (by decide) | exact absurd (by decide) hn)
    refine go_aload_n 0 d_Mo_makeStep_341 rfl rfl ?_
    refine go_getR d_Mo_makeStep_342 f_Mo_72 (by assumption) (by assumption) ?_
    refine go_iload_n 1 d_Mo_makeStep_345 rfl rfl ?_
    refine go_iald (i) d_Mo_makeStep_346 (by assumption) (rfl) (hi) (by decide) ?_
    rw [fs.2.1]
    refine go_iconst (v := 1) d_Mo_makeStep_347 rfl ?_
    refine go_iadd d_Mo_makeStep_348 ?_
    refine go_istore d_Mo_makeStep_349 (Nat.le_of_ble_eq_true rfl) ?_
    refine go_aload_n 0 d_Mo_makeStep_351 rfl rfl ?_
    refine go_iload_n 1 d_Mo_makeStep_352 rfl rfl ?_
    refine go_iload_n 3 d_Mo_makeStep_353 rfl rfl ?_
    refine go_iload d_Mo_makeStep_354 rfl ?_
    refine go_V3 d_Mo_makeStep_356 k_Mo_276 (by assumption) (Nat.le_of_ble_eq_true rfl) (c_Mo_work (k := 13) (inp := inp) (u := u) (t := t) (wd := wd) hp0 hi fs (by decide) (by decide) (Or.inr (Or.inr (Or.inr (Nat.zero_le _)))) (fun _ => Nat.lt_of_not_le (fun hh => ncr (Or.inr (Or.inl (by show 6 < st.length - 0 + 1; omega))))) (fun hh => absurd hh (by decide)) (hus.kept (Nat.le_refl _) (by rw [hIs0 _ (by decide)]) (by rw [hIs0 _ (by decide)]) (by rw [hIs1 _ (by decide)])) (by omega) (by rw [hIs0 _ (by decide)]; exact hwd) (fun st' loc' u' wd' I1 e1 e2 e3 e4 e5 e6 e7 => ?_) (fun e1 I1 e2 e3 => ?hno))
    case hno =>
      refine go_if_ne 364 d_Mo_makeStep_359 rfl (fun hn => absurd hn (by decide)) (fun _ => ?_)
      refine go_iconst (v := 2) d_Mo_makeStep_362 rfl ?_
      exact go_iret d_Mo_makeStep_363 rfl (hQ I1 (2, ([], u, wd, dp), 0) (by rw [rs_end hq ncr (r := (2, ([], u, wd, dp), 0)) (by rw [rn_wk (by decide) (by decide) (by first | exact Nat.zero_le _ | exact Classical.byContradiction (fun hh => ncr (Or.inl (Nat.lt_of_not_le hh)))), e1]) i_20]) ⟨fun hh => absurd hh i_20, by rw [e2 _ (by decide), hIs0 _ (by decide)]; exact hwd, by rw [e2 _ (by decide), hIs0 _ (by decide)]; exact h31, fun hh => absurd hh i_21, fun _ => ⟨by rw [e2 _ (by decide), hIs0 _ (by decide)], rfl⟩, by rw [e2 _ (by decide)]; exact hIs29, by rw [e2 _ (by decide), hIs0 _ (by decide)], fun q' h1 h2 => by rw [e3 q' h1 (by omega) (by omega) (by omega), hIs1 q' h1]⟩)
    refine go_if_ne 364 d_Mo_makeStep_359 rfl (fun _ => ?_) (fun hn => by first | exact absurd hn (by decide) | exact absurd (by decide) hn)
    exact done _ _ _ _ _ I1 _ _ _ _ (by rw [rn_wk (by decide) (by decide) (by first | exact Nat.zero_le _ | exact Classical.byContradiction (fun hh => ncr (Or.inl (Nat.lt_of_not_le hh)))), e1]) ncr (mf_fr.pl e2) e3 e4 e5 e6 (fun q' h1 h2 => by rw [e7 q' h1 (by omega) (by omega) (by omega), hIs1 q' h1])
theorem c_Mo_mk_14 (hp : pt_Mo sh R) (hc : mc_at I U) (hm : m < 4) (hml : m + rest.length < 4) (hiv : rn_iv m rest) (hrest : mf_rest I rest) (hi0 : rest.length = i) (hi : i < 4) (h27 : I 533 27 = nI (i + 1)) (hus : us_at I inp u t) (ht : t ≤ 3000) (hwd : I 533 30 = wd) (h31 : I 533 31 = dp) (hle : ∀ j, j < 4 → (U j).1.length ≤ 24) (hql : q < 24)
    (hIs0 : ∀ j, j ≠ 29 → Is 533 j = I 533 j) (hIs29 : Is 533 29 = I 533 29 + 1) (hIs1 : ∀ q, q ≠ 533 → Is q = I q) (hIsf : ∀ i', mf_eq I Is i') (fs : mf_fr Is i (nI q) (m, nI q, st, loc)) (hrests : mf_rest Is rest) (hcs : mc_at Is U) (hsz : ∀ j, j < 4 → Is 534 j = nI (U j).1.length) (hst6 : st.length ≤ 6) (hq : ((fun j => (U j).1) m)[q]? = some (14, nn) ∧ ((fun j => (U j).1) m).length ≤ 24)
    (fin3 : rn_cr (fun j => (U j).1.length) 14 nn m st.length → Q (some (.int 3)) (n, sh, X, R, Is, L))
    (done : ∀ (to : Int32) (st' : List Int32) (loc' : Nat → Int32) (u' : Nat) (wd' : Int32) (I1 : Nat → Nat → Int32) (o5 o6 o8 o9 : Option Value), rn_do inp 14 nn m (nI q + 1) st loc rest u wd dp = (0, ((m, to, st', loc') :: rest, u', wd', dp), 0) → ¬ rn_cr (fun j => (U j).1.length) 14 nn m st.length → mf_fr I1 i (nI q) (m, nI q, st', loc') → (∀ i', i' ≠ i → mf_eq Is I1 i') → us_at I1 inp u' (t + 1) → I1 533 30 = wd' → (∀ j, j ≠ 28 → j ≠ 30 → I1 533 j = Is 533 j) → (∀ q, q ≠ 533 → (q < 553 ∨ 558 ≤ q) → I1 q = I q) → gw_Go y_Mo_makeStep (d + 3) 0 0 364 [some (.ref 533), some (.int (nI i)), some (.int (nI m)), some (.int (nI 14)), some (.int nn), o5, o6, some (.int to), o8, o9] [] (n, sh, X, R, I1, L) Q)
    (hQ : ∀ I' r, r = rn_step (fun j => (U j).1) inp ((m, nI q, st, loc) :: rest, u, wd, dp) → ms_post inp t I I' r → Q (some (.int r.1)) (n, sh, X, R, I', L)) : gw_Go y_Mo_makeStep (d + 3) 0 0 59 [some (.ref 533), some (.int (nI i)), some (.int (nI m)), some (.int (nI 14)), some (.int nn), none, none, none, none, none] [] (n, sh, X, R, Is, L) Q := by
  have hp0 := hp
  obtain ⟨s533, s534, s535, s536, s537, s538, s539, s540, s541, s542, s543, s544, s545, s546, s547, s548, s549, s550, s551, s552, s553, s554, s555, s556, s557, r534, r535, r536, r537, r538, r539, r540, r541, r542, r543, r544, r545, r546, r547, r548, r549, r550, r551, r552, r553, r554, r555, r556, r557⟩ := hp
  have one : 1 ≤ st.length → ∃ v s, st = v :: s := fun h => by cases st with | nil => exact absurd h (by decide) | cons v s => exact ⟨v, s, rfl⟩
  have two : 2 ≤ st.length → ∃ y x s, st = y :: x :: s := fun h => by cases st with | nil => exact absurd h (by decide) | cons y s => cases s with | nil => exact absurd h (by simp) | cons x s => exact ⟨y, x, s, rfl⟩
  have three : 3 ≤ st.length → ∃ z y x s, st = z :: y :: x :: s := fun h => by cases st with | nil => exact absurd h (by decide) | cons z s => cases s with | nil => exact absurd h (by simp) | cons y s => cases s with | nil => exact absurd h (by simp) | cons x s => exact ⟨z, y, x, s, rfl⟩
  refine go_iload_n 3 d_Mo_makeStep_59 rfl rfl ?_
  refine go_iconst (v := 2) d_Mo_makeStep_60 rfl ?_
  refine go_icmp_eq 82 d_Mo_makeStep_61 rfl (fun hn => absurd hn (by decide)) (fun _ => ?_)
  refine go_iload_n 3 d_Mo_makeStep_64 rfl rfl ?_
  refine go_bipush (v := 10) d_Mo_makeStep_65 rfl ?_
  refine go_icmp_eq 82 d_Mo_makeStep_67 rfl (fun hn => absurd hn (by decide)) (fun _ => ?_)
  refine go_iload_n 3 d_Mo_makeStep_70 rfl rfl ?_
  refine go_bipush (v := 12) d_Mo_makeStep_71 rfl ?_
  refine go_icmp_eq 82 d_Mo_makeStep_73 rfl (fun hn => absurd hn (by decide)) (fun _ => ?_)
  refine go_iload_n 3 d_Mo_makeStep_76 rfl rfl ?_
  refine go_bipush (v := 14) d_Mo_makeStep_77 rfl ?_
  refine go_icmp_ne 86 d_Mo_makeStep_79 rfl (fun hn => absurd hn (by decide)) (fun _ => ?_)
  refine go_iconst (v := 1) d_Mo_makeStep_82 rfl ?_
  refine go_goto 123 d_Mo_makeStep_83 rfl ?_
  refine go_istore d_Mo_makeStep_123 (Nat.le_of_ble_eq_true rfl) ?_
  refine go_iload_n 3 d_Mo_makeStep_125 rfl rfl ?_
  refine go_iconst (v := 1) d_Mo_makeStep_126 rfl ?_
  refine go_icmp_le 136 d_Mo_makeStep_127 rfl (fun hn => absurd hn (by decide)) (fun _ => ?_)
  refine go_iload_n 3 d_Mo_makeStep_130 rfl rfl ?_
  refine go_bipush (v := 13) d_Mo_makeStep_131 rfl ?_
  refine go_icmp_ne 140 d_Mo_makeStep_133 rfl (fun _ => ?_) (fun hn => by first | exact absurd hn (by decide) | exact absurd (by decide) hn)
  refine go_iconst (v := 0) d_Mo_makeStep_140 rfl ?_
  refine go_istore d_Mo_makeStep_141 (Nat.le_of_ble_eq_true rfl) ?_
  refine go_aload_n 0 d_Mo_makeStep_143 rfl rfl ?_
  refine go_getR d_Mo_makeStep_144 f_Mo_75 (by assumption) (by assumption) ?_
  refine go_iload_n 1 d_Mo_makeStep_147 rfl rfl ?_
  refine go_iald (i) d_Mo_makeStep_148 (by assumption) (rfl) (hi) (by decide) ?_
  rw [show Is 555 i = nI st.length from fs.2.2.1]
  refine go_iload d_Mo_makeStep_149 rfl ?_
  refine go_icmp_lt 193 d_Mo_makeStep_151 rfl (fun h151 => ?_) (fun h151 => ?_)
  · refine go_iconst (v := 3) d_Mo_makeStep_193 rfl ?_
    exact go_iret d_Mo_makeStep_194 rfl (fin3 (by first | exact Or.inl ((nI_ltI (b := 1) (by omega) (by decide)).mp h151) | exact Or.inr (Or.inl (by have e6 := (nI_eq (b := 6) (by omega) (by decide)).mp h167; show 6 < st.length - 1 + 0; omega)) | exact Or.inr (Or.inr (Or.inl ⟨(by decide), fun ⟨j, hj, e⟩ => absurd h190 (k1.mpr (by rw [e]; exact m4 hj))⟩))))
  · refine go_iload d_Mo_makeStep_154 rfl ?_
    refine go_if_eq 170 d_Mo_makeStep_156 rfl (fun _ => ?_) (fun hn => absurd (by decide) hn)
    refine go_iload_n 3 d_Mo_makeStep_170 rfl rfl ?_
    refine go_iconst (v := 1) d_Mo_makeStep_171 rfl ?_
    refine go_icmp_eq 180 d_Mo_makeStep_172 rfl (fun hn => absurd hn (by decide)) (fun _ => ?_)
    refine go_iload_n 3 d_Mo_makeStep_175 rfl rfl ?_
    refine go_iconst (v := 2) d_Mo_makeStep_176 rfl ?_
    refine go_icmp_ne 195 d_Mo_makeStep_177 rfl (fun _ => ?_) (fun hn => by first | exact absurd hn (by decide) | exact absurd (by decide) hn)
    have ncr : ¬ rn_cr (fun j => (U j).1.length) 14 nn m st.length := fun hh => by rcases hh with hh | hh | ⟨hh, hh2⟩ | ⟨hh, hh2⟩; (exact h151 ((nI_ltI (b := 1) (by omega) (by decide)).mpr hh)); (have hh' : 6 < st.length - 1 + 0 := hh; omega); (rcases hh with hh | hh <;> exact absurd hh (by decide)); exact absurd hh (by decide)
    refine go_iload_n 3 d_Mo_makeStep_195 rfl rfl ?_
    refine go_bipush (v := 11) d_Mo_makeStep_196 rfl ?_
    refine go_icmp_ne 244 d_Mo_makeStep_198 rfl (fun _ => ?_) (fun hn => by first | exact absurd hn (by decide) | exact absurd (by decide) hn)
    refine go_iload_n 3 d_Mo_makeStep_244 rfl rfl ?_
    refine go_bipush (v := 11) d_Mo_makeStep_245 rfl ?_
    refine go_icmp_ne 285 d_Mo_makeStep_247 rfl (fun _ => ?_) (fun hn => by first | exact absurd hn (by decide) | exact absurd (by decide) hn)
    refine go_iload_n 3 d_Mo_makeStep_285 rfl rfl ?_
    refine go_bipush (v := 12) d_Mo_makeStep_286 rfl ?_
    refine go_icmp_ne 297 d_Mo_makeStep_288 rfl (fun _ => ?_) (fun hn => by first | exact absurd hn (by decide) | exact absurd (by decide) hn)
    have hlen1 : 1 ≤ st.length := Classical.byContradiction (fun hh => ncr (Or.inl (Nat.lt_of_not_le hh)))
    refine go_iload_n 3 d_Mo_makeStep_297 rfl rfl ?_
    refine go_bipush (v := 7) d_Mo_makeStep_298 rfl ?_
    refine go_icmp_ne 308 d_Mo_makeStep_300 rfl (fun _ => ?_) (fun hn => by first | exact absurd hn (by decide) | exact absurd (by decide) hn)
    refine go_iload_n 3 d_Mo_makeStep_308 rfl rfl ?_
    refine go_bipush (v := 8) d_Mo_makeStep_309 rfl ?_
    refine go_icmp_eq 320 d_Mo_makeStep_311 rfl (fun hn => absurd hn (by decide)) (fun _ => ?_)
    refine go_iload_n 3 d_Mo_makeStep_314 rfl rfl ?_
    refine go_bipush (v := 9) d_Mo_makeStep_315 rfl ?_
    refine go_icmp_ne 341 d_Mo_makeStep_317 rfl (fun _ => ?_) (fun hn => by first | exact absurd hn (by decide) | exact absurd (by decide) hn)
    refine go_aload_n 0 d_Mo_makeStep_341 rfl rfl ?_
    refine go_getR d_Mo_makeStep_342 f_Mo_72 (by assumption) (by assumption) ?_
    refine go_iload_n 1 d_Mo_makeStep_345 rfl rfl ?_
    refine go_iald (i) d_Mo_makeStep_346 (by assumption) (rfl) (hi) (by decide) ?_
    rw [fs.2.1]
    refine go_iconst (v := 1) d_Mo_makeStep_347 rfl ?_
    refine go_iadd d_Mo_makeStep_348 ?_
    refine go_istore d_Mo_makeStep_349 (Nat.le_of_ble_eq_true rfl) ?_
    refine go_aload_n 0 d_Mo_makeStep_351 rfl rfl ?_
    refine go_iload_n 1 d_Mo_makeStep_352 rfl rfl ?_
    refine go_iload_n 3 d_Mo_makeStep_353 rfl rfl ?_
    refine go_iload d_Mo_makeStep_354 rfl ?_
    refine go_V3 d_Mo_makeStep_356 k_Mo_276 (by assumption) (Nat.le_of_ble_eq_true rfl) (c_Mo_work (k := 14) (inp := inp) (u := u) (t := t) (wd := wd) hp0 hi fs (by decide) (by decide) (Or.inr (Or.inr (Or.inr (Classical.byContradiction (fun hh => ncr (Or.inl (Nat.lt_of_not_le hh))))))) (fun hh => absurd hh (by decide)) (fun hh => absurd hh (by decide)) (hus.kept (Nat.le_refl _) (by rw [hIs0 _ (by decide)]) (by rw [hIs0 _ (by decide)]) (by rw [hIs1 _ (by decide)])) (by omega) (by rw [hIs0 _ (by decide)]; exact hwd) (fun st' loc' u' wd' I1 e1 e2 e3 e4 e5 e6 e7 => ?_) (fun e1 I1 e2 e3 => ?hno))
    case hno =>
      refine go_if_ne 364 d_Mo_makeStep_359 rfl (fun hn => absurd hn (by decide)) (fun _ => ?_)
      refine go_iconst (v := 2) d_Mo_makeStep_362 rfl ?_
      exact go_iret d_Mo_makeStep_363 rfl (hQ I1 (2, ([], u, wd, dp), 0) (by rw [rs_end hq ncr (r := (2, ([], u, wd, dp), 0)) (by rw [rn_wk (by decide) (by decide) (by first | exact Nat.zero_le _ | exact Classical.byContradiction (fun hh => ncr (Or.inl (Nat.lt_of_not_le hh)))), e1]) i_20]) ⟨fun hh => absurd hh i_20, by rw [e2 _ (by decide), hIs0 _ (by decide)]; exact hwd, by rw [e2 _ (by decide), hIs0 _ (by decide)]; exact h31, fun hh => absurd hh i_21, fun _ => ⟨by rw [e2 _ (by decide), hIs0 _ (by decide)], rfl⟩, by rw [e2 _ (by decide)]; exact hIs29, by rw [e2 _ (by decide), hIs0 _ (by decide)], fun q' h1 h2 => by rw [e3 q' h1 (by omega) (by omega) (by omega), hIs1 q' h1]⟩)
    refine go_if_ne 364 d_Mo_makeStep_359 rfl (fun _ => ?_) (fun hn => by first | exact absurd hn (by decide) | exact absurd (by decide) hn)
    exact done _ _ _ _ _ I1 _ _ _ _ (by rw [rn_wk (by decide) (by decide) (by first | exact Nat.zero_le _ | exact Classical.byContradiction (fun hh => ncr (Or.inl (Nat.lt_of_not_le hh)))), e1]) ncr (mf_fr.pl e2) e3 e4 e5 e6 (fun q' h1 h2 => by rw [e7 q' h1 (by omega) (by omega) (by omega), hIs1 q' h1])
theorem c_Mo_makeStep {inp : List Int32} {m q u t : Nat} {wd dp : Int32} {st : List Int32} {loc : Nat → Int32} {rest : List ab_Fr} (hp : pt_Mo sh R) (hc : mc_at I U) (hql : q < (U m).1.length) (hiv : rn_iv m rest) (hf : mf_fr I rest.length (nI q) (m, nI q, st, loc)) (hrest : mf_rest I rest) (h27 : I 533 27 = nI (rest.length + 1)) (hus : us_at I inp u t) (ht : t ≤ 3000) (hwd : I 533 30 = wd) (h31 : I 533 31 = dp)
    (hQ : ∀ I' r, r = rn_step (fun j => (U j).1) inp ((m, nI q, st, loc) :: rest, u, wd, dp) → ms_post inp t I I' r → Q (some (.int r.1)) (n, sh, X, R, I', L)) : gw_Call y_Mo_makeStep (d + 3) 0 0 [.ref 533] (n, sh, X, R, I, L) Q := by
  have hp0 := hp
  obtain ⟨s533, s534, s535, s536, s537, s538, s539, s540, s541, s542, s543, s544, s545, s546, s547, s548, s549, s550, s551, s552, s553, s554, s555, s556, s557, r534, r535, r536, r537, r538, r539, r540, r541, r542, r543, r544, r545, r546, r547, r548, r549, r550, r551, r552, r553, r554, r555, r556, r557⟩ := hp
  have hml := rn_iv_lt hiv
  have hm : m < 4 := by omega
  obtain ⟨i, hi0⟩ : ∃ i, rest.length = i := ⟨_, rfl⟩
  rw [hi0] at hf h27
  have hi : i < 4 := by omega
  have one : 1 ≤ st.length → ∃ v s, st = v :: s := fun h => by cases st with | nil => exact absurd h (by decide) | cons v s => exact ⟨v, s, rfl⟩
  have two : 2 ≤ st.length → ∃ y x s, st = y :: x :: s := fun h => by cases st with | nil => exact absurd h (by decide) | cons y s => cases s with | nil => exact absurd h (by simp) | cons x s => exact ⟨y, x, s, rfl⟩
  have three : 3 ≤ st.length → ∃ z y x s, st = z :: y :: x :: s := fun h => by cases st with | nil => exact absurd h (by decide) | cons z s => cases s with | nil => exact absurd h (by simp) | cons y s => cases s with | nil => exact absurd h (by simp) | cons x s => exact ⟨z, y, x, s, rfl⟩
  obtain ⟨⟨k, nn⟩, hqk⟩ : ∃ t, (U m).1[q]? = some t := ⟨_, List.getElem?_eq_getElem hql⟩
  obtain ⟨b1, b2, b3⟩ := (hc m hm).2.2.1 q (k, nn) hqk
  dsimp only at b1 b2 b3
  have hl24 := (hc m hm).2.1
  have hq : ((fun j => (U j).1) m)[q]? = some (k, nn) ∧ ((fun j => (U j).1) m).length ≤ 24 := ⟨hqk, hl24⟩
  have hle : ∀ j, j < 4 → (U j).1.length ≤ 24 := fun j hj => (hc j hj).2.1
  refine gw_call o_Mo_makeStep (Nat.le_of_ble_eq_true rfl) ?_
  refine go_aload_n 0 d_Mo_makeStep_0 rfl rfl ?_
  refine go_getI d_Mo_makeStep_1 f_Mo_241 (by assumption) ?_
  refine go_iconst (v := 1) d_Mo_makeStep_4 rfl ?_
  refine go_isub d_Mo_makeStep_5 ?_
  rw [h27, nI_pred]
  refine go_istore_n 1 d_Mo_makeStep_6 rfl (Nat.le_of_ble_eq_true rfl) ?_
  refine go_aload_n 0 d_Mo_makeStep_7 rfl rfl ?_
  refine go_getR d_Mo_makeStep_8 f_Mo_69 (by assumption) (by assumption) ?_
  refine go_iload_n 1 d_Mo_makeStep_11 rfl rfl ?_
  refine go_iald (i) d_Mo_makeStep_12 (by assumption) (rfl) (hi) (by decide) ?_
  rw [hf.1]
  refine go_istore_n 2 d_Mo_makeStep_13 rfl (Nat.le_of_ble_eq_true rfl) ?_
  refine go_aload_n 0 d_Mo_makeStep_14 rfl rfl ?_
  refine go_getR d_Mo_makeStep_15 f_Mo_13 (by assumption) (by assumption) ?_
  refine go_bipush (v := 24) d_Mo_makeStep_18 rfl ?_
  refine go_iload_n 2 d_Mo_makeStep_20 rfl rfl ?_
  refine go_imul d_Mo_makeStep_21 ?_
  refine go_aload_n 0 d_Mo_makeStep_22 rfl rfl ?_
  refine go_getR d_Mo_makeStep_23 f_Mo_72 (by assumption) (by assumption) ?_
  refine go_iload_n 1 d_Mo_makeStep_26 rfl rfl ?_
  refine go_iald (i) d_Mo_makeStep_27 (by assumption) (rfl) (hi) (by decide) ?_
  rw [hf.2.1]
  refine go_iadd d_Mo_makeStep_28 ?_
  refine go_iald (24 * m + q) d_Mo_makeStep_29 (by assumption) (ix (a := 24)) (by omega) (by decide) ?_
  rw [b1]
  refine go_istore_n 3 d_Mo_makeStep_30 rfl (Nat.le_of_ble_eq_true rfl) ?_
  refine go_aload_n 0 d_Mo_makeStep_31 rfl rfl ?_
  refine go_getR d_Mo_makeStep_32 f_Mo_16 (by assumption) (by assumption) ?_
  refine go_bipush (v := 24) d_Mo_makeStep_35 rfl ?_
  refine go_iload_n 2 d_Mo_makeStep_37 rfl rfl ?_
  refine go_imul d_Mo_makeStep_38 ?_
  refine go_aload_n 0 d_Mo_makeStep_39 rfl rfl ?_
  refine go_getR d_Mo_makeStep_40 f_Mo_72 (by assumption) (by assumption) ?_
  refine go_iload_n 1 d_Mo_makeStep_43 rfl rfl ?_
  refine go_iald (i) d_Mo_makeStep_44 (by assumption) (rfl) (hi) (by decide) ?_
  rw [hf.2.1]
  refine go_iadd d_Mo_makeStep_45 ?_
  refine go_iald (24 * m + q) d_Mo_makeStep_46 (by assumption) (ix (a := 24)) (by omega) (by decide) ?_
  rw [b2]
  refine go_istore d_Mo_makeStep_47 (Nat.le_of_ble_eq_true rfl) ?_
  refine go_aload_n 0 d_Mo_makeStep_49 rfl rfl ?_
  refine go_dup d_Mo_makeStep_50 rfl ?_
  refine go_getI d_Mo_makeStep_51 f_Mo_250 (by assumption) ?_
  refine go_iconst (v := 1) d_Mo_makeStep_54 rfl ?_
  refine go_iadd d_Mo_makeStep_55 ?_
  refine go_putI d_Mo_makeStep_56 f_Mo_250 (by assumption) ?_
  obtain ⟨Is, hIs⟩ : ∃ Is, Is = va_up I 533 (va_up (I 533) 29 (I 533 29 + 1)) := ⟨_, rfl⟩
  rw [← hIs]
  have hIs0 : ∀ j, j ≠ 29 → Is 533 j = I 533 j := fun j hj => by rw [hIs, up2_ne (Or.inr hj)]
  have hIs29 : Is 533 29 = I 533 29 + 1 := by rw [hIs, up2_eq]
  have hIs1 : ∀ q, q ≠ 533 → Is q = I q := fun q hq => by rw [hIs, gw_up_ne hq]
  have hIsf : ∀ i', mf_eq I Is i' := fun i' => mf_eq.row (fun q a b => hIs1 q (by omega))
  have fs : mf_fr Is i (nI q) (m, nI q, st, loc) := hf.ptw (hIsf i)
  have hrests : mf_rest Is rest := hrest.ptw (fun i' _ => hIsf i')
  have hcs : mc_at Is U := hc.kept (fun q a b => hIs1 q (by omega))
  have hsz : ∀ j, j < 4 → Is 534 j = nI (U j).1.length := fun j hj => (hcs j hj).1
  have hst6 : st.length ≤ 6 := fs.2.2.2.1
  have fin3 : rn_cr (fun j => (U j).1.length) k nn m st.length → Q (some (.int 3)) (n, sh, X, R, Is, L) := fun hcr => hQ Is (3, ([], u, wd, dp), 0) (by rw [rs_cr hq.1 hq.2 hcr]) ⟨fun hh => absurd hh i_30, by rw [hIs0 _ (by decide)]; exact hwd, by rw [hIs0 _ (by decide)]; exact h31, fun hh => absurd hh i_31, fun _ => ⟨hIs0 _ (by decide), rfl⟩, hIs29, hIs0 _ (by decide), fun q' h1 _ => hIs1 q' h1⟩
  have done : ∀ (to : Int32) (st' : List Int32) (loc' : Nat → Int32) (u' : Nat) (wd' : Int32) (I1 : Nat → Nat → Int32) (o5 o6 o8 o9 : Option Value), rn_do inp k nn m (nI q + 1) st loc rest u wd dp = (0, ((m, to, st', loc') :: rest, u', wd', dp), 0) → ¬ rn_cr (fun j => (U j).1.length) k nn m st.length → mf_fr I1 i (nI q) (m, nI q, st', loc') → (∀ i', i' ≠ i → mf_eq Is I1 i') → us_at I1 inp u' (t + 1) → I1 533 30 = wd' → (∀ j, j ≠ 28 → j ≠ 30 → I1 533 j = Is 533 j) → (∀ q, q ≠ 533 → (q < 553 ∨ 558 ≤ q) → I1 q = I q) → gw_Go y_Mo_makeStep (d + 3) 0 0 364 [some (.ref 533), some (.int (nI i)), some (.int (nI m)), some (.int (nI k)), some (.int nn), o5, o6, some (.int to), o8, o9] [] (n, sh, X, R, I1, L) Q := by
    intro to st' loc' u' wd' I1 o5 o6 o8 o9 hr ncr e1 e2 e3 e4 e5 e6
    have hlen : I1 534 m = nI (U m).1.length := by rw [e6 _ (by decide) (by decide)]; exact (hc m hm).1
    refine go_iload d_Mo_makeStep_364 rfl ?_
    refine go_i2l d_Mo_makeStep_366 (rfl) ?_
    refine go_lconst (v := 0) d_Mo_makeStep_367 rfl ?_
    refine go_aload_n 0 d_Mo_makeStep_368 rfl rfl ?_
    refine go_getR d_Mo_makeStep_369 f_Mo_7 (by assumption) (by assumption) ?_
    refine go_iload_n 2 d_Mo_makeStep_372 rfl rfl ?_
    refine go_iald (m) d_Mo_makeStep_373 (by assumption) (rfl) (hm) (by decide) ?_
    rw [hlen]
    refine go_iconst (v := 1) d_Mo_makeStep_374 rfl ?_
    refine go_isub d_Mo_makeStep_375 ?_
    refine go_i2l d_Mo_makeStep_376 (rfl) ?_
    refine go_S3 d_Mo_makeStep_377 k_Mo_86 (Nat.le_of_ble_eq_true rfl) (c_Mo_in (l := 0) (h := nI (U m).1.length - 1) rfl rfl (fun b1 k1 z1 => ?_))
    refine go_if_ne 385 d_Mo_makeStep_380 rfl (fun h380 => ?_) (fun h380 => ?_)
    · refine go_aload_n 0 d_Mo_makeStep_385 rfl rfl ?_
      refine go_getR d_Mo_makeStep_386 f_Mo_72 (by assumption) (by assumption) ?_
      refine go_iload_n 1 d_Mo_makeStep_389 rfl rfl ?_
      refine go_iload d_Mo_makeStep_390 rfl ?_
      refine go_iast (i) d_Mo_makeStep_392 (by assumption) (rfl) (hi) (by decide) ?_
      refine go_iconst (v := 0) d_Mo_makeStep_393 rfl ?_
      exact go_iret d_Mo_makeStep_394 rfl (hQ _ (0, ((m, to, st', loc') :: rest, u', wd', dp), 0) (by rw [rs_go hq ncr hr rfl rfl (in_len hl24 (k1.mp h380))]) ⟨fun _ => ⟨⟨_, _, rfl, by show mf_fr _ rest.length to _; rw [hi0]; exact ⟨by simp (disch := omega) only [up2_eq, up2_ne]; exact e1.1, by simp (disch := omega) only [up2_eq, up2_ne], by simp (disch := omega) only [up2_eq, up2_ne]; exact e1.2.2.1, e1.2.2.2.1, e1.2.2.2.2.1.ptw e1.2.2.2.1 (fun j hj => by simp (disch := omega) only [up2_eq, up2_ne]), fun j hj => by simp (disch := omega) only [up2_eq, up2_ne]; exact e1.2.2.2.2.2 j hj⟩, hrests.ptw (fun i' hi' => (e2 i' (by omega)).trans ⟨by simp (disch := omega) only [up2_eq, up2_ne], by simp (disch := omega) only [up2_eq, up2_ne], by simp (disch := omega) only [up2_eq, up2_ne], fun j hj => by simp (disch := omega) only [up2_eq, up2_ne], fun j hj => by simp (disch := omega) only [up2_eq, up2_ne]⟩), by rw [gw_up_ne (by decide), e5 _ (by decide) (by decide), hIs0 _ (by decide), hi0]; exact h27⟩, e3.kept (Nat.le_refl _) (by rw [gw_up_ne (by decide)]) (by rw [gw_up_ne (by decide)]) (gw_up_ne (by decide))⟩, by rw [gw_up_ne (by decide)]; exact e4, by rw [gw_up_ne (by decide), e5 _ (by decide) (by decide), hIs0 _ (by decide)]; exact h31, fun hh => absurd hh i_01, fun _ => ⟨by rw [gw_up_ne (by decide), e5 _ (by decide) (by decide), hIs0 _ (by decide)], rfl⟩, by rw [gw_up_ne (by decide), e5 _ (by decide) (by decide)]; exact hIs29, by rw [gw_up_ne (by decide), e5 _ (by decide) (by decide), hIs0 _ (by decide)], fun q' h1 h2 => by rw [gw_up_ne (by omega)]; exact e6 q' h1 h2⟩)
    · refine go_iconst (v := 3) d_Mo_makeStep_383 rfl ?_
      exact go_iret d_Mo_makeStep_384 rfl (hQ I1 (3, ((m, to, st', loc') :: rest, u', wd', dp), 0) (by rw [rs_out hq ncr hr rfl rfl (fun ⟨q', w1, w2⟩ => absurd h380 (k1.mpr (len_in hl24 w1 w2)))]) ⟨fun hh => absurd hh i_30, e4, by rw [e5 _ (by decide) (by decide), hIs0 _ (by decide)]; exact h31, fun hh => absurd hh i_31, fun _ => ⟨by rw [e5 _ (by decide) (by decide), hIs0 _ (by decide)], rfl⟩, by rw [e5 _ (by decide) (by decide)]; exact hIs29, by rw [e5 _ (by decide) (by decide), hIs0 _ (by decide)], e6⟩)
  clear hqk
  rcases (show k = 0 ∨ k = 1 ∨ k = 2 ∨ k = 3 ∨ k = 4 ∨ k = 5 ∨ k = 6 ∨ k = 7 ∨ k = 8 ∨ k = 9 ∨ k = 10 ∨ k = 11 ∨ k = 12 ∨ k = 13 ∨ k = 14 by omega) with rfl | rfl | rfl | rfl | rfl | rfl | rfl | rfl | rfl | rfl | rfl | rfl | rfl | rfl | rfl
  · exact c_Mo_mk_0 hp0 hc hm hml hiv hrest hi0 hi h27 hus ht hwd h31 hle (by omega) hIs0 hIs29 hIs1 hIsf fs hrests hcs hsz hst6 hq fin3 done hQ
  · exact c_Mo_mk_1 hp0 hc hm hml hiv hrest hi0 hi h27 hus ht hwd h31 hle (by omega) hIs0 hIs29 hIs1 hIsf fs hrests hcs hsz hst6 hq fin3 done hQ
  · exact c_Mo_mk_2 hp0 hc hm hml hiv hrest hi0 hi h27 hus ht hwd h31 hle (by omega) hIs0 hIs29 hIs1 hIsf fs hrests hcs hsz hst6 hq fin3 done hQ
  · exact c_Mo_mk_3 hp0 hc hm hml hiv hrest hi0 hi h27 hus ht hwd h31 hle (by omega) hIs0 hIs29 hIs1 hIsf fs hrests hcs hsz hst6 hq fin3 done hQ
  · exact c_Mo_mk_4 hp0 hc hm hml hiv hrest hi0 hi h27 hus ht hwd h31 hle (by omega) hIs0 hIs29 hIs1 hIsf fs hrests hcs hsz hst6 hq fin3 done hQ
  · exact c_Mo_mk_5 hp0 hc hm hml hiv hrest hi0 hi h27 hus ht hwd h31 hle (by omega) hIs0 hIs29 hIs1 hIsf fs hrests hcs hsz hst6 hq fin3 done hQ
  · exact c_Mo_mk_6 hp0 hc hm hml hiv hrest hi0 hi h27 hus ht hwd h31 hle (by omega) hIs0 hIs29 hIs1 hIsf fs hrests hcs hsz hst6 hq fin3 done hQ
  · exact c_Mo_mk_7 hp0 hc hm hml hiv hrest hi0 hi h27 hus ht hwd h31 hle (by omega) hIs0 hIs29 hIs1 hIsf fs hrests hcs hsz hst6 hq fin3 done hQ
  · exact c_Mo_mk_8 hp0 hc hm hml hiv hrest hi0 hi h27 hus ht hwd h31 hle (by omega) hIs0 hIs29 hIs1 hIsf fs hrests hcs hsz hst6 hq fin3 done hQ
  · exact c_Mo_mk_9 hp0 hc hm hml hiv hrest hi0 hi h27 hus ht hwd h31 hle (by omega) hIs0 hIs29 hIs1 hIsf fs hrests hcs hsz hst6 hq fin3 done hQ
  · exact c_Mo_mk_10 hp0 hc hm hml hiv hrest hi0 hi h27 hus ht hwd h31 hle (by omega) hIs0 hIs29 hIs1 hIsf fs hrests hcs hsz hst6 hq fin3 done hQ
  · exact c_Mo_mk_11 hp0 hc hm hml hiv hrest hi0 hi h27 hus ht hwd h31 hle (by omega) hIs0 hIs29 hIs1 hIsf fs hrests hcs hsz hst6 hq fin3 done hQ
  · exact c_Mo_mk_12 hp0 hc hm hml hiv hrest hi0 hi h27 hus ht hwd h31 hle (by omega) hIs0 hIs29 hIs1 hIsf fs hrests hcs hsz hst6 hq fin3 done hQ
  · exact c_Mo_mk_13 hp0 hc hm hml hiv hrest hi0 hi h27 hus ht hwd h31 hle (by omega) hIs0 hIs29 hIs1 hIsf fs hrests hcs hsz hst6 hq fin3 done hQ
  · exact c_Mo_mk_14 hp0 hc hm hml hiv hrest hi0 hi h27 hus ht hwd h31 hle (by omega) hIs0 hIs29 hIs1 hIsf fs hrests hcs hsz hst6 hq fin3 done hQ
end MO
