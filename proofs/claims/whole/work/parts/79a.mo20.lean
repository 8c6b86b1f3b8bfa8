/-! the reference: advance, by kinds -/
def ad_fr (r : Nat) (I I' : Nat → Nat → Int32) (L L' : Nat → Nat → Int64) : Prop := (∀ j, j ≠ 16 → j ≠ 17 → I' 533 j = I 533 j) ∧ (∀ q, q ≠ 533 → I' q = I q) ∧ (∀ i, i < 104 * r → L' 549 i = L 549 i) ∧ (∀ q, q ≠ 549 → q ≠ 550 → q ≠ 551 → L' q = L q)
/-- the state of the reference: cuts with place 0 first, places apart, terms of modest size -/
def u_ok (U : Nat → ab_Me) : Prop := ∀ m, m < 4 → (∃ A, (U m).2.1[0]? = some (0, A)) ∧ (∀ (i j : Nat) (e f : Nat × ab_Cu), (U m).2.1[i]? = some e → (U m).2.1[j]? = some f → nI e.1 = nI f.1 → i = j) ∧ (∀ e ∈ (U m).2.1, (∀ t ∈ e.2.2.1.2, t.1 ≤ 100) ∧ (∀ t ∈ e.2.2.2.2, t.1 ≤ 100) ∧ e.1 < 24) ∧ ∀ t ∈ (U m).1, -1000 ≤ t.2.toInt ∧ t.2.toInt ≤ 1000
theorem u_ok.call {U : Nat → ab_Me} (h : u_ok U) {j : Nat} (hj : j < 4) : ∃ A, (U j).2.1[0]? = some (0, A) ∧ (∀ t ∈ A.2.1.2, t.1 ≤ 100) ∧ (∀ t ∈ A.2.2.2, t.1 ≤ 100) ∧ (∀ (i j' : Nat) (e f : Nat × ab_Cu), (U j).2.1[i]? = some e → (U j).2.1[j']? = some f → nI e.1 = nI f.1 → i = j') := by
  obtain ⟨⟨A, hA⟩, hu, ht, -⟩ := h j hj
  have := ht _ (List.mem_of_getElem? hA)
  exact ⟨A, hA, this.1, this.2.1, hu⟩
theorem cu_first_of {A : ab_Me} {B : ab_Cu} (h : A.2.1[0]? = some (0, B)) : cu_first A = B := by
  unfold cu_first
  cases hc : A.2.1 with
  | nil => rw [hc] at h; cases h
  | cons c l => rw [hc] at h; cases h; rfl
theorem lrn_oks {s : sp_E × sp_E} {x y : ab_Sy} {b : Bool} (hok : kn_ok s) (hx : sb 45000000000 x) (hy : sb 45000000000 y) (h5x : ∀ q, x = some q → q.1 < 5) (h5y : ∀ q, y = some q → q.1 < 5) : ∀ t, pa_lrn (pa_edge (!b) x y) s = some t ∨ pa_lrn (pa_edge b x y) s = some t → kn_ok t := by
  have key : ∀ (b : Bool) t, pa_lrn (pa_edge b x y) s = some t → kn_ok t := by
    intro b t h
    cases he : pa_edge b x y with
    | none => rw [he] at h; cases h; exact hok
    | some u =>
      cases x with
      | none => cases he
      | some q => cases y with
        | none => cases he
        | some q' =>
          obtain ⟨h1, h2, h3⟩ := pa_edge_bd (h5x q rfl) (h5y q' rfl) hx hy he
          rw [he] at h
          exact (pa_lrn_ok hok h1 h2 h3 h).1
  intro t h
  rcases h with h | h
  · exact key _ t h
  · exact key _ t h
theorem pa_do_ind (k : Nat) (nn p p' : Int32) (st : List ab_Sy) (lo : Nat → ab_Sy) {G : Nat → Int64} {B md : Nat} {pl : Int32} {E : sp_E} {b0 b1 : ab_Ba} (h : rw_at G B pl md (pa_do k nn p' st lo).2.1 (pa_do k nn p' st lo).2.2 E b0 b1) : rw_at G B pl md (pa_do k nn p st lo).2.1 (pa_do k nn p st lo).2.2 E b0 b1 := by
  have e : (pa_do k nn p st lo).2 = (pa_do k nn p' st lo).2 := by
    unfold pa_do
    split <;> rfl
  rw [e]
  exact h
section MO
variable {d n : Nat} {sh : Nat → Nat × Nat} {X : Nat × (Nat → Int32)} {R : Nat → Nat → Option Nat} {I : Nat → Nat → Int32} {L : Nat → Nat → Int64} {Q : Option Value → gw_Mem → Prop}
variable {U : Nat → ab_Me}
theorem c_Mo_adB_0 {m r md e f : Nat} {p nn : Int32} {st : List ab_Sy} {lo : Nat → ab_Sy} {s : sp_E × sp_E} {b0 b1 : ab_Ba} {o5 o10 o11 o12 : Option Value} (hp : pt_Mo sh R) (hmc : mc_at I U) (hm : m < 4) (hl6 : st.length ≤ 6) (hf : rn_cr (fun j => (U j).1.length) 0 nn m st.length → Q (some (.int 2)) (n, sh, X, R, I, L)) (next : ¬ rn_cr (fun j => (U j).1.length) 0 nn m st.length → ∀ o10 o11 o12 : Option Value, gw_Go y_Mo_advance (d + 4) 0 0 327 [some (.ref 533), some (.int (nI m)), some (.int (nI r)), some (.int (nI (104 * r))), some (.int p), o5, some (.int (nI 0)), some (.int nn), some (.long (lN st.length)), none, o10, o11, o12] [] (n, sh, X, R, I, L) Q) : gw_Go y_Mo_advance (d + 4) 0 0 129 [some (.ref 533), some (.int (nI m)), some (.int (nI r)), some (.int (nI (104 * r))), some (.int p), o5, some (.int (nI 0)), some (.int nn), some (.long (lN st.length)), none, o10, o11, o12] [] (n, sh, X, R, I, L) Q := by
  have hp0 := hp
  obtain ⟨s533, s534, s535, s536, s537, s538, s539, s540, s541, s542, s543, s544, s545, s546, s547, s548, s549, s550, s551, s552, s553, s554, s555, s556, s557, r534, r535, r536, r537, r538, r539, r540, r541, r542, r543, r544, r545, r546, r547, r548, r549, r550, r551, r552, r553, r554, r555, r556, r557⟩ := hp
  refine go_iload d_Mo_advance_129 rfl ?_
  refine go_iconst (v := 2) d_Mo_advance_131 rfl ?_
  refine go_icmp_eq 156 d_Mo_advance_132 rfl (fun hn => absurd hn (by decide)) (fun _ => ?_)
  refine go_iload d_Mo_advance_135 rfl ?_
  refine go_bipush (v := 10) d_Mo_advance_137 rfl ?_
  refine go_icmp_eq 156 d_Mo_advance_139 rfl (fun hn => absurd hn (by decide)) (fun _ => ?_)
  refine go_iload d_Mo_advance_142 rfl ?_
  refine go_bipush (v := 12) d_Mo_advance_144 rfl ?_
  refine go_icmp_eq 156 d_Mo_advance_146 rfl (fun hn => absurd hn (by decide)) (fun _ => ?_)
  refine go_iload d_Mo_advance_149 rfl ?_
  refine go_bipush (v := 14) d_Mo_advance_151 rfl ?_
  refine go_icmp_ne 160 d_Mo_advance_153 rfl (fun _ => ?_) (fun hn => by first | exact absurd hn (by decide) | exact absurd (by decide) hn)
  refine go_iload d_Mo_advance_160 rfl ?_
  refine go_iconst (v := 3) d_Mo_advance_162 rfl ?_
  refine go_icmp_eq 186 d_Mo_advance_163 rfl (fun hn => absurd hn (by decide)) (fun _ => ?_)
  refine go_iload d_Mo_advance_166 rfl ?_
  refine go_iconst (v := 4) d_Mo_advance_168 rfl ?_
  refine go_icmp_eq 186 d_Mo_advance_169 rfl (fun hn => absurd hn (by decide)) (fun _ => ?_)
  refine go_iload d_Mo_advance_172 rfl ?_
  refine go_bipush (v := 8) d_Mo_advance_174 rfl ?_
  refine go_icmp_eq 186 d_Mo_advance_176 rfl (fun hn => absurd hn (by decide)) (fun _ => ?_)
  refine go_iload d_Mo_advance_179 rfl ?_
  refine go_bipush (v := 9) d_Mo_advance_181 rfl ?_
  refine go_icmp_ne 192 d_Mo_advance_183 rfl (fun _ => ?_) (fun hn => by first | exact absurd hn (by decide) | exact absurd (by decide) hn)
  refine go_iload d_Mo_advance_192 rfl ?_
  refine go_bipush (v := 11) d_Mo_advance_194 rfl ?_
  refine go_icmp_ne 205 d_Mo_advance_196 rfl (fun _ => ?_) (fun hn => by first | exact absurd hn (by decide) | exact absurd (by decide) hn)
  refine go_lconst (v := 0) d_Mo_advance_205 rfl ?_
  skip
  refine go_lstore d_Mo_advance_206 (Nat.le_of_ble_eq_true rfl) ?_
  simp only [gw_st1, gw_st2, gw_cl1, gw_get, gw_set, gw_big, Bool.false_eq_true, if_false, if_true, ↓reduceIte]
  refine go_iload d_Mo_advance_208 rfl ?_
  refine go_iconst (v := 1) d_Mo_advance_210 rfl ?_
  refine go_icmp_le 221 d_Mo_advance_211 rfl (fun _ => ?_) (fun hn => absurd (by decide) hn)
  refine go_iconst (v := 1) d_Mo_advance_221 rfl ?_
  refine go_goto 226 d_Mo_advance_222 rfl ?_
  refine go_istore d_Mo_advance_226 (Nat.le_of_ble_eq_true rfl) ?_
  simp only [gw_st1, gw_st2, gw_cl1, gw_get, gw_set, gw_big, Bool.false_eq_true, if_false, if_true, ↓reduceIte]
  refine go_lload d_Mo_advance_228 rfl ?_
  refine go_lload d_Mo_advance_230 rfl ?_
  refine go_lcmp_lt 275 d_Mo_advance_232 d_Mo_advance_233 rfl (fun hn => absurd hn ((fun hh => absurd ((lN_lt (b := 0) (by omega) (by decide)).mp hh) (by omega)))) (fun _ => ?_)
  refine go_iload d_Mo_advance_236 rfl ?_
  refine go_if_eq 250 d_Mo_advance_238 rfl (fun hn => absurd hn (by decide)) (fun _ => ?_)
  refine go_lload d_Mo_advance_241 rfl ?_
  refine go_ldc2 d_Mo_advance_243 i_Mo_166 ?_
  refine go_lcmp_eq 275 d_Mo_advance_246 d_Mo_advance_247 rfl (fun h246 => ?_) (fun h246 => ?_)
  · refine go_iconst (v := 2) d_Mo_advance_275 rfl ?_
    exact go_iret d_Mo_advance_276 rfl (hf (by first | exact Or.inl ((lN_lt (b := 0) (by omega) (by decide)).mp h232) | exact Or.inr (Or.inl (by have e6 := (lN_eq (b := 6) (by omega) (by decide)).mp h246; show 6 < st.length - 0 + 1; omega)) | exact Or.inr (Or.inr (Or.inl ⟨(by decide), fun ⟨j, hj, e⟩ => absurd h272 (k1.mpr (by rw [e]; exact m4 hj))⟩))))
  · refine go_iload d_Mo_advance_250 rfl ?_
    refine go_iconst (v := 1) d_Mo_advance_252 rfl ?_
    refine go_icmp_eq 262 d_Mo_advance_253 rfl (fun hn => absurd hn (by decide)) (fun _ => ?_)
    refine go_iload d_Mo_advance_256 rfl ?_
    refine go_iconst (v := 2) d_Mo_advance_258 rfl ?_
    refine go_icmp_ne 277 d_Mo_advance_259 rfl (fun _ => ?_) (fun hn => by first | exact absurd hn (by decide) | exact absurd (by decide) hn)
    refine go_iload d_Mo_advance_277 rfl ?_
    refine go_bipush (v := 11) d_Mo_advance_279 rfl ?_
    refine go_icmp_ne 327 d_Mo_advance_281 rfl (fun _ => ?_) (fun hn => by first | exact absurd hn (by decide) | exact absurd (by decide) hn)
    exact next (fun hh => by rcases hh with hh | hh | ⟨hh, hh2⟩ | ⟨hh, hh2⟩; (exact absurd hh (Nat.not_lt_zero _)); (have hh' : 6 < st.length - 0 + 1 := hh; have h6 : st.length ≠ 6 := fun e => h246 (by rw [e]; rfl); omega); (rcases hh with hh | hh <;> exact absurd hh (by decide)); exact absurd hh (by decide)) _ _ _
theorem c_Mo_adB_1 {m r md e f : Nat} {p nn : Int32} {st : List ab_Sy} {lo : Nat → ab_Sy} {s : sp_E × sp_E} {b0 b1 : ab_Ba} {o5 o10 o11 o12 : Option Value} (hp : pt_Mo sh R) (hmc : mc_at I U) (hm : m < 4) (hl6 : st.length ≤ 6) (hf : rn_cr (fun j => (U j).1.length) 1 nn m st.length → Q (some (.int 2)) (n, sh, X, R, I, L)) (next : ¬ rn_cr (fun j => (U j).1.length) 1 nn m st.length → ∀ o10 o11 o12 : Option Value, gw_Go y_Mo_advance (d + 4) 0 0 327 [some (.ref 533), some (.int (nI m)), some (.int (nI r)), some (.int (nI (104 * r))), some (.int p), o5, some (.int (nI 1)), some (.int nn), some (.long (lN st.length)), none, o10, o11, o12] [] (n, sh, X, R, I, L) Q) : gw_Go y_Mo_advance (d + 4) 0 0 129 [some (.ref 533), some (.int (nI m)), some (.int (nI r)), some (.int (nI (104 * r))), some (.int p), o5, some (.int (nI 1)), some (.int nn), some (.long (lN st.length)), none, o10, o11, o12] [] (n, sh, X, R, I, L) Q := by
  have hp0 := hp
  obtain ⟨s533, s534, s535, s536, s537, s538, s539, s540, s541, s542, s543, s544, s545, s546, s547, s548, s549, s550, s551, s552, s553, s554, s555, s556, s557, r534, r535, r536, r537, r538, r539, r540, r541, r542, r543, r544, r545, r546, r547, r548, r549, r550, r551, r552, r553, r554, r555, r556, r557⟩ := hp
  refine go_iload d_Mo_advance_129 rfl ?_
  refine go_iconst (v := 2) d_Mo_advance_131 rfl ?_
  refine go_icmp_eq 156 d_Mo_advance_132 rfl (fun hn => absurd hn (by decide)) (fun _ => ?_)
  refine go_iload d_Mo_advance_135 rfl ?_
  refine go_bipush (v := 10) d_Mo_advance_137 rfl ?_
  refine go_icmp_eq 156 d_Mo_advance_139 rfl (fun hn => absurd hn (by decide)) (fun _ => ?_)
  refine go_iload d_Mo_advance_142 rfl ?_
  refine go_bipush (v := 12) d_Mo_advance_144 rfl ?_
  refine go_icmp_eq 156 d_Mo_advance_146 rfl (fun hn => absurd hn (by decide)) (fun _ => ?_)
  refine go_iload d_Mo_advance_149 rfl ?_
  refine go_bipush (v := 14) d_Mo_advance_151 rfl ?_
  refine go_icmp_ne 160 d_Mo_advance_153 rfl (fun _ => ?_) (fun hn => by first | exact absurd hn (by decide) | exact absurd (by decide) hn)
  refine go_iload d_Mo_advance_160 rfl ?_
  refine go_iconst (v := 3) d_Mo_advance_162 rfl ?_
  refine go_icmp_eq 186 d_Mo_advance_163 rfl (fun hn => absurd hn (by decide)) (fun _ => ?_)
  refine go_iload d_Mo_advance_166 rfl ?_
  refine go_iconst (v := 4) d_Mo_advance_168 rfl ?_
  refine go_icmp_eq 186 d_Mo_advance_169 rfl (fun hn => absurd hn (by decide)) (fun _ => ?_)
  refine go_iload d_Mo_advance_172 rfl ?_
  refine go_bipush (v := 8) d_Mo_advance_174 rfl ?_
  refine go_icmp_eq 186 d_Mo_advance_176 rfl (fun hn => absurd hn (by decide)) (fun _ => ?_)
  refine go_iload d_Mo_advance_179 rfl ?_
  refine go_bipush (v := 9) d_Mo_advance_181 rfl ?_
  refine go_icmp_ne 192 d_Mo_advance_183 rfl (fun _ => ?_) (fun hn => by first | exact absurd hn (by decide) | exact absurd (by decide) hn)
  refine go_iload d_Mo_advance_192 rfl ?_
  refine go_bipush (v := 11) d_Mo_advance_194 rfl ?_
  refine go_icmp_ne 205 d_Mo_advance_196 rfl (fun _ => ?_) (fun hn => by first | exact absurd hn (by decide) | exact absurd (by decide) hn)
  refine go_lconst (v := 0) d_Mo_advance_205 rfl ?_
  skip
  refine go_lstore d_Mo_advance_206 (Nat.le_of_ble_eq_true rfl) ?_
  simp only [gw_st1, gw_st2, gw_cl1, gw_get, gw_set, gw_big, Bool.false_eq_true, if_false, if_true, ↓reduceIte]
  refine go_iload d_Mo_advance_208 rfl ?_
  refine go_iconst (v := 1) d_Mo_advance_210 rfl ?_
  refine go_icmp_le 221 d_Mo_advance_211 rfl (fun _ => ?_) (fun hn => absurd (by decide) hn)
  refine go_iconst (v := 1) d_Mo_advance_221 rfl ?_
  refine go_goto 226 d_Mo_advance_222 rfl ?_
  refine go_istore d_Mo_advance_226 (Nat.le_of_ble_eq_true rfl) ?_
  simp only [gw_st1, gw_st2, gw_cl1, gw_get, gw_set, gw_big, Bool.false_eq_true, if_false, if_true, ↓reduceIte]
  refine go_lload d_Mo_advance_228 rfl ?_
  refine go_lload d_Mo_advance_230 rfl ?_
  refine go_lcmp_lt 275 d_Mo_advance_232 d_Mo_advance_233 rfl (fun hn => absurd hn ((fun hh => absurd ((lN_lt (b := 0) (by omega) (by decide)).mp hh) (by omega)))) (fun _ => ?_)
  refine go_iload d_Mo_advance_236 rfl ?_
  refine go_if_eq 250 d_Mo_advance_238 rfl (fun hn => absurd hn (by decide)) (fun _ => ?_)
  refine go_lload d_Mo_advance_241 rfl ?_
  refine go_ldc2 d_Mo_advance_243 i_Mo_166 ?_
  refine go_lcmp_eq 275 d_Mo_advance_246 d_Mo_advance_247 rfl (fun h246 => ?_) (fun h246 => ?_)
  · refine go_iconst (v := 2) d_Mo_advance_275 rfl ?_
    exact go_iret d_Mo_advance_276 rfl (hf (by first | exact Or.inl ((lN_lt (b := 0) (by omega) (by decide)).mp h232) | exact Or.inr (Or.inl (by have e6 := (lN_eq (b := 6) (by omega) (by decide)).mp h246; show 6 < st.length - 0 + 1; omega)) | exact Or.inr (Or.inr (Or.inl ⟨(by decide), fun ⟨j, hj, e⟩ => absurd h272 (k1.mpr (by rw [e]; exact m4 hj))⟩))))
  · refine go_iload d_Mo_advance_250 rfl ?_
    refine go_iconst (v := 1) d_Mo_advance_252 rfl ?_
    refine go_icmp_eq 262 d_Mo_advance_253 rfl (fun _ => ?_) (fun hn => absurd (by decide) hn)
    refine go_iload d_Mo_advance_262 rfl ?_
    refine go_i2l d_Mo_advance_264 (rfl) ?_
    refine go_lconst (v := 0) d_Mo_advance_265 rfl ?_
    refine go_ldc2 d_Mo_advance_266 i_Mo_84 ?_
    refine go_S3 d_Mo_advance_269 k_Mo_86 (Nat.le_of_ble_eq_true rfl) (c_Mo_in (l := 0) (h := 3) rfl rfl (fun b1 k1 z1 => ?_))
    refine go_if_ne 277 d_Mo_advance_272 rfl (fun h272 => ?_) (fun h272 => ?_)
    · refine go_iload d_Mo_advance_277 rfl ?_
      refine go_bipush (v := 11) d_Mo_advance_279 rfl ?_
      refine go_icmp_ne 327 d_Mo_advance_281 rfl (fun _ => ?_) (fun hn => by first | exact absurd hn (by decide) | exact absurd (by decide) hn)
      exact next (fun hh => by rcases hh with hh | hh | ⟨hh, hh2⟩ | ⟨hh, hh2⟩; (exact absurd hh (Nat.not_lt_zero _)); (have hh' : 6 < st.length - 0 + 1 := hh; have h6 : st.length ≠ 6 := fun e => h246 (by rw [e]; rfl); omega); (exact hh2 (m4' (k1.mp h272))); exact absurd hh (by decide)) _ _ _
    · refine go_iconst (v := 2) d_Mo_advance_275 rfl ?_
      exact go_iret d_Mo_advance_276 rfl (hf (by first | exact Or.inl ((lN_lt (b := 0) (by omega) (by decide)).mp h232) | exact Or.inr (Or.inl (by have e6 := (lN_eq (b := 6) (by omega) (by decide)).mp h246; show 6 < st.length - 0 + 1; omega)) | exact Or.inr (Or.inr (Or.inl ⟨(by decide), fun ⟨j, hj, e⟩ => absurd h272 (k1.mpr (by rw [e]; exact m4 hj))⟩))))
theorem c_Mo_adB_2 {m r md e f : Nat} {p nn : Int32} {st : List ab_Sy} {lo : Nat → ab_Sy} {s : sp_E × sp_E} {b0 b1 : ab_Ba} {o5 o10 o11 o12 : Option Value} (hp : pt_Mo sh R) (hmc : mc_at I U) (hm : m < 4) (hl6 : st.length ≤ 6) (hf : rn_cr (fun j => (U j).1.length) 2 nn m st.length → Q (some (.int 2)) (n, sh, X, R, I, L)) (next : ¬ rn_cr (fun j => (U j).1.length) 2 nn m st.length → ∀ o10 o11 o12 : Option Value, gw_Go y_Mo_advance (d + 4) 0 0 327 [some (.ref 533), some (.int (nI m)), some (.int (nI r)), some (.int (nI (104 * r))), some (.int p), o5, some (.int (nI 2)), some (.int nn), some (.long (lN st.length)), none, o10, o11, o12] [] (n, sh, X, R, I, L) Q) : gw_Go y_Mo_advance (d + 4) 0 0 129 [some (.ref 533), some (.int (nI m)), some (.int (nI r)), some (.int (nI (104 * r))), some (.int p), o5, some (.int (nI 2)), some (.int nn), some (.long (lN st.length)), none, o10, o11, o12] [] (n, sh, X, R, I, L) Q := by
  have hp0 := hp
  obtain ⟨s533, s534, s535, s536, s537, s538, s539, s540, s541, s542, s543, s544, s545, s546, s547, s548, s549, s550, s551, s552, s553, s554, s555, s556, s557, r534, r535, r536, r537, r538, r539, r540, r541, r542, r543, r544, r545, r546, r547, r548, r549, r550, r551, r552, r553, r554, r555, r556, r557⟩ := hp
  refine go_iload d_Mo_advance_129 rfl ?_
  refine go_iconst (v := 2) d_Mo_advance_131 rfl ?_
  refine go_icmp_eq 156 d_Mo_advance_132 rfl (fun _ => ?_) (fun hn => absurd (by decide) hn)
  refine go_lconst (v := 1) d_Mo_advance_156 rfl ?_
  refine go_goto 206 d_Mo_advance_157 rfl ?_
  skip
  refine go_lstore d_Mo_advance_206 (Nat.le_of_ble_eq_true rfl) ?_
  simp only [gw_st1, gw_st2, gw_cl1, gw_get, gw_set, gw_big, Bool.false_eq_true, if_false, if_true, ↓reduceIte]
  refine go_iload d_Mo_advance_208 rfl ?_
  refine go_iconst (v := 1) d_Mo_advance_210 rfl ?_
  refine go_icmp_le 221 d_Mo_advance_211 rfl (fun hn => absurd hn (by decide)) (fun _ => ?_)
  refine go_iload d_Mo_advance_214 rfl ?_
  refine go_bipush (v := 13) d_Mo_advance_216 rfl ?_
  refine go_icmp_ne 225 d_Mo_advance_218 rfl (fun _ => ?_) (fun hn => by first | exact absurd hn (by decide) | exact absurd (by decide) hn)
  refine go_iconst (v := 0) d_Mo_advance_225 rfl ?_
  refine go_istore d_Mo_advance_226 (Nat.le_of_ble_eq_true rfl) ?_
  simp only [gw_st1, gw_st2, gw_cl1, gw_get, gw_set, gw_big, Bool.false_eq_true, if_false, if_true, ↓reduceIte]
  refine go_lload d_Mo_advance_228 rfl ?_
  refine go_lload d_Mo_advance_230 rfl ?_
  refine go_lcmp_lt 275 d_Mo_advance_232 d_Mo_advance_233 rfl (fun h232 => ?_) (fun h232 => ?_)
  · refine go_iconst (v := 2) d_Mo_advance_275 rfl ?_
    exact go_iret d_Mo_advance_276 rfl (hf (by first | exact Or.inl ((lN_lt (b := 1) (by omega) (by decide)).mp h232) | exact Or.inr (Or.inl (by have e6 := (lN_eq (b := 6) (by omega) (by decide)).mp h246; show 6 < st.length - 1 + 0; omega)) | exact Or.inr (Or.inr (Or.inl ⟨(by decide), fun ⟨j, hj, e⟩ => absurd h272 (k1.mpr (by rw [e]; exact m4 hj))⟩))))
  · refine go_iload d_Mo_advance_236 rfl ?_
    refine go_if_eq 250 d_Mo_advance_238 rfl (fun _ => ?_) (fun hn => absurd (by decide) hn)
    refine go_iload d_Mo_advance_250 rfl ?_
    refine go_iconst (v := 1) d_Mo_advance_252 rfl ?_
    refine go_icmp_eq 262 d_Mo_advance_253 rfl (fun hn => absurd hn (by decide)) (fun _ => ?_)
    refine go_iload d_Mo_advance_256 rfl ?_
    refine go_iconst (v := 2) d_Mo_advance_258 rfl ?_
    refine go_icmp_ne 277 d_Mo_advance_259 rfl (fun hn => absurd hn (by decide)) (fun _ => ?_)
    refine go_iload d_Mo_advance_262 rfl ?_
    refine go_i2l d_Mo_advance_264 (rfl) ?_
    refine go_lconst (v := 0) d_Mo_advance_265 rfl ?_
    refine go_ldc2 d_Mo_advance_266 i_Mo_84 ?_
    refine go_S3 d_Mo_advance_269 k_Mo_86 (Nat.le_of_ble_eq_true rfl) (c_Mo_in (l := 0) (h := 3) rfl rfl (fun b1 k1 z1 => ?_))
    refine go_if_ne 277 d_Mo_advance_272 rfl (fun h272 => ?_) (fun h272 => ?_)
    · refine go_iload d_Mo_advance_277 rfl ?_
      refine go_bipush (v := 11) d_Mo_advance_279 rfl ?_
      refine go_icmp_ne 327 d_Mo_advance_281 rfl (fun _ => ?_) (fun hn => by first | exact absurd hn (by decide) | exact absurd (by decide) hn)
      exact next (fun hh => by rcases hh with hh | hh | ⟨hh, hh2⟩ | ⟨hh, hh2⟩; (exact h232 ((lN_lt (b := 1) (by omega) (by decide)).mpr hh)); (have hh' : 6 < st.length - 1 + 0 := hh; omega); (exact hh2 (m4' (k1.mp h272))); exact absurd hh (by decide)) _ _ _
    · refine go_iconst (v := 2) d_Mo_advance_275 rfl ?_
      exact go_iret d_Mo_advance_276 rfl (hf (by first | exact Or.inl ((lN_lt (b := 1) (by omega) (by decide)).mp h232) | exact Or.inr (Or.inl (by have e6 := (lN_eq (b := 6) (by omega) (by decide)).mp h246; show 6 < st.length - 1 + 0; omega)) | exact Or.inr (Or.inr (Or.inl ⟨(by decide), fun ⟨j, hj, e⟩ => absurd h272 (k1.mpr (by rw [e]; exact m4 hj))⟩))))
theorem c_Mo_adB_3 {m r md e f : Nat} {p nn : Int32} {st : List ab_Sy} {lo : Nat → ab_Sy} {s : sp_E × sp_E} {b0 b1 : ab_Ba} {o5 o10 o11 o12 : Option Value} (hp : pt_Mo sh R) (hmc : mc_at I U) (hm : m < 4) (hl6 : st.length ≤ 6) (hf : rn_cr (fun j => (U j).1.length) 3 nn m st.length → Q (some (.int 2)) (n, sh, X, R, I, L)) (next : ¬ rn_cr (fun j => (U j).1.length) 3 nn m st.length → ∀ o10 o11 o12 : Option Value, gw_Go y_Mo_advance (d + 4) 0 0 327 [some (.ref 533), some (.int (nI m)), some (.int (nI r)), some (.int (nI (104 * r))), some (.int p), o5, some (.int (nI 3)), some (.int nn), some (.long (lN st.length)), none, o10, o11, o12] [] (n, sh, X, R, I, L) Q) : gw_Go y_Mo_advance (d + 4) 0 0 129 [some (.ref 533), some (.int (nI m)), some (.int (nI r)), some (.int (nI (104 * r))), some (.int p), o5, some (.int (nI 3)), some (.int nn), some (.long (lN st.length)), none, o10, o11, o12] [] (n, sh, X, R, I, L) Q := by
  have hp0 := hp
  obtain ⟨s533, s534, s535, s536, s537, s538, s539, s540, s541, s542, s543, s544, s545, s546, s547, s548, s549, s550, s551, s552, s553, s554, s555, s556, s557, r534, r535, r536, r537, r538, r539, r540, r541, r542, r543, r544, r545, r546, r547, r548, r549, r550, r551, r552, r553, r554, r555, r556, r557⟩ := hp
  refine go_iload d_Mo_advance_129 rfl ?_
  refine go_iconst (v := 2) d_Mo_advance_131 rfl ?_
  refine go_icmp_eq 156 d_Mo_advance_132 rfl (fun hn => absurd hn (by decide)) (fun _ => ?_)
  refine go_iload d_Mo_advance_135 rfl ?_
  refine go_bipush (v := 10) d_Mo_advance_137 rfl ?_
  refine go_icmp_eq 156 d_Mo_advance_139 rfl (fun hn => absurd hn (by decide)) (fun _ => ?_)
  refine go_iload d_Mo_advance_142 rfl ?_
  refine go_bipush (v := 12) d_Mo_advance_144 rfl ?_
  refine go_icmp_eq 156 d_Mo_advance_146 rfl (fun hn => absurd hn (by decide)) (fun _ => ?_)
  refine go_iload d_Mo_advance_149 rfl ?_
  refine go_bipush (v := 14) d_Mo_advance_151 rfl ?_
  refine go_icmp_ne 160 d_Mo_advance_153 rfl (fun _ => ?_) (fun hn => by first | exact absurd hn (by decide) | exact absurd (by decide) hn)
  refine go_iload d_Mo_advance_160 rfl ?_
  refine go_iconst (v := 3) d_Mo_advance_162 rfl ?_
  refine go_icmp_eq 186 d_Mo_advance_163 rfl (fun _ => ?_) (fun hn => absurd (by decide) hn)
  refine go_ldc2 d_Mo_advance_186 i_Mo_164 ?_
  refine go_goto 206 d_Mo_advance_189 rfl ?_
  skip
  refine go_lstore d_Mo_advance_206 (Nat.le_of_ble_eq_true rfl) ?_
  simp only [gw_st1, gw_st2, gw_cl1, gw_get, gw_set, gw_big, Bool.false_eq_true, if_false, if_true, ↓reduceIte]
  refine go_iload d_Mo_advance_208 rfl ?_
  refine go_iconst (v := 1) d_Mo_advance_210 rfl ?_
  refine go_icmp_le 221 d_Mo_advance_211 rfl (fun hn => absurd hn (by decide)) (fun _ => ?_)
  refine go_iload d_Mo_advance_214 rfl ?_
  refine go_bipush (v := 13) d_Mo_advance_216 rfl ?_
  refine go_icmp_ne 225 d_Mo_advance_218 rfl (fun _ => ?_) (fun hn => by first | exact absurd hn (by decide) | exact absurd (by decide) hn)
  refine go_iconst (v := 0) d_Mo_advance_225 rfl ?_
  refine go_istore d_Mo_advance_226 (Nat.le_of_ble_eq_true rfl) ?_
  simp only [gw_st1, gw_st2, gw_cl1, gw_get, gw_set, gw_big, Bool.false_eq_true, if_false, if_true, ↓reduceIte]
  refine go_lload d_Mo_advance_228 rfl ?_
  refine go_lload d_Mo_advance_230 rfl ?_
  refine go_lcmp_lt 275 d_Mo_advance_232 d_Mo_advance_233 rfl (fun h232 => ?_) (fun h232 => ?_)
  · refine go_iconst (v := 2) d_Mo_advance_275 rfl ?_
    exact go_iret d_Mo_advance_276 rfl (hf (by first | exact Or.inl ((lN_lt (b := 2) (by omega) (by decide)).mp h232) | exact Or.inr (Or.inl (by have e6 := (lN_eq (b := 6) (by omega) (by decide)).mp h246; show 6 < st.length - 2 + 1; omega)) | exact Or.inr (Or.inr (Or.inl ⟨(by decide), fun ⟨j, hj, e⟩ => absurd h272 (k1.mpr (by rw [e]; exact m4 hj))⟩))))
  · refine go_iload d_Mo_advance_236 rfl ?_
    refine go_if_eq 250 d_Mo_advance_238 rfl (fun _ => ?_) (fun hn => absurd (by decide) hn)
    refine go_iload d_Mo_advance_250 rfl ?_
    refine go_iconst (v := 1) d_Mo_advance_252 rfl ?_
    refine go_icmp_eq 262 d_Mo_advance_253 rfl (fun hn => absurd hn (by decide)) (fun _ => ?_)
    refine go_iload d_Mo_advance_256 rfl ?_
    refine go_iconst (v := 2) d_Mo_advance_258 rfl ?_
    refine go_icmp_ne 277 d_Mo_advance_259 rfl (fun _ => ?_) (fun hn => by first | exact absurd hn (by decide) | exact absurd (by decide) hn)
    refine go_iload d_Mo_advance_277 rfl ?_
    refine go_bipush (v := 11) d_Mo_advance_279 rfl ?_
    refine go_icmp_ne 327 d_Mo_advance_281 rfl (fun _ => ?_) (fun hn => by first | exact absurd hn (by decide) | exact absurd (by decide) hn)
    exact next (fun hh => by rcases hh with hh | hh | ⟨hh, hh2⟩ | ⟨hh, hh2⟩; (exact h232 ((lN_lt (b := 2) (by omega) (by decide)).mpr hh)); (have hh' : 6 < st.length - 2 + 1 := hh; omega); (rcases hh with hh | hh <;> exact absurd hh (by decide)); exact absurd hh (by decide)) _ _ _
theorem c_Mo_adB_4 {m r md e f : Nat} {p nn : Int32} {st : List ab_Sy} {lo : Nat → ab_Sy} {s : sp_E × sp_E} {b0 b1 : ab_Ba} {o5 o10 o11 o12 : Option Value} (hp : pt_Mo sh R) (hmc : mc_at I U) (hm : m < 4) (hl6 : st.length ≤ 6) (hf : rn_cr (fun j => (U j).1.length) 4 nn m st.length → Q (some (.int 2)) (n, sh, X, R, I, L)) (next : ¬ rn_cr (fun j => (U j).1.length) 4 nn m st.length → ∀ o10 o11 o12 : Option Value, gw_Go y_Mo_advance (d + 4) 0 0 327 [some (.ref 533), some (.int (nI m)), some (.int (nI r)), some (.int (nI (104 * r))), some (.int p), o5, some (.int (nI 4)), some (.int nn), some (.long (lN st.length)), none, o10, o11, o12] [] (n, sh, X, R, I, L) Q) : gw_Go y_Mo_advance (d + 4) 0 0 129 [some (.ref 533), some (.int (nI m)), some (.int (nI r)), some (.int (nI (104 * r))), some (.int p), o5, some (.int (nI 4)), some (.int nn), some (.long (lN st.length)), none, o10, o11, o12] [] (n, sh, X, R, I, L) Q := by
  have hp0 := hp
  obtain ⟨s533, s534, s535, s536, s537, s538, s539, s540, s541, s542, s543, s544, s545, s546, s547, s548, s549, s550, s551, s552, s553, s554, s555, s556, s557, r534, r535, r536, r537, r538, r539, r540, r541, r542, r543, r544, r545, r546, r547, r548, r549, r550, r551, r552, r553, r554, r555, r556, r557⟩ := hp
  refine go_iload d_Mo_advance_129 rfl ?_
  refine go_iconst (v := 2) d_Mo_advance_131 rfl ?_
  refine go_icmp_eq 156 d_Mo_advance_132 rfl (fun hn => absurd hn (by decide)) (fun _ => ?_)
  refine go_iload d_Mo_advance_135 rfl ?_
  refine go_bipush (v := 10) d_Mo_advance_137 rfl ?_
  refine go_icmp_eq 156 d_Mo_advance_139 rfl (fun hn => absurd hn (by decide)) (fun _ => ?_)
  refine go_iload d_Mo_advance_142 rfl ?_
  refine go_bipush (v := 12) d_Mo_advance_144 rfl ?_
  refine go_icmp_eq 156 d_Mo_advance_146 rfl (fun hn => absurd hn (by decide)) (fun _ => ?_)
  refine go_iload d_Mo_advance_149 rfl ?_
  refine go_bipush (v := 14) d_Mo_advance_151 rfl ?_
  refine go_icmp_ne 160 d_Mo_advance_153 rfl (fun _ => ?_) (fun hn => by first | exact absurd hn (by decide) | exact absurd (by decide) hn)
  refine go_iload d_Mo_advance_160 rfl ?_
  refine go_iconst (v := 3) d_Mo_advance_162 rfl ?_
  refine go_icmp_eq 186 d_Mo_advance_163 rfl (fun hn => absurd hn (by decide)) (fun _ => ?_)
  refine go_iload d_Mo_advance_166 rfl ?_
  refine go_iconst (v := 4) d_Mo_advance_168 rfl ?_
  refine go_icmp_eq 186 d_Mo_advance_169 rfl (fun _ => ?_) (fun hn => absurd (by decide) hn)
  refine go_ldc2 d_Mo_advance_186 i_Mo_164 ?_
  refine go_goto 206 d_Mo_advance_189 rfl ?_
  skip
  refine go_lstore d_Mo_advance_206 (Nat.le_of_ble_eq_true rfl) ?_
  simp only [gw_st1, gw_st2, gw_cl1, gw_get, gw_set, gw_big, Bool.false_eq_true, if_false, if_true, ↓reduceIte]
  refine go_iload d_Mo_advance_208 rfl ?_
  refine go_iconst (v := 1) d_Mo_advance_210 rfl ?_
  refine go_icmp_le 221 d_Mo_advance_211 rfl (fun hn => absurd hn (by decide)) (fun _ => ?_)
  refine go_iload d_Mo_advance_214 rfl ?_
  refine go_bipush (v := 13) d_Mo_advance_216 rfl ?_
  refine go_icmp_ne 225 d_Mo_advance_218 rfl (fun _ => ?_) (fun hn => by first | exact absurd hn (by decide) | exact absurd (by decide) hn)
  refine go_iconst (v := 0) d_Mo_advance_225 rfl ?_
  refine go_istore d_Mo_advance_226 (Nat.le_of_ble_eq_true rfl) ?_
  simp only [gw_st1, gw_st2, gw_cl1, gw_get, gw_set, gw_big, Bool.false_eq_true, if_false, if_true, ↓reduceIte]
  refine go_lload d_Mo_advance_228 rfl ?_
  refine go_lload d_Mo_advance_230 rfl ?_
  refine go_lcmp_lt 275 d_Mo_advance_232 d_Mo_advance_233 rfl (fun h232 => ?_) (fun h232 => ?_)
  · refine go_iconst (v := 2) d_Mo_advance_275 rfl ?_
    exact go_iret d_Mo_advance_276 rfl (hf (by first | exact Or.inl ((lN_lt (b := 2) (by omega) (by decide)).mp h232) | exact Or.inr (Or.inl (by have e6 := (lN_eq (b := 6) (by omega) (by decide)).mp h246; show 6 < st.length - 2 + 1; omega)) | exact Or.inr (Or.inr (Or.inl ⟨(by decide), fun ⟨j, hj, e⟩ => absurd h272 (k1.mpr (by rw [e]; exact m4 hj))⟩))))
  · refine go_iload d_Mo_advance_236 rfl ?_
    refine go_if_eq 250 d_Mo_advance_238 rfl (fun _ => ?_) (fun hn => absurd (by decide) hn)
    refine go_iload d_Mo_advance_250 rfl ?_
    refine go_iconst (v := 1) d_Mo_advance_252 rfl ?_
    refine go_icmp_eq 262 d_Mo_advance_253 rfl (fun hn => absurd hn (by decide)) (fun _ => ?_)
    refine go_iload d_Mo_advance_256 rfl ?_
    refine go_iconst (v := 2) d_Mo_advance_258 rfl ?_
    refine go_icmp_ne 277 d_Mo_advance_259 rfl (fun _ => ?_) (fun hn => by first | exact absurd hn (by decide) | exact absurd (by decide) hn)
    refine go_iload d_Mo_advance_277 rfl ?_
    refine go_bipush (v := 11) d_Mo_advance_279 rfl ?_
    refine go_icmp_ne 327 d_Mo_advance_281 rfl (fun _ => ?_) (fun hn => by first | exact absurd hn (by decide) | exact absurd (by decide) hn)
    exact next (fun hh => by rcases hh with hh | hh | ⟨hh, hh2⟩ | ⟨hh, hh2⟩; (exact h232 ((lN_lt (b := 2) (by omega) (by decide)).mpr hh)); (have hh' : 6 < st.length - 2 + 1 := hh; omega); (rcases hh with hh | hh <;> exact absurd hh (by decide)); exact absurd hh (by decide)) _ _ _
theorem c_Mo_adB_5 {m r md e f : Nat} {p nn : Int32} {st : List ab_Sy} {lo : Nat → ab_Sy} {s : sp_E × sp_E} {b0 b1 : ab_Ba} {o5 o10 o11 o12 : Option Value} (hp : pt_Mo sh R) (hmc : mc_at I U) (hm : m < 4) (hl6 : st.length ≤ 6) (hf : rn_cr (fun j => (U j).1.length) 5 nn m st.length → Q (some (.int 2)) (n, sh, X, R, I, L)) (next : ¬ rn_cr (fun j => (U j).1.length) 5 nn m st.length → ∀ o10 o11 o12 : Option Value, gw_Go y_Mo_advance (d + 4) 0 0 327 [some (.ref 533), some (.int (nI m)), some (.int (nI r)), some (.int (nI (104 * r))), some (.int p), o5, some (.int (nI 5)), some (.int nn), some (.long (lN st.length)), none, o10, o11, o12] [] (n, sh, X, R, I, L) Q) : gw_Go y_Mo_advance (d + 4) 0 0 129 [some (.ref 533), some (.int (nI m)), some (.int (nI r)), some (.int (nI (104 * r))), some (.int p), o5, some (.int (nI 5)), some (.int nn), some (.long (lN st.length)), none, o10, o11, o12] [] (n, sh, X, R, I, L) Q := by
  have hp0 := hp
  obtain ⟨s533, s534, s535, s536, s537, s538, s539, s540, s541, s542, s543, s544, s545, s546, s547, s548, s549, s550, s551, s552, s553, s554, s555, s556, s557, r534, r535, r536, r537, r538, r539, r540, r541, r542, r543, r544, r545, r546, r547, r548, r549, r550, r551, r552, r553, r554, r555, r556, r557⟩ := hp
  refine go_iload d_Mo_advance_129 rfl ?_
  refine go_iconst (v := 2) d_Mo_advance_131 rfl ?_
  refine go_icmp_eq 156 d_Mo_advance_132 rfl (fun hn => absurd hn (by decide)) (fun _ => ?_)
  refine go_iload d_Mo_advance_135 rfl ?_
  refine go_bipush (v := 10) d_Mo_advance_137 rfl ?_
  refine go_icmp_eq 156 d_Mo_advance_139 rfl (fun hn => absurd hn (by decide)) (fun _ => ?_)
  refine go_iload d_Mo_advance_142 rfl ?_
  refine go_bipush (v := 12) d_Mo_advance_144 rfl ?_
  refine go_icmp_eq 156 d_Mo_advance_146 rfl (fun hn => absurd hn (by decide)) (fun _ => ?_)
  refine go_iload d_Mo_advance_149 rfl ?_
  refine go_bipush (v := 14) d_Mo_advance_151 rfl ?_
  refine go_icmp_ne 160 d_Mo_advance_153 rfl (fun _ => ?_) (fun hn => by first | exact absurd hn (by decide) | exact absurd (by decide) hn)
  refine go_iload d_Mo_advance_160 rfl ?_
  refine go_iconst (v := 3) d_Mo_advance_162 rfl ?_
  refine go_icmp_eq 186 d_Mo_advance_163 rfl (fun hn => absurd hn (by decide)) (fun _ => ?_)
  refine go_iload d_Mo_advance_166 rfl ?_
  refine go_iconst (v := 4) d_Mo_advance_168 rfl ?_
  refine go_icmp_eq 186 d_Mo_advance_169 rfl (fun hn => absurd hn (by decide)) (fun _ => ?_)
  refine go_iload d_Mo_advance_172 rfl ?_
  refine go_bipush (v := 8) d_Mo_advance_174 rfl ?_
  refine go_icmp_eq 186 d_Mo_advance_176 rfl (fun hn => absurd hn (by decide)) (fun _ => ?_)
  refine go_iload d_Mo_advance_179 rfl ?_
  refine go_bipush (v := 9) d_Mo_advance_181 rfl ?_
  refine go_icmp_ne 192 d_Mo_advance_183 rfl (fun _ => ?_) (fun hn => by first | exact absurd hn (by decide) | exact absurd (by decide) hn)
  refine go_iload d_Mo_advance_192 rfl ?_
  refine go_bipush (v := 11) d_Mo_advance_194 rfl ?_
  refine go_icmp_ne 205 d_Mo_advance_196 rfl (fun _ => ?_) (fun hn => by first | exact absurd hn (by decide) | exact absurd (by decide) hn)
  refine go_lconst (v := 0) d_Mo_advance_205 rfl ?_
  skip
  refine go_lstore d_Mo_advance_206 (Nat.le_of_ble_eq_true rfl) ?_
  simp only [gw_st1, gw_st2, gw_cl1, gw_get, gw_set, gw_big, Bool.false_eq_true, if_false, if_true, ↓reduceIte]
  refine go_iload d_Mo_advance_208 rfl ?_
  refine go_iconst (v := 1) d_Mo_advance_210 rfl ?_
  refine go_icmp_le 221 d_Mo_advance_211 rfl (fun hn => absurd hn (by decide)) (fun _ => ?_)
  refine go_iload d_Mo_advance_214 rfl ?_
  refine go_bipush (v := 13) d_Mo_advance_216 rfl ?_
  refine go_icmp_ne 225 d_Mo_advance_218 rfl (fun _ => ?_) (fun hn => by first | exact absurd hn (by decide) | exact absurd (by decide) hn)
  refine go_iconst (v := 0) d_Mo_advance_225 rfl ?_
  refine go_istore d_Mo_advance_226 (Nat.le_of_ble_eq_true rfl) ?_
  simp only [gw_st1, gw_st2, gw_cl1, gw_get, gw_set, gw_big, Bool.false_eq_true, if_false, if_true, ↓reduceIte]
  refine go_lload d_Mo_advance_228 rfl ?_
  refine go_lload d_Mo_advance_230 rfl ?_
  refine go_lcmp_lt 275 d_Mo_advance_232 d_Mo_advance_233 rfl (fun hn => absurd hn ((fun hh => absurd ((lN_lt (b := 0) (by omega) (by decide)).mp hh) (by omega)))) (fun _ => ?_)
  refine go_iload d_Mo_advance_236 rfl ?_
  refine go_if_eq 250 d_Mo_advance_238 rfl (fun _ => ?_) (fun hn => absurd (by decide) hn)
  refine go_iload d_Mo_advance_250 rfl ?_
  refine go_iconst (v := 1) d_Mo_advance_252 rfl ?_
  refine go_icmp_eq 262 d_Mo_advance_253 rfl (fun hn => absurd hn (by decide)) (fun _ => ?_)
  refine go_iload d_Mo_advance_256 rfl ?_
  refine go_iconst (v := 2) d_Mo_advance_258 rfl ?_
  refine go_icmp_ne 277 d_Mo_advance_259 rfl (fun _ => ?_) (fun hn => by first | exact absurd hn (by decide) | exact absurd (by decide) hn)
  refine go_iload d_Mo_advance_277 rfl ?_
  refine go_bipush (v := 11) d_Mo_advance_279 rfl ?_
  refine go_icmp_ne 327 d_Mo_advance_281 rfl (fun _ => ?_) (fun hn => by first | exact absurd hn (by decide) | exact absurd (by decide) hn)
  exact next (fun hh => by rcases hh with hh | hh | ⟨hh, hh2⟩ | ⟨hh, hh2⟩; (exact absurd hh (Nat.not_lt_zero _)); (have hh' : 6 < st.length - 0 + 0 := hh; omega); (rcases hh with hh | hh <;> exact absurd hh (by decide)); exact absurd hh (by decide)) _ _ _
theorem c_Mo_adB_6 {m r md e f : Nat} {p nn : Int32} {st : List ab_Sy} {lo : Nat → ab_Sy} {s : sp_E × sp_E} {b0 b1 : ab_Ba} {o5 o10 o11 o12 : Option Value} (hp : pt_Mo sh R) (hmc : mc_at I U) (hm : m < 4) (hl6 : st.length ≤ 6) (hf : rn_cr (fun j => (U j).1.length) 6 nn m st.length → Q (some (.int 2)) (n, sh, X, R, I, L)) (next : ¬ rn_cr (fun j => (U j).1.length) 6 nn m st.length → ∀ o10 o11 o12 : Option Value, gw_Go y_Mo_advance (d + 4) 0 0 327 [some (.ref 533), some (.int (nI m)), some (.int (nI r)), some (.int (nI (104 * r))), some (.int p), o5, some (.int (nI 6)), some (.int nn), some (.long (lN st.length)), none, o10, o11, o12] [] (n, sh, X, R, I, L) Q) : gw_Go y_Mo_advance (d + 4) 0 0 129 [some (.ref 533), some (.int (nI m)), some (.int (nI r)), some (.int (nI (104 * r))), some (.int p), o5, some (.int (nI 6)), some (.int nn), some (.long (lN st.length)), none, o10, o11, o12] [] (n, sh, X, R, I, L) Q := by
  have hp0 := hp
  obtain ⟨s533, s534, s535, s536, s537, s538, s539, s540, s541, s542, s543, s544, s545, s546, s547, s548, s549, s550, s551, s552, s553, s554, s555, s556, s557, r534, r535, r536, r537, r538, r539, r540, r541, r542, r543, r544, r545, r546, r547, r548, r549, r550, r551, r552, r553, r554, r555, r556, r557⟩ := hp
  refine go_iload d_Mo_advance_129 rfl ?_
  refine go_iconst (v := 2) d_Mo_advance_131 rfl ?_
  refine go_icmp_eq 156 d_Mo_advance_132 rfl (fun hn => absurd hn (by decide)) (fun _ => ?_)
  refine go_iload d_Mo_advance_135 rfl ?_
  refine go_bipush (v := 10) d_Mo_advance_137 rfl ?_
  refine go_icmp_eq 156 d_Mo_advance_139 rfl (fun hn => absurd hn (by decide)) (fun _ => ?_)
  refine go_iload d_Mo_advance_142 rfl ?_
  refine go_bipush (v := 12) d_Mo_advance_144 rfl ?_
  refine go_icmp_eq 156 d_Mo_advance_146 rfl (fun hn => absurd hn (by decide)) (fun _ => ?_)
  refine go_iload d_Mo_advance_149 rfl ?_
  refine go_bipush (v := 14) d_Mo_advance_151 rfl ?_
  refine go_icmp_ne 160 d_Mo_advance_153 rfl (fun _ => ?_) (fun hn => by first | exact absurd hn (by decide) | exact absurd (by decide) hn)
  refine go_iload d_Mo_advance_160 rfl ?_
  refine go_iconst (v := 3) d_Mo_advance_162 rfl ?_
  refine go_icmp_eq 186 d_Mo_advance_163 rfl (fun hn => absurd hn (by decide)) (fun _ => ?_)
  refine go_iload d_Mo_advance_166 rfl ?_
  refine go_iconst (v := 4) d_Mo_advance_168 rfl ?_
  refine go_icmp_eq 186 d_Mo_advance_169 rfl (fun hn => absurd hn (by decide)) (fun _ => ?_)
  refine go_iload d_Mo_advance_172 rfl ?_
  refine go_bipush (v := 8) d_Mo_advance_174 rfl ?_
  refine go_icmp_eq 186 d_Mo_advance_176 rfl (fun hn => absurd hn (by decide)) (fun _ => ?_)
  refine go_iload d_Mo_advance_179 rfl ?_
  refine go_bipush (v := 9) d_Mo_advance_181 rfl ?_
  refine go_icmp_ne 192 d_Mo_advance_183 rfl (fun _ => ?_) (fun hn => by first | exact absurd hn (by decide) | exact absurd (by decide) hn)
  refine go_iload d_Mo_advance_192 rfl ?_
  refine go_bipush (v := 11) d_Mo_advance_194 rfl ?_
  refine go_icmp_ne 205 d_Mo_advance_196 rfl (fun _ => ?_) (fun hn => by first | exact absurd hn (by decide) | exact absurd (by decide) hn)
  refine go_lconst (v := 0) d_Mo_advance_205 rfl ?_
  skip
  refine go_lstore d_Mo_advance_206 (Nat.le_of_ble_eq_true rfl) ?_
  simp only [gw_st1, gw_st2, gw_cl1, gw_get, gw_set, gw_big, Bool.false_eq_true, if_false, if_true, ↓reduceIte]
  refine go_iload d_Mo_advance_208 rfl ?_
  refine go_iconst (v := 1) d_Mo_advance_210 rfl ?_
  refine go_icmp_le 221 d_Mo_advance_211 rfl (fun hn => absurd hn (by decide)) (fun _ => ?_)
  refine go_iload d_Mo_advance_214 rfl ?_
  refine go_bipush (v := 13) d_Mo_advance_216 rfl ?_
  refine go_icmp_ne 225 d_Mo_advance_218 rfl (fun _ => ?_) (fun hn => by first | exact absurd hn (by decide) | exact absurd (by decide) hn)
  refine go_iconst (v := 0) d_Mo_advance_225 rfl ?_
  refine go_istore d_Mo_advance_226 (Nat.le_of_ble_eq_true rfl) ?_
  simp only [gw_st1, gw_st2, gw_cl1, gw_get, gw_set, gw_big, Bool.false_eq_true, if_false, if_true, ↓reduceIte]
  refine go_lload d_Mo_advance_228 rfl ?_
  refine go_lload d_Mo_advance_230 rfl ?_
  refine go_lcmp_lt 275 d_Mo_advance_232 d_Mo_advance_233 rfl (fun hn => absurd hn ((fun hh => absurd ((lN_lt (b := 0) (by omega) (by decide)).mp hh) (by omega)))) (fun _ => ?_)
  refine go_iload d_Mo_advance_236 rfl ?_
  refine go_if_eq 250 d_Mo_advance_238 rfl (fun _ => ?_) (fun hn => absurd (by decide) hn)
  refine go_iload d_Mo_advance_250 rfl ?_
  refine go_iconst (v := 1) d_Mo_advance_252 rfl ?_
  refine go_icmp_eq 262 d_Mo_advance_253 rfl (fun hn => absurd hn (by decide)) (fun _ => ?_)
  refine go_iload d_Mo_advance_256 rfl ?_
  refine go_iconst (v := 2) d_Mo_advance_258 rfl ?_
  refine go_icmp_ne 277 d_Mo_advance_259 rfl (fun _ => ?_) (fun hn => by first | exact absurd hn (by decide) | exact absurd (by decide) hn)
  refine go_iload d_Mo_advance_277 rfl ?_
  refine go_bipush (v := 11) d_Mo_advance_279 rfl ?_
  refine go_icmp_ne 327 d_Mo_advance_281 rfl (fun _ => ?_) (fun hn => by first | exact absurd hn (by decide) | exact absurd (by decide) hn)
  exact next (fun hh => by rcases hh with hh | hh | ⟨hh, hh2⟩ | ⟨hh, hh2⟩; (exact absurd hh (Nat.not_lt_zero _)); (have hh' : 6 < st.length - 0 + 0 := hh; omega); (rcases hh with hh | hh <;> exact absurd hh (by decide)); exact absurd hh (by decide)) _ _ _
theorem c_Mo_adB_7 {m r md e f : Nat} {p nn : Int32} {st : List ab_Sy} {lo : Nat → ab_Sy} {s : sp_E × sp_E} {b0 b1 : ab_Ba} {o5 o10 o11 o12 : Option Value} (hp : pt_Mo sh R) (hmc : mc_at I U) (hm : m < 4) (hl6 : st.length ≤ 6) (hf : rn_cr (fun j => (U j).1.length) 7 nn m st.length → Q (some (.int 2)) (n, sh, X, R, I, L)) (next : ¬ rn_cr (fun j => (U j).1.length) 7 nn m st.length → ∀ o10 o11 o12 : Option Value, gw_Go y_Mo_advance (d + 4) 0 0 327 [some (.ref 533), some (.int (nI m)), some (.int (nI r)), some (.int (nI (104 * r))), some (.int p), o5, some (.int (nI 7)), some (.int nn), some (.long (lN st.length)), none, o10, o11, o12] [] (n, sh, X, R, I, L) Q) : gw_Go y_Mo_advance (d + 4) 0 0 129 [some (.ref 533), some (.int (nI m)), some (.int (nI r)), some (.int (nI (104 * r))), some (.int p), o5, some (.int (nI 7)), some (.int nn), some (.long (lN st.length)), none, o10, o11, o12] [] (n, sh, X, R, I, L) Q := by
  have hp0 := hp
  obtain ⟨s533, s534, s535, s536, s537, s538, s539, s540, s541, s542, s543, s544, s545, s546, s547, s548, s549, s550, s551, s552, s553, s554, s555, s556, s557, r534, r535, r536, r537, r538, r539, r540, r541, r542, r543, r544, r545, r546, r547, r548, r549, r550, r551, r552, r553, r554, r555, r556, r557⟩ := hp
  refine go_iload d_Mo_advance_129 rfl ?_
  refine go_iconst (v := 2) d_Mo_advance_131 rfl ?_
  refine go_icmp_eq 156 d_Mo_advance_132 rfl (fun hn => absurd hn (by decide)) (fun _ => ?_)
  refine go_iload d_Mo_advance_135 rfl ?_
  refine go_bipush (v := 10) d_Mo_advance_137 rfl ?_
  refine go_icmp_eq 156 d_Mo_advance_139 rfl (fun hn => absurd hn (by decide)) (fun _ => ?_)
  refine go_iload d_Mo_advance_142 rfl ?_
  refine go_bipush (v := 12) d_Mo_advance_144 rfl ?_
  refine go_icmp_eq 156 d_Mo_advance_146 rfl (fun hn => absurd hn (by decide)) (fun _ => ?_)
  refine go_iload d_Mo_advance_149 rfl ?_
  refine go_bipush (v := 14) d_Mo_advance_151 rfl ?_
  refine go_icmp_ne 160 d_Mo_advance_153 rfl (fun _ => ?_) (fun hn => by first | exact absurd hn (by decide) | exact absurd (by decide) hn)
  refine go_iload d_Mo_advance_160 rfl ?_
  refine go_iconst (v := 3) d_Mo_advance_162 rfl ?_
  refine go_icmp_eq 186 d_Mo_advance_163 rfl (fun hn => absurd hn (by decide)) (fun _ => ?_)
  refine go_iload d_Mo_advance_166 rfl ?_
  refine go_iconst (v := 4) d_Mo_advance_168 rfl ?_
  refine go_icmp_eq 186 d_Mo_advance_169 rfl (fun hn => absurd hn (by decide)) (fun _ => ?_)
  refine go_iload d_Mo_advance_172 rfl ?_
  refine go_bipush (v := 8) d_Mo_advance_174 rfl ?_
  refine go_icmp_eq 186 d_Mo_advance_176 rfl (fun hn => absurd hn (by decide)) (fun _ => ?_)
  refine go_iload d_Mo_advance_179 rfl ?_
  refine go_bipush (v := 9) d_Mo_advance_181 rfl ?_
  refine go_icmp_ne 192 d_Mo_advance_183 rfl (fun _ => ?_) (fun hn => by first | exact absurd hn (by decide) | exact absurd (by decide) hn)
  refine go_iload d_Mo_advance_192 rfl ?_
  refine go_bipush (v := 11) d_Mo_advance_194 rfl ?_
  refine go_icmp_ne 205 d_Mo_advance_196 rfl (fun _ => ?_) (fun hn => by first | exact absurd hn (by decide) | exact absurd (by decide) hn)
  refine go_lconst (v := 0) d_Mo_advance_205 rfl ?_
  skip
  refine go_lstore d_Mo_advance_206 (Nat.le_of_ble_eq_true rfl) ?_
  simp only [gw_st1, gw_st2, gw_cl1, gw_get, gw_set, gw_big, Bool.false_eq_true, if_false, if_true, ↓reduceIte]
  refine go_iload d_Mo_advance_208 rfl ?_
  refine go_iconst (v := 1) d_Mo_advance_210 rfl ?_
  refine go_icmp_le 221 d_Mo_advance_211 rfl (fun hn => absurd hn (by decide)) (fun _ => ?_)
  refine go_iload d_Mo_advance_214 rfl ?_
  refine go_bipush (v := 13) d_Mo_advance_216 rfl ?_
  refine go_icmp_ne 225 d_Mo_advance_218 rfl (fun _ => ?_) (fun hn => by first | exact absurd hn (by decide) | exact absurd (by decide) hn)
  refine go_iconst (v := 0) d_Mo_advance_225 rfl ?_
  refine go_istore d_Mo_advance_226 (Nat.le_of_ble_eq_true rfl) ?_
  simp only [gw_st1, gw_st2, gw_cl1, gw_get, gw_set, gw_big, Bool.false_eq_true, if_false, if_true, ↓reduceIte]
  refine go_lload d_Mo_advance_228 rfl ?_
  refine go_lload d_Mo_advance_230 rfl ?_
  refine go_lcmp_lt 275 d_Mo_advance_232 d_Mo_advance_233 rfl (fun hn => absurd hn ((fun hh => absurd ((lN_lt (b := 0) (by omega) (by decide)).mp hh) (by omega)))) (fun _ => ?_)
  refine go_iload d_Mo_advance_236 rfl ?_
  refine go_if_eq 250 d_Mo_advance_238 rfl (fun _ => ?_) (fun hn => absurd (by decide) hn)
  refine go_iload d_Mo_advance_250 rfl ?_
  refine go_iconst (v := 1) d_Mo_advance_252 rfl ?_
  refine go_icmp_eq 262 d_Mo_advance_253 rfl (fun hn => absurd hn (by decide)) (fun _ => ?_)
  refine go_iload d_Mo_advance_256 rfl ?_
  refine go_iconst (v := 2) d_Mo_advance_258 rfl ?_
  refine go_icmp_ne 277 d_Mo_advance_259 rfl (fun _ => ?_) (fun hn => by first | exact absurd hn (by decide) | exact absurd (by decide) hn)
  refine go_iload d_Mo_advance_277 rfl ?_
  refine go_bipush (v := 11) d_Mo_advance_279 rfl ?_
  refine go_icmp_ne 327 d_Mo_advance_281 rfl (fun _ => ?_) (fun hn => by first | exact absurd hn (by decide) | exact absurd (by decide) hn)
  exact next (fun hh => by rcases hh with hh | hh | ⟨hh, hh2⟩ | ⟨hh, hh2⟩; (exact absurd hh (Nat.not_lt_zero _)); (have hh' : 6 < st.length - 0 + 0 := hh; omega); (rcases hh with hh | hh <;> exact absurd hh (by decide)); exact absurd hh (by decide)) _ _ _
theorem c_Mo_adB_8 {m r md e f : Nat} {p nn : Int32} {st : List ab_Sy} {lo : Nat → ab_Sy} {s : sp_E × sp_E} {b0 b1 : ab_Ba} {o5 o10 o11 o12 : Option Value} (hp : pt_Mo sh R) (hmc : mc_at I U) (hm : m < 4) (hl6 : st.length ≤ 6) (hf : rn_cr (fun j => (U j).1.length) 8 nn m st.length → Q (some (.int 2)) (n, sh, X, R, I, L)) (next : ¬ rn_cr (fun j => (U j).1.length) 8 nn m st.length → ∀ o10 o11 o12 : Option Value, gw_Go y_Mo_advance (d + 4) 0 0 327 [some (.ref 533), some (.int (nI m)), some (.int (nI r)), some (.int (nI (104 * r))), some (.int p), o5, some (.int (nI 8)), some (.int nn), some (.long (lN st.length)), none, o10, o11, o12] [] (n, sh, X, R, I, L) Q) : gw_Go y_Mo_advance (d + 4) 0 0 129 [some (.ref 533), some (.int (nI m)), some (.int (nI r)), some (.int (nI (104 * r))), some (.int p), o5, some (.int (nI 8)), some (.int nn), some (.long (lN st.length)), none, o10, o11, o12] [] (n, sh, X, R, I, L) Q := by
  have hp0 := hp
  obtain ⟨s533, s534, s535, s536, s537, s538, s539, s540, s541, s542, s543, s544, s545, s546, s547, s548, s549, s550, s551, s552, s553, s554, s555, s556, s557, r534, r535, r536, r537, r538, r539, r540, r541, r542, r543, r544, r545, r546, r547, r548, r549, r550, r551, r552, r553, r554, r555, r556, r557⟩ := hp
  refine go_iload d_Mo_advance_129 rfl ?_
  refine go_iconst (v := 2) d_Mo_advance_131 rfl ?_
  refine go_icmp_eq 156 d_Mo_advance_132 rfl (fun hn => absurd hn (by decide)) (fun _ => ?_)
  refine go_iload d_Mo_advance_135 rfl ?_
  refine go_bipush (v := 10) d_Mo_advance_137 rfl ?_
  refine go_icmp_eq 156 d_Mo_advance_139 rfl (fun hn => absurd hn (by decide)) (fun _ => ?_)
  refine go_iload d_Mo_advance_142 rfl ?_
  refine go_bipush (v := 12) d_Mo_advance_144 rfl ?_
  refine go_icmp_eq 156 d_Mo_advance_146 rfl (fun hn => absurd hn (by decide)) (fun _ => ?_)
  refine go_iload d_Mo_advance_149 rfl ?_
  refine go_bipush (v := 14) d_Mo_advance_151 rfl ?_
  refine go_icmp_ne 160 d_Mo_advance_153 rfl (fun _ => ?_) (fun hn => by first | exact absurd hn (by decide) | exact absurd (by decide) hn)
  refine go_iload d_Mo_advance_160 rfl ?_
  refine go_iconst (v := 3) d_Mo_advance_162 rfl ?_
  refine go_icmp_eq 186 d_Mo_advance_163 rfl (fun hn => absurd hn (by decide)) (fun _ => ?_)
  refine go_iload d_Mo_advance_166 rfl ?_
  refine go_iconst (v := 4) d_Mo_advance_168 rfl ?_
  refine go_icmp_eq 186 d_Mo_advance_169 rfl (fun hn => absurd hn (by decide)) (fun _ => ?_)
  refine go_iload d_Mo_advance_172 rfl ?_
  refine go_bipush (v := 8) d_Mo_advance_174 rfl ?_
  refine go_icmp_eq 186 d_Mo_advance_176 rfl (fun _ => ?_) (fun hn => absurd (by decide) hn)
  refine go_ldc2 d_Mo_advance_186 i_Mo_164 ?_
  refine go_goto 206 d_Mo_advance_189 rfl ?_
  skip
  refine go_lstore d_Mo_advance_206 (Nat.le_of_ble_eq_true rfl) ?_
  simp only [gw_st1, gw_st2, gw_cl1, gw_get, gw_set, gw_big, Bool.false_eq_true, if_false, if_true, ↓reduceIte]
  refine go_iload d_Mo_advance_208 rfl ?_
  refine go_iconst (v := 1) d_Mo_advance_210 rfl ?_
  refine go_icmp_le 221 d_Mo_advance_211 rfl (fun hn => absurd hn (by decide)) (fun _ => ?_)
  refine go_iload d_Mo_advance_214 rfl ?_
  refine go_bipush (v := 13) d_Mo_advance_216 rfl ?_
  refine go_icmp_ne 225 d_Mo_advance_218 rfl (fun _ => ?_) (fun hn => by first | exact absurd hn (by decide) | exact absurd (by decide) hn)
  refine go_iconst (v := 0) d_Mo_advance_225 rfl ?_
  refine go_istore d_Mo_advance_226 (Nat.le_of_ble_eq_true rfl) ?_
  simp only [gw_st1, gw_st2, gw_cl1, gw_get, gw_set, gw_big, Bool.false_eq_true, if_false, if_true, ↓reduceIte]
  refine go_lload d_Mo_advance_228 rfl ?_
  refine go_lload d_Mo_advance_230 rfl ?_
  refine go_lcmp_lt 275 d_Mo_advance_232 d_Mo_advance_233 rfl (fun h232 => ?_) (fun h232 => ?_)
  · refine go_iconst (v := 2) d_Mo_advance_275 rfl ?_
    exact go_iret d_Mo_advance_276 rfl (hf (by first | exact Or.inl ((lN_lt (b := 2) (by omega) (by decide)).mp h232) | exact Or.inr (Or.inl (by have e6 := (lN_eq (b := 6) (by omega) (by decide)).mp h246; show 6 < st.length - 2 + 0; omega)) | exact Or.inr (Or.inr (Or.inl ⟨(by decide), fun ⟨j, hj, e⟩ => absurd h272 (k1.mpr (by rw [e]; exact m4 hj))⟩))))
  · refine go_iload d_Mo_advance_236 rfl ?_
    refine go_if_eq 250 d_Mo_advance_238 rfl (fun _ => ?_) (fun hn => absurd (by decide) hn)
    refine go_iload d_Mo_advance_250 rfl ?_
    refine go_iconst (v := 1) d_Mo_advance_252 rfl ?_
    refine go_icmp_eq 262 d_Mo_advance_253 rfl (fun hn => absurd hn (by decide)) (fun _ => ?_)
    refine go_iload d_Mo_advance_256 rfl ?_
    refine go_iconst (v := 2) d_Mo_advance_258 rfl ?_
    refine go_icmp_ne 277 d_Mo_advance_259 rfl (fun _ => ?_) (fun hn => by first | exact absurd hn (by decide) | exact absurd (by decide) hn)
    refine go_iload d_Mo_advance_277 rfl ?_
    refine go_bipush (v := 11) d_Mo_advance_279 rfl ?_
    refine go_icmp_ne 327 d_Mo_advance_281 rfl (fun _ => ?_) (fun hn => by first | exact absurd hn (by decide) | exact absurd (by decide) hn)
    exact next (fun hh => by rcases hh with hh | hh | ⟨hh, hh2⟩ | ⟨hh, hh2⟩; (exact h232 ((lN_lt (b := 2) (by omega) (by decide)).mpr hh)); (have hh' : 6 < st.length - 2 + 0 := hh; omega); (rcases hh with hh | hh <;> exact absurd hh (by decide)); exact absurd hh (by decide)) _ _ _
theorem c_Mo_adB_9 {m r md e f : Nat} {p nn : Int32} {st : List ab_Sy} {lo : Nat → ab_Sy} {s : sp_E × sp_E} {b0 b1 : ab_Ba} {o5 o10 o11 o12 : Option Value} (hp : pt_Mo sh R) (hmc : mc_at I U) (hm : m < 4) (hl6 : st.length ≤ 6) (hf : rn_cr (fun j => (U j).1.length) 9 nn m st.length → Q (some (.int 2)) (n, sh, X, R, I, L)) (next : ¬ rn_cr (fun j => (U j).1.length) 9 nn m st.length → ∀ o10 o11 o12 : Option Value, gw_Go y_Mo_advance (d + 4) 0 0 327 [some (.ref 533), some (.int (nI m)), some (.int (nI r)), some (.int (nI (104 * r))), some (.int p), o5, some (.int (nI 9)), some (.int nn), some (.long (lN st.length)), none, o10, o11, o12] [] (n, sh, X, R, I, L) Q) : gw_Go y_Mo_advance (d + 4) 0 0 129 [some (.ref 533), some (.int (nI m)), some (.int (nI r)), some (.int (nI (104 * r))), some (.int p), o5, some (.int (nI 9)), some (.int nn), some (.long (lN st.length)), none, o10, o11, o12] [] (n, sh, X, R, I, L) Q := by
  have hp0 := hp
  obtain ⟨s533, s534, s535, s536, s537, s538, s539, s540, s541, s542, s543, s544, s545, s546, s547, s548, s549, s550, s551, s552, s553, s554, s555, s556, s557, r534, r535, r536, r537, r538, r539, r540, r541, r542, r543, r544, r545, r546, r547, r548, r549, r550, r551, r552, r553, r554, r555, r556, r557⟩ := hp
  refine go_iload d_Mo_advance_129 rfl ?_
  refine go_iconst (v := 2) d_Mo_advance_131 rfl ?_
  refine go_icmp_eq 156 d_Mo_advance_132 rfl (fun hn => absurd hn (by decide)) (fun _ => ?_)
  refine go_iload d_Mo_advance_135 rfl ?_
  refine go_bipush (v := 10) d_Mo_advance_137 rfl ?_
  refine go_icmp_eq 156 d_Mo_advance_139 rfl (fun hn => absurd hn (by decide)) (fun _ => ?_)
  refine go_iload d_Mo_advance_142 rfl ?_
  refine go_bipush (v := 12) d_Mo_advance_144 rfl ?_
  refine go_icmp_eq 156 d_Mo_advance_146 rfl (fun hn => absurd hn (by decide)) (fun _ => ?_)
  refine go_iload d_Mo_advance_149 rfl ?_
  refine go_bipush (v := 14) d_Mo_advance_151 rfl ?_
  refine go_icmp_ne 160 d_Mo_advance_153 rfl (fun _ => ?_) (fun hn => by first | exact absurd hn (by decide) | exact absurd (by decide) hn)
  refine go_iload d_Mo_advance_160 rfl ?_
  refine go_iconst (v := 3) d_Mo_advance_162 rfl ?_
  refine go_icmp_eq 186 d_Mo_advance_163 rfl (fun hn => absurd hn (by decide)) (fun _ => ?_)
  refine go_iload d_Mo_advance_166 rfl ?_
  refine go_iconst (v := 4) d_Mo_advance_168 rfl ?_
  refine go_icmp_eq 186 d_Mo_advance_169 rfl (fun hn => absurd hn (by decide)) (fun _ => ?_)
  refine go_iload d_Mo_advance_172 rfl ?_
  refine go_bipush (v := 8) d_Mo_advance_174 rfl ?_
  refine go_icmp_eq 186 d_Mo_advance_176 rfl (fun hn => absurd hn (by decide)) (fun _ => ?_)
  refine go_iload d_Mo_advance_179 rfl ?_
  refine go_bipush (v := 9) d_Mo_advance_181 rfl ?_
  refine go_icmp_ne 192 d_Mo_advance_183 rfl (fun hn => absurd hn (by decide)) (fun _ => ?_)
  refine go_ldc2 d_Mo_advance_186 i_Mo_164 ?_
  refine go_goto 206 d_Mo_advance_189 rfl ?_
  skip
  refine go_lstore d_Mo_advance_206 (Nat.le_of_ble_eq_true rfl) ?_
  simp only [gw_st1, gw_st2, gw_cl1, gw_get, gw_set, gw_big, Bool.false_eq_true, if_false, if_true, ↓reduceIte]
  refine go_iload d_Mo_advance_208 rfl ?_
  refine go_iconst (v := 1) d_Mo_advance_210 rfl ?_
  refine go_icmp_le 221 d_Mo_advance_211 rfl (fun hn => absurd hn (by decide)) (fun _ => ?_)
  refine go_iload d_Mo_advance_214 rfl ?_
  refine go_bipush (v := 13) d_Mo_advance_216 rfl ?_
  refine go_icmp_ne 225 d_Mo_advance_218 rfl (fun _ => ?_) (fun hn => by first | exact absurd hn (by decide) | exact absurd (by decide) hn)
  refine go_iconst (v := 0) d_Mo_advance_225 rfl ?_
  refine go_istore d_Mo_advance_226 (Nat.le_of_ble_eq_true rfl) ?_
  simp only [gw_st1, gw_st2, gw_cl1, gw_get, gw_set, gw_big, Bool.false_eq_true, if_false, if_true, ↓reduceIte]
  refine go_lload d_Mo_advance_228 rfl ?_
  refine go_lload d_Mo_advance_230 rfl ?_
  refine go_lcmp_lt 275 d_Mo_advance_232 d_Mo_advance_233 rfl (fun h232 => ?_) (fun h232 => ?_)
  · refine go_iconst (v := 2) d_Mo_advance_275 rfl ?_
    exact go_iret d_Mo_advance_276 rfl (hf (by first | exact Or.inl ((lN_lt (b := 2) (by omega) (by decide)).mp h232) | exact Or.inr (Or.inl (by have e6 := (lN_eq (b := 6) (by omega) (by decide)).mp h246; show 6 < st.length - 2 + 0; omega)) | exact Or.inr (Or.inr (Or.inl ⟨(by decide), fun ⟨j, hj, e⟩ => absurd h272 (k1.mpr (by rw [e]; exact m4 hj))⟩))))
  · refine go_iload d_Mo_advance_236 rfl ?_
    refine go_if_eq 250 d_Mo_advance_238 rfl (fun _ => ?_) (fun hn => absurd (by decide) hn)
    refine go_iload d_Mo_advance_250 rfl ?_
    refine go_iconst (v := 1) d_Mo_advance_252 rfl ?_
    refine go_icmp_eq 262 d_Mo_advance_253 rfl (fun hn => absurd hn (by decide)) (fun _ => ?_)
    refine go_iload d_Mo_advance_256 rfl ?_
    refine go_iconst (v := 2) d_Mo_advance_258 rfl ?_
    refine go_icmp_ne 277 d_Mo_advance_259 rfl (fun _ => ?_) (fun hn => by first | exact absurd hn (by decide) | exact absurd (by decide) hn)
    refine go_iload d_Mo_advance_277 rfl ?_
    refine go_bipush (v := 11) d_Mo_advance_279 rfl ?_
    refine go_icmp_ne 327 d_Mo_advance_281 rfl (fun _ => ?_) (fun hn => by first | exact absurd hn (by decide) | exact absurd (by decide) hn)
    exact next (fun hh => by rcases hh with hh | hh | ⟨hh, hh2⟩ | ⟨hh, hh2⟩; (exact h232 ((lN_lt (b := 2) (by omega) (by decide)).mpr hh)); (have hh' : 6 < st.length - 2 + 0 := hh; omega); (rcases hh with hh | hh <;> exact absurd hh (by decide)); exact absurd hh (by decide)) _ _ _
theorem c_Mo_adB_10 {m r md e f : Nat} {p nn : Int32} {st : List ab_Sy} {lo : Nat → ab_Sy} {s : sp_E × sp_E} {b0 b1 : ab_Ba} {o5 o10 o11 o12 : Option Value} (hp : pt_Mo sh R) (hmc : mc_at I U) (hm : m < 4) (hl6 : st.length ≤ 6) (hf : rn_cr (fun j => (U j).1.length) 10 nn m st.length → Q (some (.int 2)) (n, sh, X, R, I, L)) (next : ¬ rn_cr (fun j => (U j).1.length) 10 nn m st.length → ∀ o10 o11 o12 : Option Value, gw_Go y_Mo_advance (d + 4) 0 0 327 [some (.ref 533), some (.int (nI m)), some (.int (nI r)), some (.int (nI (104 * r))), some (.int p), o5, some (.int (nI 10)), some (.int nn), some (.long (lN st.length)), none, o10, o11, o12] [] (n, sh, X, R, I, L) Q) : gw_Go y_Mo_advance (d + 4) 0 0 129 [some (.ref 533), some (.int (nI m)), some (.int (nI r)), some (.int (nI (104 * r))), some (.int p), o5, some (.int (nI 10)), some (.int nn), some (.long (lN st.length)), none, o10, o11, o12] [] (n, sh, X, R, I, L) Q := by
  have hp0 := hp
  obtain ⟨s533, s534, s535, s536, s537, s538, s539, s540, s541, s542, s543, s544, s545, s546, s547, s548, s549, s550, s551, s552, s553, s554, s555, s556, s557, r534, r535, r536, r537, r538, r539, r540, r541, r542, r543, r544, r545, r546, r547, r548, r549, r550, r551, r552, r553, r554, r555, r556, r557⟩ := hp
  refine go_iload d_Mo_advance_129 rfl ?_
  refine go_iconst (v := 2) d_Mo_advance_131 rfl ?_
  refine go_icmp_eq 156 d_Mo_advance_132 rfl (fun hn => absurd hn (by decide)) (fun _ => ?_)
  refine go_iload d_Mo_advance_135 rfl ?_
  refine go_bipush (v := 10) d_Mo_advance_137 rfl ?_
  refine go_icmp_eq 156 d_Mo_advance_139 rfl (fun _ => ?_) (fun hn => absurd (by decide) hn)
  refine go_lconst (v := 1) d_Mo_advance_156 rfl ?_
  refine go_goto 206 d_Mo_advance_157 rfl ?_
  skip
  refine go_lstore d_Mo_advance_206 (Nat.le_of_ble_eq_true rfl) ?_
  simp only [gw_st1, gw_st2, gw_cl1, gw_get, gw_set, gw_big, Bool.false_eq_true, if_false, if_true, ↓reduceIte]
  refine go_iload d_Mo_advance_208 rfl ?_
  refine go_iconst (v := 1) d_Mo_advance_210 rfl ?_
  refine go_icmp_le 221 d_Mo_advance_211 rfl (fun hn => absurd hn (by decide)) (fun _ => ?_)
  refine go_iload d_Mo_advance_214 rfl ?_
  refine go_bipush (v := 13) d_Mo_advance_216 rfl ?_
  refine go_icmp_ne 225 d_Mo_advance_218 rfl (fun _ => ?_) (fun hn => by first | exact absurd hn (by decide) | exact absurd (by decide) hn)
  refine go_iconst (v := 0) d_Mo_advance_225 rfl ?_
  refine go_istore d_Mo_advance_226 (Nat.le_of_ble_eq_true rfl) ?_
  simp only [gw_st1, gw_st2, gw_cl1, gw_get, gw_set, gw_big, Bool.false_eq_true, if_false, if_true, ↓reduceIte]
  refine go_lload d_Mo_advance_228 rfl ?_
  refine go_lload d_Mo_advance_230 rfl ?_
  refine go_lcmp_lt 275 d_Mo_advance_232 d_Mo_advance_233 rfl (fun h232 => ?_) (fun h232 => ?_)
  · refine go_iconst (v := 2) d_Mo_advance_275 rfl ?_
    exact go_iret d_Mo_advance_276 rfl (hf (by first | exact Or.inl ((lN_lt (b := 1) (by omega) (by decide)).mp h232) | exact Or.inr (Or.inl (by have e6 := (lN_eq (b := 6) (by omega) (by decide)).mp h246; show 6 < st.length - 1 + 0; omega)) | exact Or.inr (Or.inr (Or.inl ⟨(by decide), fun ⟨j, hj, e⟩ => absurd h272 (k1.mpr (by rw [e]; exact m4 hj))⟩))))
  · refine go_iload d_Mo_advance_236 rfl ?_
    refine go_if_eq 250 d_Mo_advance_238 rfl (fun _ => ?_) (fun hn => absurd (by decide) hn)
    refine go_iload d_Mo_advance_250 rfl ?_
    refine go_iconst (v := 1) d_Mo_advance_252 rfl ?_
    refine go_icmp_eq 262 d_Mo_advance_253 rfl (fun hn => absurd hn (by decide)) (fun _ => ?_)
    refine go_iload d_Mo_advance_256 rfl ?_
    refine go_iconst (v := 2) d_Mo_advance_258 rfl ?_
    refine go_icmp_ne 277 d_Mo_advance_259 rfl (fun _ => ?_) (fun hn => by first | exact absurd hn (by decide) | exact absurd (by decide) hn)
    refine go_iload d_Mo_advance_277 rfl ?_
    refine go_bipush (v := 11) d_Mo_advance_279 rfl ?_
    refine go_icmp_ne 327 d_Mo_advance_281 rfl (fun _ => ?_) (fun hn => by first | exact absurd hn (by decide) | exact absurd (by decide) hn)
    exact next (fun hh => by rcases hh with hh | hh | ⟨hh, hh2⟩ | ⟨hh, hh2⟩; (exact h232 ((lN_lt (b := 1) (by omega) (by decide)).mpr hh)); (have hh' : 6 < st.length - 1 + 0 := hh; omega); (rcases hh with hh | hh <;> exact absurd hh (by decide)); exact absurd hh (by decide)) _ _ _
theorem c_Mo_adB_11 {m r md e f : Nat} {p nn : Int32} {st : List ab_Sy} {lo : Nat → ab_Sy} {s : sp_E × sp_E} {b0 b1 : ab_Ba} {o5 o10 o11 o12 : Option Value} (hp : pt_Mo sh R) (hmc : mc_at I U) (hm : m < 4) (hl6 : st.length ≤ 6) (hf : rn_cr (fun j => (U j).1.length) 11 nn m st.length → Q (some (.int 2)) (n, sh, X, R, I, L)) (next : ¬ rn_cr (fun j => (U j).1.length) 11 nn m st.length → ∀ o10 o11 o12 : Option Value, gw_Go y_Mo_advance (d + 4) 0 0 327 [some (.ref 533), some (.int (nI m)), some (.int (nI r)), some (.int (nI (104 * r))), some (.int p), o5, some (.int (nI 11)), some (.int nn), some (.long (lN st.length)), none, o10, o11, o12] [] (n, sh, X, R, I, L) Q) : gw_Go y_Mo_advance (d + 4) 0 0 129 [some (.ref 533), some (.int (nI m)), some (.int (nI r)), some (.int (nI (104 * r))), some (.int p), o5, some (.int (nI 11)), some (.int nn), some (.long (lN st.length)), none, o10, o11, o12] [] (n, sh, X, R, I, L) Q := by
  have hp0 := hp
  obtain ⟨s533, s534, s535, s536, s537, s538, s539, s540, s541, s542, s543, s544, s545, s546, s547, s548, s549, s550, s551, s552, s553, s554, s555, s556, s557, r534, r535, r536, r537, r538, r539, r540, r541, r542, r543, r544, r545, r546, r547, r548, r549, r550, r551, r552, r553, r554, r555, r556, r557⟩ := hp
  refine go_iload d_Mo_advance_129 rfl ?_
  refine go_iconst (v := 2) d_Mo_advance_131 rfl ?_
  refine go_icmp_eq 156 d_Mo_advance_132 rfl (fun hn => absurd hn (by decide)) (fun _ => ?_)
  refine go_iload d_Mo_advance_135 rfl ?_
  refine go_bipush (v := 10) d_Mo_advance_137 rfl ?_
  refine go_icmp_eq 156 d_Mo_advance_139 rfl (fun hn => absurd hn (by decide)) (fun _ => ?_)
  refine go_iload d_Mo_advance_142 rfl ?_
  refine go_bipush (v := 12) d_Mo_advance_144 rfl ?_
  refine go_icmp_eq 156 d_Mo_advance_146 rfl (fun hn => absurd hn (by decide)) (fun _ => ?_)
  refine go_iload d_Mo_advance_149 rfl ?_
  refine go_bipush (v := 14) d_Mo_advance_151 rfl ?_
  refine go_icmp_ne 160 d_Mo_advance_153 rfl (fun _ => ?_) (fun hn => by first | exact absurd hn (by decide) | exact absurd (by decide) hn)
  refine go_iload d_Mo_advance_160 rfl ?_
  refine go_iconst (v := 3) d_Mo_advance_162 rfl ?_
  refine go_icmp_eq 186 d_Mo_advance_163 rfl (fun hn => absurd hn (by decide)) (fun _ => ?_)
  refine go_iload d_Mo_advance_166 rfl ?_
  refine go_iconst (v := 4) d_Mo_advance_168 rfl ?_
  refine go_icmp_eq 186 d_Mo_advance_169 rfl (fun hn => absurd hn (by decide)) (fun _ => ?_)
  refine go_iload d_Mo_advance_172 rfl ?_
  refine go_bipush (v := 8) d_Mo_advance_174 rfl ?_
  refine go_icmp_eq 186 d_Mo_advance_176 rfl (fun hn => absurd hn (by decide)) (fun _ => ?_)
  refine go_iload d_Mo_advance_179 rfl ?_
  refine go_bipush (v := 9) d_Mo_advance_181 rfl ?_
  refine go_icmp_ne 192 d_Mo_advance_183 rfl (fun _ => ?_) (fun hn => by first | exact absurd hn (by decide) | exact absurd (by decide) hn)
  refine go_iload d_Mo_advance_192 rfl ?_
  refine go_bipush (v := 11) d_Mo_advance_194 rfl ?_
  refine go_icmp_ne 205 d_Mo_advance_196 rfl (fun hn => absurd hn (by decide)) (fun _ => ?_)
  refine go_ldc2 d_Mo_advance_199 i_Mo_84 ?_
  refine go_goto 206 d_Mo_advance_202 rfl ?_
  skip
  refine go_lstore d_Mo_advance_206 (Nat.le_of_ble_eq_true rfl) ?_
  simp only [gw_st1, gw_st2, gw_cl1, gw_get, gw_set, gw_big, Bool.false_eq_true, if_false, if_true, ↓reduceIte]
  refine go_iload d_Mo_advance_208 rfl ?_
  refine go_iconst (v := 1) d_Mo_advance_210 rfl ?_
  refine go_icmp_le 221 d_Mo_advance_211 rfl (fun hn => absurd hn (by decide)) (fun _ => ?_)
  refine go_iload d_Mo_advance_214 rfl ?_
  refine go_bipush (v := 13) d_Mo_advance_216 rfl ?_
  refine go_icmp_ne 225 d_Mo_advance_218 rfl (fun _ => ?_) (fun hn => by first | exact absurd hn (by decide) | exact absurd (by decide) hn)
  refine go_iconst (v := 0) d_Mo_advance_225 rfl ?_
  refine go_istore d_Mo_advance_226 (Nat.le_of_ble_eq_true rfl) ?_
  simp only [gw_st1, gw_st2, gw_cl1, gw_get, gw_set, gw_big, Bool.false_eq_true, if_false, if_true, ↓reduceIte]
  refine go_lload d_Mo_advance_228 rfl ?_
  refine go_lload d_Mo_advance_230 rfl ?_
  refine go_lcmp_lt 275 d_Mo_advance_232 d_Mo_advance_233 rfl (fun h232 => ?_) (fun h232 => ?_)
  · refine go_iconst (v := 2) d_Mo_advance_275 rfl ?_
    exact go_iret d_Mo_advance_276 rfl (hf (by first | exact Or.inl ((lN_lt (b := 3) (by omega) (by decide)).mp h232) | exact Or.inr (Or.inl (by have e6 := (lN_eq (b := 6) (by omega) (by decide)).mp h246; show 6 < st.length - 3 + 1; omega)) | exact Or.inr (Or.inr (Or.inl ⟨(by decide), fun ⟨j, hj, e⟩ => absurd h272 (k1.mpr (by rw [e]; exact m4 hj))⟩))))
  · refine go_iload d_Mo_advance_236 rfl ?_
    refine go_if_eq 250 d_Mo_advance_238 rfl (fun _ => ?_) (fun hn => absurd (by decide) hn)
    refine go_iload d_Mo_advance_250 rfl ?_
    refine go_iconst (v := 1) d_Mo_advance_252 rfl ?_
    refine go_icmp_eq 262 d_Mo_advance_253 rfl (fun hn => absurd hn (by decide)) (fun _ => ?_)
    refine go_iload d_Mo_advance_256 rfl ?_
    refine go_iconst (v := 2) d_Mo_advance_258 rfl ?_
    refine go_icmp_ne 277 d_Mo_advance_259 rfl (fun _ => ?_) (fun hn => by first | exact absurd hn (by decide) | exact absurd (by decide) hn)
    refine go_iload d_Mo_advance_277 rfl ?_
    refine go_bipush (v := 11) d_Mo_advance_279 rfl ?_
    refine go_icmp_ne 327 d_Mo_advance_281 rfl (fun hn => absurd hn (by decide)) (fun _ => ?_)
    refine go_iload d_Mo_advance_284 rfl ?_
    refine go_i2l d_Mo_advance_286 (rfl) ?_
    refine go_lconst (v := 0) d_Mo_advance_287 rfl ?_
    refine go_iload_n 1 d_Mo_advance_288 rfl rfl ?_
    refine go_iconst (v := 1) d_Mo_advance_289 rfl ?_
    refine go_isub d_Mo_advance_290 ?_
    refine go_i2l d_Mo_advance_291 (rfl) ?_
    refine go_S3 d_Mo_advance_292 k_Mo_86 (Nat.le_of_ble_eq_true rfl) (c_Mo_in (l := 0) (h := nI m - 1) rfl rfl (fun b1 k1 z1 => ?_))
    refine go_if_eq 325 d_Mo_advance_295 rfl (fun h295 => ?_) (fun h295 => ?_)
    · refine go_iconst (v := 2) d_Mo_advance_325 rfl ?_
      exact go_iret d_Mo_advance_326 rfl (hf (by first | exact Or.inr (Or.inr (Or.inr ⟨rfl, fun ⟨j', hj', e, _⟩ => absurd h295 (k1.mpr (len_in (by omega) hj' e))⟩)) | exact Or.inr (Or.inr (Or.inr ⟨rfl, fun ⟨j', hj', e, hl⟩ => by (have ej := (nI_eq (by omega) (by omega)).mp (hnn.symm.trans e); subst ej; exact hl ((nI_eq (a := (U j).1.length) (b := 0) (by have := (hmc j (by omega)).2.1; omega) (by decide)).mp h322))⟩))))
    · obtain ⟨j, hj, hnn⟩ : ∃ j, j < m ∧ nn = nI j := in_len (by omega) (k1.mp h295)
      refine go_aload_n 0 d_Mo_advance_298 rfl rfl ?_
      refine go_getR d_Mo_advance_299 f_Mo_7 (by assumption) (by assumption) ?_
      refine go_iload d_Mo_advance_302 rfl ?_
      refine go_i2l d_Mo_advance_304 (rfl) ?_
      refine go_lconst (v := 0) d_Mo_advance_305 rfl ?_
      refine go_ldc2 d_Mo_advance_306 i_Mo_84 ?_
      refine go_S3 d_Mo_advance_309 k_Mo_86 (Nat.le_of_ble_eq_true rfl) (c_Mo_in (l := 0) (h := 3) rfl rfl (fun b2 k2 z2 => ?_))
      refine go_if_eq 320 d_Mo_advance_312 rfl (fun hn => absurd hn (k2.mpr (by rw [hnn]; exact m4 (by omega)))) (fun _ => ?_)
      refine go_iload d_Mo_advance_315 rfl ?_
      refine go_goto 321 d_Mo_advance_317 rfl ?_
      refine go_iald (j) d_Mo_advance_321 (by assumption) (hnn) (by omega) (by decide) ?_
      rw [(hmc j (by omega)).1]
      refine go_if_ne 327 d_Mo_advance_322 rfl (fun h322 => ?_) (fun h322 => ?_)
      · exact next (fun hh => by rcases hh with hh | hh | ⟨hh, hh2⟩ | ⟨hh, hh2⟩; (exact h232 ((lN_lt (b := 3) (by omega) (by decide)).mpr hh)); (have hh' : 6 < st.length - 3 + 1 := hh; omega); (rcases hh with hh | hh <;> exact absurd hh (by decide)); exact hh2 ⟨j, hj, hnn, fun e => h322 (by rw [show (U j).1.length = 0 from e]; rfl)⟩) _ _ _
      · refine go_iconst (v := 2) d_Mo_advance_325 rfl ?_
        exact go_iret d_Mo_advance_326 rfl (hf (by first | exact Or.inr (Or.inr (Or.inr ⟨rfl, fun ⟨j', hj', e, _⟩ => absurd h295 (k1.mpr (len_in (by omega) hj' e))⟩)) | exact Or.inr (Or.inr (Or.inr ⟨rfl, fun ⟨j', hj', e, hl⟩ => by (have ej := (nI_eq (by omega) (by omega)).mp (hnn.symm.trans e); subst ej; exact hl ((nI_eq (a := (U j).1.length) (b := 0) (by have := (hmc j (by omega)).2.1; omega) (by decide)).mp h322))⟩))))
theorem c_Mo_adB_12 {m r md e f : Nat} {p nn : Int32} {st : List ab_Sy} {lo : Nat → ab_Sy} {s : sp_E × sp_E} {b0 b1 : ab_Ba} {o5 o10 o11 o12 : Option Value} (hp : pt_Mo sh R) (hmc : mc_at I U) (hm : m < 4) (hl6 : st.length ≤ 6) (hf : rn_cr (fun j => (U j).1.length) 12 nn m st.length → Q (some (.int 2)) (n, sh, X, R, I, L)) (next : ¬ rn_cr (fun j => (U j).1.length) 12 nn m st.length → ∀ o10 o11 o12 : Option Value, gw_Go y_Mo_advance (d + 4) 0 0 327 [some (.ref 533), some (.int (nI m)), some (.int (nI r)), some (.int (nI (104 * r))), some (.int p), o5, some (.int (nI 12)), some (.int nn), some (.long (lN st.length)), none, o10, o11, o12] [] (n, sh, X, R, I, L) Q) : gw_Go y_Mo_advance (d + 4) 0 0 129 [some (.ref 533), some (.int (nI m)), some (.int (nI r)), some (.int (nI (104 * r))), some (.int p), o5, some (.int (nI 12)), some (.int nn), some (.long (lN st.length)), none, o10, o11, o12] [] (n, sh, X, R, I, L) Q := by
  have hp0 := hp
  obtain ⟨s533, s534, s535, s536, s537, s538, s539, s540, s541, s542, s543, s544, s545, s546, s547, s548, s549, s550, s551, s552, s553, s554, s555, s556, s557, r534, r535, r536, r537, r538, r539, r540, r541, r542, r543, r544, r545, r546, r547, r548, r549, r550, r551, r552, r553, r554, r555, r556, r557⟩ := hp
  refine go_iload d_Mo_advance_129 rfl ?_
  refine go_iconst (v := 2) d_Mo_advance_131 rfl ?_
  refine go_icmp_eq 156 d_Mo_advance_132 rfl (fun hn => absurd hn (by decide)) (fun _ => ?_)
  refine go_iload d_Mo_advance_135 rfl ?_
  refine go_bipush (v := 10) d_Mo_advance_137 rfl ?_
  refine go_icmp_eq 156 d_Mo_advance_139 rfl (fun hn => absurd hn (by decide)) (fun _ => ?_)
  refine go_iload d_Mo_advance_142 rfl ?_
  refine go_bipush (v := 12) d_Mo_advance_144 rfl ?_
  refine go_icmp_eq 156 d_Mo_advance_146 rfl (fun _ => ?_) (fun hn => absurd (by decide) hn)
  refine go_lconst (v := 1) d_Mo_advance_156 rfl ?_
  refine go_goto 206 d_Mo_advance_157 rfl ?_
  skip
  refine go_lstore d_Mo_advance_206 (Nat.le_of_ble_eq_true rfl) ?_
  simp only [gw_st1, gw_st2, gw_cl1, gw_get, gw_set, gw_big, Bool.false_eq_true, if_false, if_true, ↓reduceIte]
  refine go_iload d_Mo_advance_208 rfl ?_
  refine go_iconst (v := 1) d_Mo_advance_210 rfl ?_
  refine go_icmp_le 221 d_Mo_advance_211 rfl (fun hn => absurd hn (by decide)) (fun _ => ?_)
  refine go_iload d_Mo_advance_214 rfl ?_
  refine go_bipush (v := 13) d_Mo_advance_216 rfl ?_
  refine go_icmp_ne 225 d_Mo_advance_218 rfl (fun _ => ?_) (fun hn => by first | exact absurd hn (by decide) | exact absurd (by decide) hn)
  refine go_iconst (v := 0) d_Mo_advance_225 rfl ?_
  refine go_istore d_Mo_advance_226 (Nat.le_of_ble_eq_true rfl) ?_
  simp only [gw_st1, gw_st2, gw_cl1, gw_get, gw_set, gw_big, Bool.false_eq_true, if_false, if_true, ↓reduceIte]
  refine go_lload d_Mo_advance_228 rfl ?_
  refine go_lload d_Mo_advance_230 rfl ?_
  refine go_lcmp_lt 275 d_Mo_advance_232 d_Mo_advance_233 rfl (fun h232 => ?_) (fun h232 => ?_)
  · refine go_iconst (v := 2) d_Mo_advance_275 rfl ?_
    exact go_iret d_Mo_advance_276 rfl (hf (by first | exact Or.inl ((lN_lt (b := 1) (by omega) (by decide)).mp h232) | exact Or.inr (Or.inl (by have e6 := (lN_eq (b := 6) (by omega) (by decide)).mp h246; show 6 < st.length - 1 + 0; omega)) | exact Or.inr (Or.inr (Or.inl ⟨(by decide), fun ⟨j, hj, e⟩ => absurd h272 (k1.mpr (by rw [e]; exact m4 hj))⟩))))
  · refine go_iload d_Mo_advance_236 rfl ?_
    refine go_if_eq 250 d_Mo_advance_238 rfl (fun _ => ?_) (fun hn => absurd (by decide) hn)
    refine go_iload d_Mo_advance_250 rfl ?_
    refine go_iconst (v := 1) d_Mo_advance_252 rfl ?_
    refine go_icmp_eq 262 d_Mo_advance_253 rfl (fun hn => absurd hn (by decide)) (fun _ => ?_)
    refine go_iload d_Mo_advance_256 rfl ?_
    refine go_iconst (v := 2) d_Mo_advance_258 rfl ?_
    refine go_icmp_ne 277 d_Mo_advance_259 rfl (fun _ => ?_) (fun hn => by first | exact absurd hn (by decide) | exact absurd (by decide) hn)
    refine go_iload d_Mo_advance_277 rfl ?_
    refine go_bipush (v := 11) d_Mo_advance_279 rfl ?_
    refine go_icmp_ne 327 d_Mo_advance_281 rfl (fun _ => ?_) (fun hn => by first | exact absurd hn (by decide) | exact absurd (by decide) hn)
    exact next (fun hh => by rcases hh with hh | hh | ⟨hh, hh2⟩ | ⟨hh, hh2⟩; (exact h232 ((lN_lt (b := 1) (by omega) (by decide)).mpr hh)); (have hh' : 6 < st.length - 1 + 0 := hh; omega); (rcases hh with hh | hh <;> exact absurd hh (by decide)); exact absurd hh (by decide)) _ _ _
theorem c_Mo_adB_13 {m r md e f : Nat} {p nn : Int32} {st : List ab_Sy} {lo : Nat → ab_Sy} {s : sp_E × sp_E} {b0 b1 : ab_Ba} {o5 o10 o11 o12 : Option Value} (hp : pt_Mo sh R) (hmc : mc_at I U) (hm : m < 4) (hl6 : st.length ≤ 6) (hf : rn_cr (fun j => (U j).1.length) 13 nn m st.length → Q (some (.int 2)) (n, sh, X, R, I, L)) (next : ¬ rn_cr (fun j => (U j).1.length) 13 nn m st.length → ∀ o10 o11 o12 : Option Value, gw_Go y_Mo_advance (d + 4) 0 0 327 [some (.ref 533), some (.int (nI m)), some (.int (nI r)), some (.int (nI (104 * r))), some (.int p), o5, some (.int (nI 13)), some (.int nn), some (.long (lN st.length)), none, o10, o11, o12] [] (n, sh, X, R, I, L) Q) : gw_Go y_Mo_advance (d + 4) 0 0 129 [some (.ref 533), some (.int (nI m)), some (.int (nI r)), some (.int (nI (104 * r))), some (.int p), o5, some (.int (nI 13)), some (.int nn), some (.long (lN st.length)), none, o10, o11, o12] [] (n, sh, X, R, I, L) Q := by
  have hp0 := hp
  obtain ⟨s533, s534, s535, s536, s537, s538, s539, s540, s541, s542, s543, s544, s545, s546, s547, s548, s549, s550, s551, s552, s553, s554, s555, s556, s557, r534, r535, r536, r537, r538, r539, r540, r541, r542, r543, r544, r545, r546, r547, r548, r549, r550, r551, r552, r553, r554, r555, r556, r557⟩ := hp
  refine go_iload d_Mo_advance_129 rfl ?_
  refine go_iconst (v := 2) d_Mo_advance_131 rfl ?_
  refine go_icmp_eq 156 d_Mo_advance_132 rfl (fun hn => absurd hn (by decide)) (fun _ => ?_)
  refine go_iload d_Mo_advance_135 rfl ?_
  refine go_bipush (v := 10) d_Mo_advance_137 rfl ?_
  refine go_icmp_eq 156 d_Mo_advance_139 rfl (fun hn => absurd hn (by decide)) (fun _ => ?_)
  refine go_iload d_Mo_advance_142 rfl ?_
  refine go_bipush (v := 12) d_Mo_advance_144 rfl ?_
  refine go_icmp_eq 156 d_Mo_advance_146 rfl (fun hn => absurd hn (by decide)) (fun _ => ?_)
  refine go_iload d_Mo_advance_149 rfl ?_
  refine go_bipush (v := 14) d_Mo_advance_151 rfl ?_
  refine go_icmp_ne 160 d_Mo_advance_153 rfl (fun _ => ?_) (fun hn => by first | exact absurd hn (by decide) | exact absurd (by decide) hn)
  refine go_iload d_Mo_advance_160 rfl ?_
  refine go_iconst (v := 3) d_Mo_advance_162 rfl ?_
  refine go_icmp_eq 186 d_Mo_advance_163 rfl (fun hn => absurd hn (by decide)) (fun _ => ?_)
  refine go_iload d_Mo_advance_166 rfl ?_
  refine go_iconst (v := 4) d_Mo_advance_168 rfl ?_
  refine go_icmp_eq 186 d_Mo_advance_169 rfl (fun hn => absurd hn (by decide)) (fun _ => ?_)
  refine go_iload d_Mo_advance_172 rfl ?_
  refine go_bipush (v := 8) d_Mo_advance_174 rfl ?_
  refine go_icmp_eq 186 d_Mo_advance_176 rfl (fun hn => absurd hn (by decide)) (fun _ => ?_)
  refine go_iload d_Mo_advance_179 rfl ?_
  refine go_bipush (v := 9) d_Mo_advance_181 rfl ?_
  refine go_icmp_ne 192 d_Mo_advance_183 rfl (fun _ => ?_) (fun hn => by first | exact absurd hn (by decide) | exact absurd (by decide) hn)
  refine go_iload d_Mo_advance_192 rfl ?_
  refine go_bipush (v := 11) d_Mo_advance_194 rfl ?_
  refine go_icmp_ne 205 d_Mo_advance_196 rfl (fun _ => ?_) (fun hn => by first | exact absurd hn (by decide) | exact absurd (by decide) hn)
  refine go_lconst (v := 0) d_Mo_advance_205 rfl ?_
  skip
  refine go_lstore d_Mo_advance_206 (Nat.le_of_ble_eq_true rfl) ?_
  simp only [gw_st1, gw_st2, gw_cl1, gw_get, gw_set, gw_big, Bool.false_eq_true, if_false, if_true, ↓reduceIte]
  refine go_iload d_Mo_advance_208 rfl ?_
  refine go_iconst (v := 1) d_Mo_advance_210 rfl ?_
  refine go_icmp_le 221 d_Mo_advance_211 rfl (fun hn => absurd hn (by decide)) (fun _ => ?_)
  refine go_iload d_Mo_advance_214 rfl ?_
  refine go_bipush (v := 13) d_Mo_advance_216 rfl ?_
  refine go_icmp_ne 225 d_Mo_advance_218 rfl (fun hn => absurd hn (by decide)) (fun _ => ?_)
  refine go_iconst (v := 1) d_Mo_advance_221 rfl ?_
  refine go_goto 226 d_Mo_advance_222 rfl ?_
  refine go_istore d_Mo_advance_226 (Nat.le_of_ble_eq_true rfl) ?_
  simp only [gw_st1, gw_st2, gw_cl1, gw_get, gw_set, gw_big, Bool.false_eq_true, if_false, if_true, ↓reduceIte]
  refine go_lload d_Mo_advance_228 rfl ?_
  refine go_lload d_Mo_advance_230 rfl ?_
  refine go_lcmp_lt 275 d_Mo_advance_232 d_Mo_advance_233 rfl (fun hn => absurd hn ((fun hh => absurd ((lN_lt (b := 0) (by omega) (by decide)).mp hh) (by omega)))) (fun _ => ?_)
  refine go_iload d_Mo_advance_236 rfl ?_
  refine go_if_eq 250 d_Mo_advance_238 rfl (fun hn => absurd hn (by decide)) (fun _ => ?_)
  refine go_lload d_Mo_advance_241 rfl ?_
  refine go_ldc2 d_Mo_advance_243 i_Mo_166 ?_
  refine go_lcmp_eq 275 d_Mo_advance_246 d_Mo_advance_247 rfl (fun h246 => ?_) (fun h246 => ?_)
  · refine go_iconst (v := 2) d_Mo_advance_275 rfl ?_
    exact go_iret d_Mo_advance_276 rfl (hf (by first | exact Or.inl ((lN_lt (b := 0) (by omega) (by decide)).mp h232) | exact Or.inr (Or.inl (by have e6 := (lN_eq (b := 6) (by omega) (by decide)).mp h246; show 6 < st.length - 0 + 1; omega)) | exact Or.inr (Or.inr (Or.inl ⟨(by decide), fun ⟨j, hj, e⟩ => absurd h272 (k1.mpr (by rw [e]; exact m4 hj))⟩))))
  · refine go_iload d_Mo_advance_250 rfl ?_
    refine go_iconst (v := 1) d_Mo_advance_252 rfl ?_
    refine go_icmp_eq 262 d_Mo_advance_253 rfl (fun hn => absurd hn (by decide)) (fun _ => ?_)
    refine go_iload d_Mo_advance_256 rfl ?_
    refine go_iconst (v := 2) d_Mo_advance_258 rfl ?_
    refine go_icmp_ne 277 d_Mo_advance_259 rfl (fun _ => ?_) (fun hn => by first | exact absurd hn (by decide) | exact absurd (by decide) hn)
    refine go_iload d_Mo_advance_277 rfl ?_
    refine go_bipush (v := 11) d_Mo_advance_279 rfl ?_
    refine go_icmp_ne 327 d_Mo_advance_281 rfl (fun _ => ?_) (fun hn => by first | exact absurd hn (by decide) | exact absurd (by decide) hn)
    exact next (fun hh => by rcases hh with hh | hh | ⟨hh, hh2⟩ | ⟨hh, hh2⟩; (exact absurd hh (Nat.not_lt_zero _)); (have hh' : 6 < st.length - 0 + 1 := hh; have h6 : st.length ≠ 6 := fun e => h246 (by rw [e]; rfl); omega); (rcases hh with hh | hh <;> exact absurd hh (by decide)); exact absurd hh (by decide)) _ _ _
theorem c_Mo_adB_14 {m r md e f : Nat} {p nn : Int32} {st : List ab_Sy} {lo : Nat → ab_Sy} {s : sp_E × sp_E} {b0 b1 : ab_Ba} {o5 o10 o11 o12 : Option Value} (hp : pt_Mo sh R) (hmc : mc_at I U) (hm : m < 4) (hl6 : st.length ≤ 6) (hf : rn_cr (fun j => (U j).1.length) 14 nn m st.length → Q (some (.int 2)) (n, sh, X, R, I, L)) (next : ¬ rn_cr (fun j => (U j).1.length) 14 nn m st.length → ∀ o10 o11 o12 : Option Value, gw_Go y_Mo_advance (d + 4) 0 0 327 [some (.ref 533), some (.int (nI m)), some (.int (nI r)), some (.int (nI (104 * r))), some (.int p), o5, some (.int (nI 14)), some (.int nn), some (.long (lN st.length)), none, o10, o11, o12] [] (n, sh, X, R, I, L) Q) : gw_Go y_Mo_advance (d + 4) 0 0 129 [some (.ref 533), some (.int (nI m)), some (.int (nI r)), some (.int (nI (104 * r))), some (.int p), o5, some (.int (nI 14)), some (.int nn), some (.long (lN st.length)), none, o10, o11, o12] [] (n, sh, X, R, I, L) Q := by
  have hp0 := hp
  obtain ⟨s533, s534, s535, s536, s537, s538, s539, s540, s541, s542, s543, s544, s545, s546, s547, s548, s549, s550, s551, s552, s553, s554, s555, s556, s557, r534, r535, r536, r537, r538, r539, r540, r541, r542, r543, r544, r545, r546, r547, r548, r549, r550, r551, r552, r553, r554, r555, r556, r557⟩ := hp
  refine go_iload d_Mo_advance_129 rfl ?_
  refine go_iconst (v := 2) d_Mo_advance_131 rfl ?_
  refine go_icmp_eq 156 d_Mo_advance_132 rfl (fun hn => absurd hn (by decide)) (fun _ => ?_)
  refine go_iload d_Mo_advance_135 rfl ?_
  refine go_bipush (v := 10) d_Mo_advance_137 rfl ?_
  refine go_icmp_eq 156 d_Mo_advance_139 rfl (fun hn => absurd hn (by decide)) (fun _ => ?_)
  refine go_iload d_Mo_advance_142 rfl ?_
  refine go_bipush (v := 12) d_Mo_advance_144 rfl ?_
  refine go_icmp_eq 156 d_Mo_advance_146 rfl (fun hn => absurd hn (by decide)) (fun _ => ?_)
  refine go_iload d_Mo_advance_149 rfl ?_
  refine go_bipush (v := 14) d_Mo_advance_151 rfl ?_
  refine go_icmp_ne 160 d_Mo_advance_153 rfl (fun hn => absurd hn (by decide)) (fun _ => ?_)
  refine go_lconst (v := 1) d_Mo_advance_156 rfl ?_
  refine go_goto 206 d_Mo_advance_157 rfl ?_
  skip
  refine go_lstore d_Mo_advance_206 (Nat.le_of_ble_eq_true rfl) ?_
  simp only [gw_st1, gw_st2, gw_cl1, gw_get, gw_set, gw_big, Bool.false_eq_true, if_false, if_true, ↓reduceIte]
  refine go_iload d_Mo_advance_208 rfl ?_
  refine go_iconst (v := 1) d_Mo_advance_210 rfl ?_
  refine go_icmp_le 221 d_Mo_advance_211 rfl (fun hn => absurd hn (by decide)) (fun _ => ?_)
  refine go_iload d_Mo_advance_214 rfl ?_
  refine go_bipush (v := 13) d_Mo_advance_216 rfl ?_
  refine go_icmp_ne 225 d_Mo_advance_218 rfl (fun _ => ?_) (fun hn => by first | exact absurd hn (by decide) | exact absurd (by decide) hn)
  refine go_iconst (v := 0) d_Mo_advance_225 rfl ?_
  refine go_istore d_Mo_advance_226 (Nat.le_of_ble_eq_true rfl) ?_
  simp only [gw_st1, gw_st2, gw_cl1, gw_get, gw_set, gw_big, Bool.false_eq_true, if_false, if_true, ↓reduceIte]
  refine go_lload d_Mo_advance_228 rfl ?_
  refine go_lload d_Mo_advance_230 rfl ?_
  refine go_lcmp_lt 275 d_Mo_advance_232 d_Mo_advance_233 rfl (fun h232 => ?_) (fun h232 => ?_)
  · refine go_iconst (v := 2) d_Mo_advance_275 rfl ?_
    exact go_iret d_Mo_advance_276 rfl (hf (by first | exact Or.inl ((lN_lt (b := 1) (by omega) (by decide)).mp h232) | exact Or.inr (Or.inl (by have e6 := (lN_eq (b := 6) (by omega) (by decide)).mp h246; show 6 < st.length - 1 + 0; omega)) | exact Or.inr (Or.inr (Or.inl ⟨(by decide), fun ⟨j, hj, e⟩ => absurd h272 (k1.mpr (by rw [e]; exact m4 hj))⟩))))
  · refine go_iload d_Mo_advance_236 rfl ?_
    refine go_if_eq 250 d_Mo_advance_238 rfl (fun _ => ?_) (fun hn => absurd (by decide) hn)
    refine go_iload d_Mo_advance_250 rfl ?_
    refine go_iconst (v := 1) d_Mo_advance_252 rfl ?_
    refine go_icmp_eq 262 d_Mo_advance_253 rfl (fun hn => absurd hn (by decide)) (fun _ => ?_)
    refine go_iload d_Mo_advance_256 rfl ?_
    refine go_iconst (v := 2) d_Mo_advance_258 rfl ?_
    refine go_icmp_ne 277 d_Mo_advance_259 rfl (fun _ => ?_) (fun hn => by first | exact absurd hn (by decide) | exact absurd (by decide) hn)
    refine go_iload d_Mo_advance_277 rfl ?_
    refine go_bipush (v := 11) d_Mo_advance_279 rfl ?_
    refine go_icmp_ne 327 d_Mo_advance_281 rfl (fun _ => ?_) (fun hn => by first | exact absurd hn (by decide) | exact absurd (by decide) hn)
    exact next (fun hh => by rcases hh with hh | hh | ⟨hh, hh2⟩ | ⟨hh, hh2⟩; (exact h232 ((lN_lt (b := 1) (by omega) (by decide)).mpr hh)); (have hh' : 6 < st.length - 1 + 0 := hh; omega); (rcases hh with hh | hh <;> exact absurd hh (by decide)); exact absurd hh (by decide)) _ _ _
end MO
