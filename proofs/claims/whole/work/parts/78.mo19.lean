/-! the reference: begin -/
def ke_add : List (Nat × Nat × Int32) → sp_E → sp_E
  | [], E => E
  | t :: ts, E => ke_add ts (sp_add E t.1 t.2.1 t.2.2.toInt)
theorem ke_bad : ∀ (l : List (Nat × Nat × Int32)) {E : sp_E} {a k : Nat} {u : Int}, u < 0 → sp_W E k a a u → ∃ u', u' < 0 ∧ sp_W (ke_add l E) k a a u'
  | [], E, a, k, u, hu, h => ⟨u, hu, h⟩
  | t :: ts, E, a, k, u, hu, h => by
    obtain ⟨u', h1, h2⟩ := sp_bad_add (a := t.1) (b := t.2.1) (c := t.2.2.toInt) hu h
    exact ke_bad ts h1 h2
theorem ke_bd : ∀ (l : List (Nat × Nat × Int32)) {E : sp_E}, (∀ a b v, E a b = some v → -100000000000 ≤ v ∧ v ≤ 100000000000) → ∀ a b v, ke_add l E a b = some v → -100000000000 ≤ v ∧ v ≤ 100000000000
  | [], E, h => h
  | t :: ts, E, h => ke_bd ts (fun a b v hv => by
      rcases sp_add_of hv with h1 | ⟨_, _, rfl⟩
      · exact h a b v h1
      · have := i_32 t.2.2; omega)
theorem kn_lc_lr : ∀ (l : List (Nat × Nat × Int32)) {s : sp_E × sp_E}, kn_ok s → (∀ t ∈ l, t.1 < 5 ∧ t.2.1 < 5) → lr_ok (kn_lc l s) (ke_add l s.1)
  | [], s, hok, _ => ⟨hok, rfl⟩
  | t :: ts, s, hok, hl => by
    obtain ⟨h1, h2⟩ := hl t List.mem_cons_self
    have hc := i_32 t.2.2
    unfold kn_lc
    by_cases hb : ∃ w, s.2 t.2.1 t.1 = some w ∧ w + t.2.2.toInt < 0
    · rw [cIf_pos hb]
      obtain ⟨w, hw, hn⟩ := hb
      obtain ⟨k, u, h3, h4, h5⟩ := sp_bad hok.1 h1 h2 hw hn
      obtain ⟨u', h6, h7⟩ := ke_bad ts h4 h5
      exact ⟨ke_bd (t :: ts) hok.2, t.1, k, u', h3, h6, h7⟩
    · rw [cIf_neg hb]
      refine kn_lc_lr ts ⟨sp_C_lrn hok.1 h1 h2 (fun w hw => Int.not_lt.mp (fun hn => hb ⟨w, hw, hn⟩)), fun a b v hv => ?_⟩ (fun u hu => hl u (List.mem_cons_of_mem _ hu))
      rcases sp_add_of hv with h | ⟨_, _, rfl⟩
      · exact hok.2 a b v h
      · omega
theorem kn_ok_new : kn_ok kn_new := ⟨sp_C_0, fun a b v h => by cases h⟩
section MO
variable {d n : Nat} {sh : Nat → Nat × Nat} {X : Nat × (Nat → Int32)} {R : Nat → Nat → Option Nat} {I : Nat → Nat → Int32} {L : Nat → Nat → Int64} {Q : Option Value → gw_Mem → Prop}
theorem c_Mo_beT0 {md c : Nat} {p : Int32} {st : List ab_Sy} {lo : Nat → ab_Sy} {E : sp_E} {b0 b1 : ab_Ba} {P : ab_Po} {s0 : ab_Ba} (hp : pt_Mo sh R) (hc : c < 24) (hP : mp_at I (2 * c + 0) P) (next : ∀ (o4 : Option Value) (L1 : Nat → Nat → Int64), rw_at (L1 549) (104 * 0) p md st lo E (ba_add sy_id (1 : Int32).toInt64 P.2 s0) b1 → (∀ q, q ≠ 549 → L1 q = L q) → gw_Go y_Mo_begin (d + 2) 0 0 139 [some (.ref 533), some (.int (nI c)), some (.int (0 + Int32.ofInt 1)), some (.int (nI (2 * c + 0))), o4] [] (n, sh, X, R, I, L1) Q) : ∀ (ts : List (Nat × Nat × Nat)) (j : Nat) (z : Int32) (L1 : Nat → Nat → Int64) (s : ab_Ba), z = nI (3 * (2 * c + 0) + j) → j ≤ P.2.length → P.2.drop j = ts → rw_at (L1 549) (104 * 0) p md st lo E s b1 → (∀ q, q ≠ 549 → L1 q = L q) → ba_add sy_id (1 : Int32).toInt64 P.2 s0 = ba_add sy_id (1 : Int32).toInt64 ts s → gw_Go y_Mo_begin (d + 2) 0 0 171 [some (.ref 533), some (.int (nI c)), some (.int 0), some (.int (nI (2 * c + 0))), some (.int z)] [] (n, sh, X, R, I, L1) Q := by
  have hp0 := hp
  obtain ⟨s533, s534, s535, s536, s537, s538, s539, s540, s541, s542, s543, s544, s545, s546, s547, s548, s549, s550, s551, s552, s553, s554, s555, s556, s557, r534, r535, r536, r537, r538, r539, r540, r541, r542, r543, r544, r545, r546, r547, r548, r549, r550, r551, r552, r553, r554, r555, r556, r557⟩ := hp
  obtain ⟨w1, w2, w3, w4⟩ := hP
  intro ts
  induction ts with
  | nil =>
    intro j z L1 s hz hj hd hrow hfr hs
    have hl := gw_dropE hd
    refine go_iload d_Mo_begin_171 rfl ?_
    refine go_iconst (v := 3) d_Mo_begin_173 rfl ?_
    refine go_iload_n 3 d_Mo_begin_174 rfl rfl ?_
    refine go_imul d_Mo_begin_175 ?_
    refine go_aload_n 0 d_Mo_begin_176 rfl rfl ?_
    refine go_getR d_Mo_begin_177 f_Mo_44 (by assumption) (by assumption) ?_
    refine go_iload_n 3 d_Mo_begin_180 rfl rfl ?_
    refine go_iald (2 * c + 0) d_Mo_begin_181 (by assumption) (rfl) (by omega) (by decide) ?_
    refine go_iadd d_Mo_begin_182 ?_
    refine go_icmp_ge 234 d_Mo_begin_183 rfl (fun _ => ?_) (fun hn => absurd (by rw [w2, hz, show (3 : Int32) * nI (2 * c + 0) + nI P.2.length = nI (3 * (2 * c + 0) + P.2.length) from ix (a := 3)]; exact (nI_leI (by omega) (by omega)).mpr (by omega)) hn)
    refine go_iinc d_Mo_begin_234 rfl rfl (Nat.le_of_ble_eq_true rfl) ?_
    refine go_goto 139 d_Mo_begin_237 rfl ?_
    exact next _ L1 (by rw [hs]; exact hrow) hfr
  | cons t ts ih =>
    intro j z L1 s hz hj hd hrow hfr hs
    obtain ⟨hj1, hj2, hj3⟩ := gw_drop hd
    obtain ⟨t1, t2, t3, t4, t5⟩ := w4 j t hj2
    have hone : (nI t.1).toInt64 = (1 : Int32).toInt64 * (nI t.1).toInt64 := by rw [show (1 : Int32).toInt64 = 1 from rfl, Int64.one_mul]
    refine go_iload d_Mo_begin_171 rfl ?_
    refine go_iconst (v := 3) d_Mo_begin_173 rfl ?_
    refine go_iload_n 3 d_Mo_begin_174 rfl rfl ?_
    refine go_imul d_Mo_begin_175 ?_
    refine go_aload_n 0 d_Mo_begin_176 rfl rfl ?_
    refine go_getR d_Mo_begin_177 f_Mo_44 (by assumption) (by assumption) ?_
    refine go_iload_n 3 d_Mo_begin_180 rfl rfl ?_
    refine go_iald (2 * c + 0) d_Mo_begin_181 (by assumption) (rfl) (by omega) (by decide) ?_
    refine go_iadd d_Mo_begin_182 ?_
    refine go_icmp_ge 234 d_Mo_begin_183 rfl (fun hn => absurd hn (by rw [w2, hz, show (3 : Int32) * nI (2 * c + 0) + nI P.2.length = nI (3 * (2 * c + 0) + P.2.length) from ix (a := 3)]; exact nI_ge (by omega) (by omega))) (fun _ => ?_)
    refine go_aload_n 0 d_Mo_begin_186 rfl rfl ?_
    refine go_iconst (v := nI 0) d_Mo_begin_187 rfl ?_
    refine go_iload_n 2 d_Mo_begin_188 rfl rfl ?_
    refine go_if_ne 197 d_Mo_begin_189 rfl (fun hn => absurd hn (fun hh => hh rfl)) (fun _ => ?_)
    refine go_bipush (v := 49) d_Mo_begin_192 rfl ?_
    refine go_goto 199 d_Mo_begin_194 rfl ?_
    refine go_aload_n 0 d_Mo_begin_199 rfl rfl ?_
    refine go_getR d_Mo_begin_200 f_Mo_47 (by assumption) (by assumption) ?_
    refine go_iload d_Mo_begin_203 rfl ?_
    refine go_iald (3 * (2 * c + 0) + j) d_Mo_begin_205 (by assumption) (hz) (by omega) (by decide) ?_
    rw [t1]
    refine go_i2l d_Mo_begin_206 (hone) ?_
    refine go_aload_n 0 d_Mo_begin_207 rfl rfl ?_
    refine go_getR d_Mo_begin_208 f_Mo_50 (by assumption) (by assumption) ?_
    refine go_iload d_Mo_begin_211 rfl ?_
    refine go_iald (3 * (2 * c + 0) + j) d_Mo_begin_213 (by assumption) (hz) (by omega) (by decide) ?_
    rw [t2]
    refine go_i2l d_Mo_begin_214 (nI_l (by omega)) ?_
    refine go_lconst (v := 0) d_Mo_begin_215 rfl ?_
    refine go_aload_n 0 d_Mo_begin_216 rfl rfl ?_
    refine go_getR d_Mo_begin_217 f_Mo_53 (by assumption) (by assumption) ?_
    refine go_iload d_Mo_begin_220 rfl ?_
    refine go_iald (3 * (2 * c + 0) + j) d_Mo_begin_222 (by assumption) (hz) (by omega) (by decide) ?_
    rw [t3]
    refine go_i2l d_Mo_begin_223 (nI_l (by omega)) ?_
    refine go_lconst (v := 0) d_Mo_begin_224 rfl ?_
    refine go_V7 d_Mo_begin_225 k_Mo_135 (by assumption) (Nat.le_of_ble_eq_true rfl) (c_Mo_addTerm0 (r := 0) (p := p) (md := md) (st := st) (lo := lo) (E := E) (b0 := s) (b1 := b1) hp0 (by decide) t4 t5 hrow (fun L2 c1 c2 c3 => ?_))
    refine go_iinc d_Mo_begin_228 rfl rfl (Nat.le_of_ble_eq_true rfl) ?_
    refine go_goto 171 d_Mo_begin_231 rfl ?_
    exact ih (j + 1) _ L2 _ (gw_inc hz) (by omega) hj3 c1 (fun q hq => by rw [c3 q hq]; exact hfr q hq) (by rw [hs]; rfl)
theorem c_Mo_beW0 {md c : Nat} {p : Int32} {st : List ab_Sy} {lo : Nat → ab_Sy} {E : sp_E} {b0 b1 : ab_Ba} {P : ab_Po} {o3 o4 : Option Value} (hp : pt_Mo sh R) (hc : c < 24) (hP : mp_at I (2 * c + 0) P) (hz : b0 = (fun _ _ => 0, 0)) (h : rw_at (L 549) (104 * 0) p md st lo E b0 b1) (next : ∀ (o3 o4 : Option Value) (L1 : Nat → Nat → Int64), rw_at (L1 549) (104 * 0) p md st lo E (ba_new P) b1 → (∀ q, q ≠ 549 → L1 q = L q) → gw_Go y_Mo_begin (d + 2) 0 0 139 [some (.ref 533), some (.int (nI c)), some (.int (0 + Int32.ofInt 1)), o3, o4] [] (n, sh, X, R, I, L1) Q) : gw_Go y_Mo_begin (d + 2) 0 0 139 [some (.ref 533), some (.int (nI c)), some (.int 0), o3, o4] [] (n, sh, X, R, I, L) Q := by
  have hp0 := hp
  obtain ⟨s533, s534, s535, s536, s537, s538, s539, s540, s541, s542, s543, s544, s545, s546, s547, s548, s549, s550, s551, s552, s553, s554, s555, s556, s557, r534, r535, r536, r537, r538, r539, r540, r541, r542, r543, r544, r545, r546, r547, r548, r549, r550, r551, r552, r553, r554, r555, r556, r557⟩ := hp
  have e2 : (2 : Int32) * nI c + 0 = nI (2 * c + 0) := ix (a := 2) (j := 0)
  refine go_iload_n 2 d_Mo_begin_139 rfl rfl ?_
  refine go_iconst (v := 2) d_Mo_begin_140 rfl ?_
  refine go_icmp_ge 240 d_Mo_begin_141 rfl (fun hn => absurd hn (by decide)) (fun _ => ?_)
  refine go_iconst (v := 2) d_Mo_begin_144 rfl ?_
  refine go_iload_n 1 d_Mo_begin_145 rfl rfl ?_
  refine go_imul d_Mo_begin_146 ?_
  refine go_iload_n 2 d_Mo_begin_147 rfl rfl ?_
  refine go_iadd d_Mo_begin_148 ?_
  rw [e2]
  refine go_istore_n 3 d_Mo_begin_149 rfl (Nat.le_of_ble_eq_true rfl) ?_
  refine go_aload_n 0 d_Mo_begin_150 rfl rfl ?_
  refine go_getR d_Mo_begin_151 f_Mo_56 (by assumption) (by assumption) ?_
  refine go_bipush (v := 99) d_Mo_begin_154 rfl ?_
  refine go_iload_n 2 d_Mo_begin_156 rfl rfl ?_
  refine go_iadd d_Mo_begin_157 ?_
  refine go_aload_n 0 d_Mo_begin_158 rfl rfl ?_
  refine go_getR d_Mo_begin_159 f_Mo_41 (by assumption) (by assumption) ?_
  refine go_iload_n 3 d_Mo_begin_162 rfl rfl ?_
  refine go_iald (2 * c + 0) d_Mo_begin_163 (by assumption) (rfl) (by omega) (by decide) ?_
  rw [hP.1]
  refine go_i2l d_Mo_begin_164 (rfl) ?_
  refine go_last (104 * 0 + 99) d_Mo_begin_165 (by assumption) (nI_add 99 0) (by decide) (by decide) ?_
  refine go_iconst (v := 3) d_Mo_begin_166 rfl ?_
  refine go_iload_n 3 d_Mo_begin_167 rfl rfl ?_
  refine go_imul d_Mo_begin_168 ?_
  refine go_istore d_Mo_begin_169 (Nat.le_of_ble_eq_true rfl) ?_
  refine c_Mo_beT0 (b0 := b0) (b1 := b1) (s0 := (fun _ _ => 0, 0 + (1 : Int32).toInt64 * P.1.toInt64)) hp0 hc hP (fun o4 L1 g1 g2 => next _ _ L1 g1 (fun q hq => by rw [g2 q hq, gw_up_ne hq])) P.2 0 _ _ _ (nI_mul 3 _) (Nat.zero_le _) rfl ?_ (fun _ _ => rfl) rfl
  rw [gw_up_eq]
  have h2 := h.num0 (x := P.1.toInt64)
  rw [hz] at h2
  rw [show (0 : Int64) + (1 : Int32).toInt64 * P.1.toInt64 = P.1.toInt64 by rw [show (1 : Int32).toInt64 = 1 from rfl, Int64.one_mul, Int64.zero_add]]
  exact h2
theorem c_Mo_beT1 {md c : Nat} {p : Int32} {st : List ab_Sy} {lo : Nat → ab_Sy} {E : sp_E} {b0 b1 : ab_Ba} {P : ab_Po} {s0 : ab_Ba} (hp : pt_Mo sh R) (hc : c < 24) (hP : mp_at I (2 * c + 1) P) (next : ∀ (o4 : Option Value) (L1 : Nat → Nat → Int64), rw_at (L1 549) (104 * 0) p md st lo E b0 (ba_add sy_id (1 : Int32).toInt64 P.2 s0) → (∀ q, q ≠ 549 → L1 q = L q) → gw_Go y_Mo_begin (d + 2) 0 0 139 [some (.ref 533), some (.int (nI c)), some (.int (1 + Int32.ofInt 1)), some (.int (nI (2 * c + 1))), o4] [] (n, sh, X, R, I, L1) Q) : ∀ (ts : List (Nat × Nat × Nat)) (j : Nat) (z : Int32) (L1 : Nat → Nat → Int64) (s : ab_Ba), z = nI (3 * (2 * c + 1) + j) → j ≤ P.2.length → P.2.drop j = ts → rw_at (L1 549) (104 * 0) p md st lo E b0 s → (∀ q, q ≠ 549 → L1 q = L q) → ba_add sy_id (1 : Int32).toInt64 P.2 s0 = ba_add sy_id (1 : Int32).toInt64 ts s → gw_Go y_Mo_begin (d + 2) 0 0 171 [some (.ref 533), some (.int (nI c)), some (.int 1), some (.int (nI (2 * c + 1))), some (.int z)] [] (n, sh, X, R, I, L1) Q := by
  have hp0 := hp
  obtain ⟨s533, s534, s535, s536, s537, s538, s539, s540, s541, s542, s543, s544, s545, s546, s547, s548, s549, s550, s551, s552, s553, s554, s555, s556, s557, r534, r535, r536, r537, r538, r539, r540, r541, r542, r543, r544, r545, r546, r547, r548, r549, r550, r551, r552, r553, r554, r555, r556, r557⟩ := hp
  obtain ⟨w1, w2, w3, w4⟩ := hP
  intro ts
  induction ts with
  | nil =>
    intro j z L1 s hz hj hd hrow hfr hs
    have hl := gw_dropE hd
    refine go_iload d_Mo_begin_171 rfl ?_
    refine go_iconst (v := 3) d_Mo_begin_173 rfl ?_
    refine go_iload_n 3 d_Mo_begin_174 rfl rfl ?_
    refine go_imul d_Mo_begin_175 ?_
    refine go_aload_n 0 d_Mo_begin_176 rfl rfl ?_
    refine go_getR d_Mo_begin_177 f_Mo_44 (by assumption) (by assumption) ?_
    refine go_iload_n 3 d_Mo_begin_180 rfl rfl ?_
    refine go_iald (2 * c + 1) d_Mo_begin_181 (by assumption) (rfl) (by omega) (by decide) ?_
    refine go_iadd d_Mo_begin_182 ?_
    refine go_icmp_ge 234 d_Mo_begin_183 rfl (fun _ => ?_) (fun hn => absurd (by rw [w2, hz, show (3 : Int32) * nI (2 * c + 1) + nI P.2.length = nI (3 * (2 * c + 1) + P.2.length) from ix (a := 3)]; exact (nI_leI (by omega) (by omega)).mpr (by omega)) hn)
    refine go_iinc d_Mo_begin_234 rfl rfl (Nat.le_of_ble_eq_true rfl) ?_
    refine go_goto 139 d_Mo_begin_237 rfl ?_
    exact next _ L1 (by rw [hs]; exact hrow) hfr
  | cons t ts ih =>
    intro j z L1 s hz hj hd hrow hfr hs
    obtain ⟨hj1, hj2, hj3⟩ := gw_drop hd
    obtain ⟨t1, t2, t3, t4, t5⟩ := w4 j t hj2
    have hone : (nI t.1).toInt64 = (1 : Int32).toInt64 * (nI t.1).toInt64 := by rw [show (1 : Int32).toInt64 = 1 from rfl, Int64.one_mul]
    refine go_iload d_Mo_begin_171 rfl ?_
    refine go_iconst (v := 3) d_Mo_begin_173 rfl ?_
    refine go_iload_n 3 d_Mo_begin_174 rfl rfl ?_
    refine go_imul d_Mo_begin_175 ?_
    refine go_aload_n 0 d_Mo_begin_176 rfl rfl ?_
    refine go_getR d_Mo_begin_177 f_Mo_44 (by assumption) (by assumption) ?_
    refine go_iload_n 3 d_Mo_begin_180 rfl rfl ?_
    refine go_iald (2 * c + 1) d_Mo_begin_181 (by assumption) (rfl) (by omega) (by decide) ?_
    refine go_iadd d_Mo_begin_182 ?_
    refine go_icmp_ge 234 d_Mo_begin_183 rfl (fun hn => absurd hn (by rw [w2, hz, show (3 : Int32) * nI (2 * c + 1) + nI P.2.length = nI (3 * (2 * c + 1) + P.2.length) from ix (a := 3)]; exact nI_ge (by omega) (by omega))) (fun _ => ?_)
    refine go_aload_n 0 d_Mo_begin_186 rfl rfl ?_
    refine go_iconst (v := nI 0) d_Mo_begin_187 rfl ?_
    refine go_iload_n 2 d_Mo_begin_188 rfl rfl ?_
    refine go_if_ne 197 d_Mo_begin_189 rfl (fun _ => ?_) (fun hn => by first | exact absurd hn (by decide) | exact absurd (by decide) hn)
    refine go_bipush (v := 74) d_Mo_begin_197 rfl ?_
    refine go_aload_n 0 d_Mo_begin_199 rfl rfl ?_
    refine go_getR d_Mo_begin_200 f_Mo_47 (by assumption) (by assumption) ?_
    refine go_iload d_Mo_begin_203 rfl ?_
    refine go_iald (3 * (2 * c + 1) + j) d_Mo_begin_205 (by assumption) (hz) (by omega) (by decide) ?_
    rw [t1]
    refine go_i2l d_Mo_begin_206 (hone) ?_
    refine go_aload_n 0 d_Mo_begin_207 rfl rfl ?_
    refine go_getR d_Mo_begin_208 f_Mo_50 (by assumption) (by assumption) ?_
    refine go_iload d_Mo_begin_211 rfl ?_
    refine go_iald (3 * (2 * c + 1) + j) d_Mo_begin_213 (by assumption) (hz) (by omega) (by decide) ?_
    rw [t2]
    refine go_i2l d_Mo_begin_214 (nI_l (by omega)) ?_
    refine go_lconst (v := 0) d_Mo_begin_215 rfl ?_
    refine go_aload_n 0 d_Mo_begin_216 rfl rfl ?_
    refine go_getR d_Mo_begin_217 f_Mo_53 (by assumption) (by assumption) ?_
    refine go_iload d_Mo_begin_220 rfl ?_
    refine go_iald (3 * (2 * c + 1) + j) d_Mo_begin_222 (by assumption) (hz) (by omega) (by decide) ?_
    rw [t3]
    refine go_i2l d_Mo_begin_223 (nI_l (by omega)) ?_
    refine go_lconst (v := 0) d_Mo_begin_224 rfl ?_
    refine go_V7 d_Mo_begin_225 k_Mo_135 (by assumption) (Nat.le_of_ble_eq_true rfl) (c_Mo_addTerm1 (r := 0) (p := p) (md := md) (st := st) (lo := lo) (E := E) (b0 := b0) (b1 := s) hp0 (by decide) t4 t5 hrow (fun L2 c1 c2 c3 => ?_))
    refine go_iinc d_Mo_begin_228 rfl rfl (Nat.le_of_ble_eq_true rfl) ?_
    refine go_goto 171 d_Mo_begin_231 rfl ?_
    exact ih (j + 1) _ L2 _ (gw_inc hz) (by omega) hj3 c1 (fun q hq => by rw [c3 q hq]; exact hfr q hq) (by rw [hs]; rfl)
theorem c_Mo_beW1 {md c : Nat} {p : Int32} {st : List ab_Sy} {lo : Nat → ab_Sy} {E : sp_E} {b0 b1 : ab_Ba} {P : ab_Po} {o3 o4 : Option Value} (hp : pt_Mo sh R) (hc : c < 24) (hP : mp_at I (2 * c + 1) P) (hz : b1 = (fun _ _ => 0, 0)) (h : rw_at (L 549) (104 * 0) p md st lo E b0 b1) (next : ∀ (o3 o4 : Option Value) (L1 : Nat → Nat → Int64), rw_at (L1 549) (104 * 0) p md st lo E b0 (ba_new P) → (∀ q, q ≠ 549 → L1 q = L q) → gw_Go y_Mo_begin (d + 2) 0 0 139 [some (.ref 533), some (.int (nI c)), some (.int (1 + Int32.ofInt 1)), o3, o4] [] (n, sh, X, R, I, L1) Q) : gw_Go y_Mo_begin (d + 2) 0 0 139 [some (.ref 533), some (.int (nI c)), some (.int 1), o3, o4] [] (n, sh, X, R, I, L) Q := by
  have hp0 := hp
  obtain ⟨s533, s534, s535, s536, s537, s538, s539, s540, s541, s542, s543, s544, s545, s546, s547, s548, s549, s550, s551, s552, s553, s554, s555, s556, s557, r534, r535, r536, r537, r538, r539, r540, r541, r542, r543, r544, r545, r546, r547, r548, r549, r550, r551, r552, r553, r554, r555, r556, r557⟩ := hp
  have e2 : (2 : Int32) * nI c + 1 = nI (2 * c + 1) := ix (a := 2) (j := 1)
  refine go_iload_n 2 d_Mo_begin_139 rfl rfl ?_
  refine go_iconst (v := 2) d_Mo_begin_140 rfl ?_
  refine go_icmp_ge 240 d_Mo_begin_141 rfl (fun hn => absurd hn (by decide)) (fun _ => ?_)
  refine go_iconst (v := 2) d_Mo_begin_144 rfl ?_
  refine go_iload_n 1 d_Mo_begin_145 rfl rfl ?_
  refine go_imul d_Mo_begin_146 ?_
  refine go_iload_n 2 d_Mo_begin_147 rfl rfl ?_
  refine go_iadd d_Mo_begin_148 ?_
  rw [e2]
  refine go_istore_n 3 d_Mo_begin_149 rfl (Nat.le_of_ble_eq_true rfl) ?_
  refine go_aload_n 0 d_Mo_begin_150 rfl rfl ?_
  refine go_getR d_Mo_begin_151 f_Mo_56 (by assumption) (by assumption) ?_
  refine go_bipush (v := 99) d_Mo_begin_154 rfl ?_
  refine go_iload_n 2 d_Mo_begin_156 rfl rfl ?_
  refine go_iadd d_Mo_begin_157 ?_
  refine go_aload_n 0 d_Mo_begin_158 rfl rfl ?_
  refine go_getR d_Mo_begin_159 f_Mo_41 (by assumption) (by assumption) ?_
  refine go_iload_n 3 d_Mo_begin_162 rfl rfl ?_
  refine go_iald (2 * c + 1) d_Mo_begin_163 (by assumption) (rfl) (by omega) (by decide) ?_
  rw [hP.1]
  refine go_i2l d_Mo_begin_164 (rfl) ?_
  refine go_last (104 * 0 + 100) d_Mo_begin_165 (by assumption) (nI_add 99 1) (by decide) (by decide) ?_
  refine go_iconst (v := 3) d_Mo_begin_166 rfl ?_
  refine go_iload_n 3 d_Mo_begin_167 rfl rfl ?_
  refine go_imul d_Mo_begin_168 ?_
  refine go_istore d_Mo_begin_169 (Nat.le_of_ble_eq_true rfl) ?_
  refine c_Mo_beT1 (b0 := b0) (b1 := b1) (s0 := (fun _ _ => 0, 0 + (1 : Int32).toInt64 * P.1.toInt64)) hp0 hc hP (fun o4 L1 g1 g2 => next _ _ L1 g1 (fun q hq => by rw [g2 q hq, gw_up_ne hq])) P.2 0 _ _ _ (nI_mul 3 _) (Nat.zero_le _) rfl ?_ (fun _ _ => rfl) rfl
  rw [gw_up_eq]
  have h2 := h.num1 (x := P.1.toInt64)
  rw [hz] at h2
  rw [show (0 : Int64) + (1 : Int32).toInt64 * P.1.toInt64 = P.1.toInt64 by rw [show (1 : Int32).toInt64 = 1 from rfl, Int64.one_mul, Int64.zero_add]]
  exact h2
theorem c_Mo_begin {c pl : Nat} {A : ab_Cu} (hp : pt_Mo sh R) (hc : c < 24) (hA : mu_at I c A) (h539 : I 539 c = nI pl) (hQ : ∀ L', rw_at (L' 549) (104 * 0) (nI pl) 0 [] sy_id (ke_add A.1 (fun _ _ => none)) (ba_new A.2.1) (ba_new A.2.2) → (∀ q, q ≠ 549 → L' q = L q) → Q none (n, sh, X, R, I, L')) : gw_Call y_Mo_begin (d + 2) 0 0 [.ref 533, .int (nI c)] (n, sh, X, R, I, L) Q := by
  have hp0 := hp
  obtain ⟨s533, s534, s535, s536, s537, s538, s539, s540, s541, s542, s543, s544, s545, s546, s547, s548, s549, s550, s551, s552, s553, s554, s555, s556, s557, r534, r535, r536, r537, r538, r539, r540, r541, r542, r543, r544, r545, r546, r547, r548, r549, r550, r551, r552, r553, r554, r555, r556, r557⟩ := hp
  obtain ⟨u1, u2, u3, u4, u5⟩ := hA
  refine gw_call o_Mo_begin (Nat.le_of_ble_eq_true rfl) ?_
  have tail : ∀ (E : sp_E) (L1 : Nat → Nat → Int64) (o3 o4 : Option Value) (z : Int32), rw_at (L1 549) (104 * 0) (nI pl) 0 [] sy_id E (fun _ _ => 0, 0) (fun _ _ => 0, 0) → (∀ q, q ≠ 549 → L1 q = L q) → E = ke_add A.1 (fun _ _ => none) → gw_Go y_Mo_begin (d + 2) 0 0 137 [some (.ref 533), some (.int (nI c)), some (.int z), o3, o4] [] (n, sh, X, R, I, L1) Q := by
    intro E L1 o3 o4 z hrow hfr hE
    subst hE
    refine go_iconst (v := 0) d_Mo_begin_137 rfl ?_
    refine go_istore_n 2 d_Mo_begin_138 rfl (Nat.le_of_ble_eq_true rfl) ?_
    refine c_Mo_beW0 hp0 hc u4 rfl hrow (fun p3 p4 L2 g1 g2 => ?_)
    refine c_Mo_beW1 hp0 hc u5 rfl g1 (fun q3 q4 L3 k1 k2 => ?_)
    refine go_iload_n 2 d_Mo_begin_139 rfl rfl ?_
    refine go_iconst (v := 2) d_Mo_begin_140 rfl ?_
    refine go_icmp_ge 240 d_Mo_begin_141 rfl (fun _ => ?_) (fun hn => absurd (by decide) hn)
    exact go_vret d_Mo_begin_240 rfl (hQ L3 k1 (fun q hq => by rw [k2 q hq, g2 q hq, hfr q hq]))
  have claims : ∀ (ts : List (Nat × Nat × Int32)) (j : Nat) (z : Int32) (E : sp_E) (L1 : Nat → Nat → Int64) (o3 o4 : Option Value), z = nI (6 * c + j) → j ≤ A.1.length → A.1.drop j = ts → rw_at (L1 549) (104 * 0) (nI pl) 0 [] sy_id E (fun _ _ => 0, 0) (fun _ _ => 0, 0) → (∀ a b v, E a b = some v → -100000000000 ≤ v ∧ v ≤ 100000000000) → (∀ q, q ≠ 549 → L1 q = L q) → ke_add A.1 (fun _ _ => none) = ke_add ts E → gw_Go y_Mo_begin (d + 2) 0 0 90 [some (.ref 533), some (.int (nI c)), some (.int z), o3, o4] [] (n, sh, X, R, I, L1) Q := by
    intro ts
    induction ts with
    | nil =>
      intro j z E L1 o3 o4 hz hj hd hrow hbd hfr hs
      have hl := gw_dropE hd
      refine go_iload_n 2 d_Mo_begin_90 rfl rfl ?_
      refine go_bipush (v := 6) d_Mo_begin_91 rfl ?_
      refine go_iload_n 1 d_Mo_begin_93 rfl rfl ?_
      refine go_imul d_Mo_begin_94 ?_
      refine go_aload_n 0 d_Mo_begin_95 rfl rfl ?_
      refine go_getR d_Mo_begin_96 f_Mo_29 (by assumption) (by assumption) ?_
      refine go_iload_n 1 d_Mo_begin_99 rfl rfl ?_
      refine go_iald (c) d_Mo_begin_100 (by assumption) (rfl) (by omega) (by decide) ?_
      refine go_iadd d_Mo_begin_101 ?_
      refine go_icmp_ge 137 d_Mo_begin_102 rfl (fun _ => ?_) (fun hn => absurd (by rw [u1, hz, show (6 : Int32) * nI c + nI A.1.length = nI (6 * c + A.1.length) from ix (a := 6)]; exact (nI_leI (by omega) (by omega)).mpr (by omega)) hn)
      exact tail E L1 _ _ _ hrow hfr hs.symm
    | cons t ts ih =>
      intro j z E L1 o3 o4 hz hj hd hrow hbd hfr hs
      obtain ⟨hj1, hj2, hj3⟩ := gw_drop hd
      obtain ⟨t1, t2, t3, t4, t5⟩ := u3 j t hj2
      have hc32 := i_32 t.2.2
      refine go_iload_n 2 d_Mo_begin_90 rfl rfl ?_
      refine go_bipush (v := 6) d_Mo_begin_91 rfl ?_
      refine go_iload_n 1 d_Mo_begin_93 rfl rfl ?_
      refine go_imul d_Mo_begin_94 ?_
      refine go_aload_n 0 d_Mo_begin_95 rfl rfl ?_
      refine go_getR d_Mo_begin_96 f_Mo_29 (by assumption) (by assumption) ?_
      refine go_iload_n 1 d_Mo_begin_99 rfl rfl ?_
      refine go_iald (c) d_Mo_begin_100 (by assumption) (rfl) (by omega) (by decide) ?_
      refine go_iadd d_Mo_begin_101 ?_
      refine go_icmp_ge 137 d_Mo_begin_102 rfl (fun hn => absurd hn (by rw [u1, hz, show (6 : Int32) * nI c + nI A.1.length = nI (6 * c + A.1.length) from ix (a := 6)]; exact nI_ge (by omega) (by omega))) (fun _ => ?_)
      refine go_aload_n 0 d_Mo_begin_105 rfl rfl ?_
      refine go_iconst (v := nI 0) d_Mo_begin_106 rfl ?_
      refine go_aload_n 0 d_Mo_begin_107 rfl rfl ?_
      refine go_getR d_Mo_begin_108 f_Mo_32 (by assumption) (by assumption) ?_
      refine go_iload_n 2 d_Mo_begin_111 rfl rfl ?_
      refine go_iald (6 * c + j) d_Mo_begin_112 (by assumption) (hz) (by omega) (by decide) ?_
      rw [t1]
      refine go_i2l d_Mo_begin_113 (nI_l (by omega)) ?_
      refine go_aload_n 0 d_Mo_begin_114 rfl rfl ?_
      refine go_getR d_Mo_begin_115 f_Mo_35 (by assumption) (by assumption) ?_
      refine go_iload_n 2 d_Mo_begin_118 rfl rfl ?_
      refine go_iald (6 * c + j) d_Mo_begin_119 (by assumption) (hz) (by omega) (by decide) ?_
      rw [t2]
      refine go_i2l d_Mo_begin_120 (nI_l (by omega)) ?_
      refine go_aload_n 0 d_Mo_begin_121 rfl rfl ?_
      refine go_getR d_Mo_begin_122 f_Mo_38 (by assumption) (by assumption) ?_
      refine go_iload_n 2 d_Mo_begin_125 rfl rfl ?_
      refine go_iald (6 * c + j) d_Mo_begin_126 (by assumption) (hz) (by omega) (by decide) ?_
      rw [t3]
      refine go_i2l d_Mo_begin_127 (i_64 t.2.2) ?_
      refine go_V4 d_Mo_begin_128 k_Mo_131 (by assumption) (Nat.le_of_ble_eq_true rfl) (c_Mo_know (r := 0) hp0 (by decide) t4 t5 (fun x hx => by have := hbd _ _ x hx; exact ⟨by omega, by omega⟩) ⟨by omega, by omega⟩ hrow (fun L2 f1 f2 f3 => ?_))
      refine go_iinc d_Mo_begin_131 rfl rfl (Nat.le_of_ble_eq_true rfl) ?_
      refine go_goto 90 d_Mo_begin_134 rfl ?_
      exact ih (j + 1) _ _ L2 _ _ (gw_inc hz) (by omega) hj3 f1 (ke_bd [t] hbd) (fun q hq => by rw [f3 q hq]; exact hfr q hq) hs
  have far : ∀ (w k : Nat) (z : Int32) (L1 : Nat → Nat → Int64) (o3 o4 : Option Value), z = nI k → k + w = 25 → (∀ j, j < k → L1 549 (24 + j) = 1000000000000000) → L1 549 0 = (nI pl).toInt64 → (∀ j, j < 4 → L1 549 (4 + 2 * j) = lN j) → (∀ i, i < 104 → i ≠ 0 → (i < 24 ∨ 49 ≤ i) → (∀ j, j < 4 → i ≠ 4 + 2 * j) → L1 549 i = 0) → (∀ q, q ≠ 549 → L1 q = L q) → gw_Go y_Mo_begin (d + 2) 0 0 61 [some (.ref 533), some (.int (nI c)), some (.int z), o3, o4] [] (n, sh, X, R, I, L1) Q := by
    intro w
    induction w with
    | zero =>
      intro k z L1 o3 o4 hz hk h1 h2 h3 h4 h5
      have hk4 : k = 25 := by omega
      subst hk4
      have hrow : rw_at (L1 549) (104 * 0) (nI pl) 0 [] sy_id (fun _ _ => none) (fun _ _ => 0, 0) (fun _ _ => 0, 0) := by
        refine ⟨h2, h4 1 (by decide) (by decide) (by decide) (fun j hj => by omega), h4 2 (by decide) (by decide) (by decide) (fun j hj => by omega), by decide, trivial, fun j hj => ?_, rfl, fun a b ha hb => ?_, ⟨fun a b ha hb => ?_, ?_⟩, ⟨fun a b ha hb => ?_, ?_⟩⟩
        · exact ⟨by rw [show 104 * 0 + 4 + 2 * j = 4 + 2 * j by omega]; exact h3 j hj, by show j < 5; omega, h4 _ (by omega) (by omega) (by omega) (fun j' hj' => by omega)⟩
        · rw [show 104 * 0 + 24 + 5 * a + b = 24 + (5 * a + b) by omega]; exact h1 _ (by omega)
        · exact h4 _ (by omega) (by omega) (by omega) (fun j' hj' => by omega)
        · exact h4 _ (by omega) (by omega) (by omega) (fun j' hj' => by omega)
        · exact h4 _ (by omega) (by omega) (by omega) (fun j' hj' => by omega)
        · exact h4 _ (by omega) (by omega) (by omega) (fun j' hj' => by omega)
      refine go_iload_n 2 d_Mo_begin_61 rfl rfl ?_
      refine go_bipush (v := 25) d_Mo_begin_62 rfl ?_
      refine go_icmp_ge 85 d_Mo_begin_64 rfl (fun _ => ?_) (fun hn => absurd (by rw [hz]; decide) hn)
      refine go_bipush (v := 6) d_Mo_begin_85 rfl ?_
      refine go_iload_n 1 d_Mo_begin_87 rfl rfl ?_
      refine go_imul d_Mo_begin_88 ?_
      refine go_istore_n 2 d_Mo_begin_89 rfl (Nat.le_of_ble_eq_true rfl) ?_
      exact claims A.1 0 _ (fun _ _ => none) L1 _ _ (nI_mul 6 c) (Nat.zero_le _) rfl hrow (fun a b v h => by cases h) h5 rfl
    | succ w ih =>
      intro k z L1 o3 o4 hz hk h1 h2 h3 h4 h5
      refine go_iload_n 2 d_Mo_begin_61 rfl rfl ?_
      refine go_bipush (v := 25) d_Mo_begin_62 rfl ?_
      refine go_icmp_ge 85 d_Mo_begin_64 rfl (fun hn => absurd hn (by rw [hz]; exact nI_ge (b := 25) (by omega) (by decide))) (fun _ => ?_)
      refine go_aload_n 0 d_Mo_begin_67 rfl rfl ?_
      refine go_getR d_Mo_begin_68 f_Mo_56 (by assumption) (by assumption) ?_
      refine go_bipush (v := 24) d_Mo_begin_71 rfl ?_
      refine go_iload_n 2 d_Mo_begin_73 rfl rfl ?_
      refine go_iadd d_Mo_begin_74 ?_
      refine go_ldc2 d_Mo_begin_75 i_Mo_124 ?_
      refine go_last (24 + k) d_Mo_begin_78 (by assumption) (by rw [hz]; exact nI_add 24 k) (by omega) (by decide) ?_
      refine go_iinc d_Mo_begin_79 rfl rfl (Nat.le_of_ble_eq_true rfl) ?_
      refine go_goto 61 d_Mo_begin_82 rfl ?_
      exact ih (k + 1) _ _ _ _ (gw_inc hz) (by omega) (fun j hj => by by_cases he : j = k; (subst he; rw [up2_eq]); (rw [up2_ne (Or.inr (by omega))]; exact h1 j (by omega))) (by rw [up2_ne (Or.inr (by omega))]; exact h2) (fun j hj => by rw [up2_ne (Or.inr (by omega))]; exact h3 j hj) (fun i a b c' d' => by rw [up2_ne (Or.inr (by omega))]; exact h4 i a b c' d') (fun q hq => by rw [gw_up_ne hq]; exact h5 q hq)
  have locs : ∀ (w k : Nat) (z : Int32) (L1 : Nat → Nat → Int64) (o3 o4 : Option Value), z = nI k → k + w = 4 → L1 549 0 = (nI pl).toInt64 → (∀ j, j < k → L1 549 (4 + 2 * j) = lN j) → (∀ i, i < 104 → i ≠ 0 → (∀ j, j < k → i ≠ 4 + 2 * j) → L1 549 i = 0) → (∀ q, q ≠ 549 → L1 q = L q) → gw_Go y_Mo_begin (d + 2) 0 0 36 [some (.ref 533), some (.int (nI c)), some (.int z), o3, o4] [] (n, sh, X, R, I, L1) Q := by
    intro w
    induction w with
    | zero =>
      intro k z L1 o3 o4 hz hk h2 h3 h4 h5
      have hk4 : k = 4 := by omega
      subst hk4
      refine go_iload_n 2 d_Mo_begin_36 rfl rfl ?_
      refine go_iconst (v := 4) d_Mo_begin_37 rfl ?_
      refine go_icmp_ge 59 d_Mo_begin_38 rfl (fun _ => ?_) (fun hn => absurd (by rw [hz]; decide) hn)
      refine go_iconst (v := 0) d_Mo_begin_59 rfl ?_
      refine go_istore_n 2 d_Mo_begin_60 rfl (Nat.le_of_ble_eq_true rfl) ?_
      exact far 25 0 _ L1 _ _ rfl rfl (fun j hj => by omega) h2 h3 (fun i a b c' d' => h4 i a b d') h5
    | succ w ih =>
      intro k z L1 o3 o4 hz hk h2 h3 h4 h5
      refine go_iload_n 2 d_Mo_begin_36 rfl rfl ?_
      refine go_iconst (v := 4) d_Mo_begin_37 rfl ?_
      refine go_icmp_ge 59 d_Mo_begin_38 rfl (fun hn => absurd hn (by rw [hz]; exact nI_ge (b := 4) (by omega) (by decide))) (fun _ => ?_)
      refine go_aload_n 0 d_Mo_begin_41 rfl rfl ?_
      refine go_getR d_Mo_begin_42 f_Mo_56 (by assumption) (by assumption) ?_
      refine go_iconst (v := 4) d_Mo_begin_45 rfl ?_
      refine go_iconst (v := 2) d_Mo_begin_46 rfl ?_
      refine go_iload_n 2 d_Mo_begin_47 rfl rfl ?_
      refine go_imul d_Mo_begin_48 ?_
      refine go_iadd d_Mo_begin_49 ?_
      refine go_iload_n 2 d_Mo_begin_50 rfl rfl ?_
      refine go_i2l d_Mo_begin_51 ((by rw [hz]; exact nI_l (by omega) : z.toInt64 = lN k)) ?_
      refine go_last (4 + 2 * k) d_Mo_begin_52 (by assumption) (by rw [hz, show (2 : Int32) * nI k = nI (2 * k) from nI_mul 2 k]; exact nI_add 4 _) (by omega) (by decide) ?_
      refine go_iinc d_Mo_begin_53 rfl rfl (Nat.le_of_ble_eq_true rfl) ?_
      refine go_goto 36 d_Mo_begin_56 rfl ?_
      exact ih (k + 1) _ _ _ _ (gw_inc hz) (by omega) (by rw [up2_ne (Or.inr (by omega))]; exact h2) (fun j hj => by by_cases he : j = k; (subst he; rw [up2_eq]); (rw [up2_ne (Or.inr (by omega))]; exact h3 j (by omega))) (fun i a b d' => by rw [up2_ne (Or.inr (d' k (by omega)))]; exact h4 i a b (fun j hj => d' j (by omega))) (fun q hq => by rw [gw_up_ne hq]; exact h5 q hq)
  have zero : ∀ (w k : Nat) (z : Int32) (L1 : Nat → Nat → Int64) (o3 o4 : Option Value), z = nI k → k + w = 104 → (∀ i, i < k → L1 549 i = 0) → (∀ q, q ≠ 549 → L1 q = L q) → gw_Go y_Mo_begin (d + 2) 0 0 2 [some (.ref 533), some (.int (nI c)), some (.int z), o3, o4] [] (n, sh, X, R, I, L1) Q := by
    intro w
    induction w with
    | zero =>
      intro k z L1 o3 o4 hz hk h1 h5
      have hk4 : k = 104 := by omega
      subst hk4
      refine go_iload_n 2 d_Mo_begin_2 rfl rfl ?_
      refine go_bipush (v := 104) d_Mo_begin_3 rfl ?_
      refine go_icmp_ge 21 d_Mo_begin_5 rfl (fun _ => ?_) (fun hn => absurd (by rw [hz]; decide) hn)
      refine go_aload_n 0 d_Mo_begin_21 rfl rfl ?_
      refine go_getR d_Mo_begin_22 f_Mo_56 (by assumption) (by assumption) ?_
      refine go_iconst (v := 0) d_Mo_begin_25 rfl ?_
      refine go_aload_n 0 d_Mo_begin_26 rfl rfl ?_
      refine go_getR d_Mo_begin_27 f_Mo_26 (by assumption) (by assumption) ?_
      refine go_iload_n 1 d_Mo_begin_30 rfl rfl ?_
      refine go_iald (c) d_Mo_begin_31 (by assumption) (rfl) (by omega) (by decide) ?_
      rw [h539]
      refine go_i2l d_Mo_begin_32 (rfl) ?_
      refine go_last (0) d_Mo_begin_33 (by assumption) (rfl) (by decide) (by decide) ?_
      refine go_iconst (v := 0) d_Mo_begin_34 rfl ?_
      refine go_istore_n 2 d_Mo_begin_35 rfl (Nat.le_of_ble_eq_true rfl) ?_
      exact locs 4 0 _ _ _ _ rfl rfl (by rw [up2_eq]) (fun j hj => by omega) (fun i a b d' => by rw [up2_ne (Or.inr b)]; exact h1 i a) (fun q hq => by rw [gw_up_ne hq]; exact h5 q hq)
    | succ w ih =>
      intro k z L1 o3 o4 hz hk h1 h5
      refine go_iload_n 2 d_Mo_begin_2 rfl rfl ?_
      refine go_bipush (v := 104) d_Mo_begin_3 rfl ?_
      refine go_icmp_ge 21 d_Mo_begin_5 rfl (fun hn => absurd hn (by rw [hz]; exact nI_ge (b := 104) (by omega) (by decide))) (fun _ => ?_)
      refine go_aload_n 0 d_Mo_begin_8 rfl rfl ?_
      refine go_getR d_Mo_begin_9 f_Mo_56 (by assumption) (by assumption) ?_
      refine go_iload_n 2 d_Mo_begin_12 rfl rfl ?_
      refine go_lconst (v := 0) d_Mo_begin_13 rfl ?_
      refine go_last (k) d_Mo_begin_14 (by assumption) (hz) (by omega) (by decide) ?_
      refine go_iinc d_Mo_begin_15 rfl rfl (Nat.le_of_ble_eq_true rfl) ?_
      refine go_goto 2 d_Mo_begin_18 rfl ?_
      exact ih (k + 1) _ _ _ _ (gw_inc hz) (by omega) (fun i hi => by by_cases he : i = k; (subst he; rw [up2_eq]); (rw [up2_ne (Or.inr he)]; exact h1 i (by omega))) (fun q hq => by rw [gw_up_ne hq]; exact h5 q hq)
  refine go_iconst (v := 0) d_Mo_begin_0 rfl ?_
  refine go_istore_n 2 d_Mo_begin_1 rfl (Nat.le_of_ble_eq_true rfl) ?_
  exact zero 104 0 _ L _ _ rfl rfl (fun i hi => by omega) (fun _ _ => rfl)
end MO
