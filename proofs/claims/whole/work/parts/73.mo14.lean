/-! the reference: part -/
theorem pa_lrn_ok {s s' : sp_E × sp_E} {t : Nat × Nat × Int} (hok : kn_ok s) (h1 : t.1 < 5) (h2 : t.2.1 < 5) (hc : -100000000000 ≤ t.2.2 ∧ t.2.2 ≤ 100000000000) (h : pa_lrn (some t) s = some s') : kn_ok s' ∧ s'.1 = sp_add s.1 t.1 t.2.1 t.2.2 := by
  unfold pa_lrn at h
  dsimp only at h
  by_cases hb : ∃ w, s.2 t.2.1 t.1 = some w ∧ w + t.2.2 < 0
  · rw [cIf_pos hb] at h; cases h
  · rw [cIf_neg hb] at h
    cases h
    refine ⟨⟨sp_C_lrn hok.1 h1 h2 (fun w hw => Int.not_lt.mp (fun hn => hb ⟨w, hw, hn⟩)), fun a b v hv => ?_⟩, rfl⟩
    rcases sp_add_of hv with h | ⟨_, _, rfl⟩
    · exact hok.2 a b v h
    · exact hc
theorem pa_lrn_bad {s : sp_E × sp_E} {t : Nat × Nat × Int} (hok : kn_ok s) (h1 : t.1 < 5) (h2 : t.2.1 < 5) (h : pa_lrn (some t) s = none) : ∃ (k : Nat) (u : Int), k ≤ 5 ∧ u < 0 ∧ sp_W (sp_add s.1 t.1 t.2.1 t.2.2) k t.1 t.1 u := by
  unfold pa_lrn at h
  dsimp only at h
  by_cases hb : ∃ w, s.2 t.2.1 t.1 = some w ∧ w + t.2.2 < 0
  · obtain ⟨w, hw, hn⟩ := hb
    exact sp_bad hok.1 h1 h2 hw hn
  · rw [cIf_neg hb] at h; cases h
/-- what is known, or that it contradicts itself, and the facts that say so -/
def lr_ok (F : Option (sp_E × sp_E)) (E : sp_E) : Prop := match F with
  | some f => kn_ok f ∧ f.1 = E
  | none => (∀ a b v, E a b = some v → -100000000000 ≤ v ∧ v ≤ 100000000000) ∧ ∃ (a k : Nat) (u : Int), k ≤ 5 ∧ u < 0 ∧ sp_W E k a a u
theorem lr_ok_lrn {s : sp_E × sp_E} {t : Nat × Nat × Int} (hok : kn_ok s) (h1 : t.1 < 5) (h2 : t.2.1 < 5) (hc : -100000000000 ≤ t.2.2 ∧ t.2.2 ≤ 100000000000) : lr_ok (pa_lrn (some t) s) (sp_add s.1 t.1 t.2.1 t.2.2) := by
  cases hl : pa_lrn (some t) s with
  | some s' => exact pa_lrn_ok hok h1 h2 hc hl
  | none =>
    obtain ⟨k, u, h3, h4, h5⟩ := pa_lrn_bad hok h1 h2 hl
    refine ⟨fun a b v hv => ?_, t.1, k, u, h3, h4, h5⟩
    rcases sp_add_of hv with h | ⟨_, _, rfl⟩
    · exact hok.2 a b v h
    · exact hc
/-- what part leaves: the rows from r up to w -/
def mp_post (G : Nat → Int64) (r w : Nat) (F N : Option (sp_E × sp_E)) (p nn : Int32) (md : Nat) (st : List ab_Sy) (lo : Nat → ab_Sy) (b0 b1 : ab_Ba) : Prop := match F, N with
  | some f, some g => w = r + 2 ∧ rw_at G (104 * r) nn md st lo f.1 b0 b1 ∧ rw_at G (104 * (r + 1)) p md st lo g.1 b0 b1
  | none, some g => w = r + 1 ∧ rw_at G (104 * r) p md st lo g.1 b0 b1
  | some f, none => w = r + 1 ∧ rw_at G (104 * r) nn md st lo f.1 b0 b1
  | none, none => w = r
section MO
variable {d n : Nat} {sh : Nat → Nat × Nat} {X : Nat × (Nat → Int32)} {R : Nat → Nat → Option Nat} {I : Nat → Nat → Int32} {L : Nat → Nat → Int64} {Q : Option Value → gw_Mem → Prop}
theorem c_Mo_fb {r : Nat} {F : Option (sp_E × sp_E)} {E : sp_E} (hp : pt_Mo sh R) (hr : r < 42) (hE : me_tab (L 549) (104 * r + 24) E) (hF : lr_ok F E) (hQ : ∀ (L' : Nat → Nat → Int64), (∀ q, q ≠ 550 → q ≠ 551 → L' q = L q) → Q (some (.int (bI F.isSome))) (n, sh, X, R, I, L')) : gw_Call y_Mo_findBounds (d + 1) 0 0 [.ref 533, .int (nI r)] (n, sh, X, R, I, L) Q := by
  cases F with
  | some f =>
    obtain ⟨h1, h2⟩ := hF
    subst h2
    exact c_Mo_fbC hp hr hE h1 (fun L' _ h => hQ L' h)
  | none =>
    obtain ⟨h1, a, k, u, h2, h3, h4⟩ := hF
    exact c_Mo_fbN hp hr hE h1 h2 h3 h4 (fun L' h => hQ L' h)
theorem c_Mo_ptD {r md : Nat} {p nn : Int32} {st : List ab_Sy} {lo : Nat → ab_Sy} {b0 b1 : ab_Ba}{less : Bool} {g i4 i5 : Int32} {s7 t9 d11 : Int64} {o15 : Option Value} {F N : Option (sp_E × sp_E)} (hp : pt_Mo sh R) (hr : r + 1 < 42) (hpost : ∀ w, w = r + (if F.isSome then 1 else 0) + (if N.isSome then 1 else 0) → mp_post (L 549) r w F N p nn md st lo b0 b1) (hQ : ∀ I' w, mp_post (L 549) r w F N p nn md st lo b0 b1 → I' 533 16 = nI w → (∀ j, j ≠ 16 → I' 533 j = I 533 j) → (∀ q, q ≠ 533 → I' q = I q) → Q (some (.int 0)) (n, sh, X, R, I', L)) : gw_Go y_Mo_part d 0 0 251 [some (.ref 533), some (.int (nI r)), some (.int (bI less)), some (.int nn), some (.int i4), some (.int i5), some (.int g), some (.long s7), none, some (.long t9), none, some (.long d11), none, some (.int (bI F.isSome)), some (.int (bI N.isSome)), o15] [] (n, sh, X, R, I, L) Q := by
  obtain ⟨s533, s534, s535, s536, s537, s538, s539, s540, s541, s542, s543, s544, s545, s546, s547, s548, s549, s550, s551, s552, s553, s554, s555, s556, s557, r534, r535, r536, r537, r538, r539, r540, r541, r542, r543, r544, r545, r546, r547, r548, r549, r550, r551, r552, r553, r554, r555, r556, r557⟩ := hp
  cases F with
  | none => cases N with
    | none =>
      refine go_aload_n 0 d_Mo_part_251 rfl rfl ?_
      refine go_iload_n 1 d_Mo_part_252 rfl rfl ?_
      refine go_iload d_Mo_part_253 rfl ?_
      refine go_if_eq 262 d_Mo_part_255 rfl (fun _ => ?_) (fun hn => absurd (by decide) hn)
      refine go_iconst (v := 0) d_Mo_part_262 rfl ?_
      refine go_iadd d_Mo_part_263 ?_
      refine go_iload d_Mo_part_264 rfl ?_
      refine go_if_eq 273 d_Mo_part_266 rfl (fun _ => ?_) (fun hn => absurd (by decide) hn)
      refine go_iconst (v := 0) d_Mo_part_273 rfl ?_
      refine go_iadd d_Mo_part_274 ?_
      refine go_putI d_Mo_part_275 f_Mo_149 (by assumption) ?_
      refine go_iconst (v := 0) d_Mo_part_278 rfl ?_
      exact go_iret d_Mo_part_279 rfl (hQ _ (r + 0 + 0) (hpost _ rfl) (by rw [up2_eq]; exact (congrArg (· + 0) (nI_add r 0)).trans (nI_add _ 0)) (fun j hj => up2_ne (Or.inr hj)) (fun q hq => gw_up_ne hq))
    | some g =>
      refine go_aload_n 0 d_Mo_part_251 rfl rfl ?_
      refine go_iload_n 1 d_Mo_part_252 rfl rfl ?_
      refine go_iload d_Mo_part_253 rfl ?_
      refine go_if_eq 262 d_Mo_part_255 rfl (fun _ => ?_) (fun hn => absurd (by decide) hn)
      refine go_iconst (v := 0) d_Mo_part_262 rfl ?_
      refine go_iadd d_Mo_part_263 ?_
      refine go_iload d_Mo_part_264 rfl ?_
      refine go_if_eq 273 d_Mo_part_266 rfl (fun hn => absurd hn (i_10)) (fun _ => ?_)
      refine go_iconst (v := 1) d_Mo_part_269 rfl ?_
      refine go_goto 274 d_Mo_part_270 rfl ?_
      refine go_iadd d_Mo_part_274 ?_
      refine go_putI d_Mo_part_275 f_Mo_149 (by assumption) ?_
      refine go_iconst (v := 0) d_Mo_part_278 rfl ?_
      exact go_iret d_Mo_part_279 rfl (hQ _ (r + 0 + 1) (hpost _ rfl) (by rw [up2_eq]; exact (congrArg (· + 1) (nI_add r 0)).trans (nI_add _ 1)) (fun j hj => up2_ne (Or.inr hj)) (fun q hq => gw_up_ne hq))
  | some f => cases N with
    | none =>
      refine go_aload_n 0 d_Mo_part_251 rfl rfl ?_
      refine go_iload_n 1 d_Mo_part_252 rfl rfl ?_
      refine go_iload d_Mo_part_253 rfl ?_
      refine go_if_eq 262 d_Mo_part_255 rfl (fun hn => absurd hn (i_10)) (fun _ => ?_)
      refine go_iconst (v := 1) d_Mo_part_258 rfl ?_
      refine go_goto 263 d_Mo_part_259 rfl ?_
      refine go_iadd d_Mo_part_263 ?_
      refine go_iload d_Mo_part_264 rfl ?_
      refine go_if_eq 273 d_Mo_part_266 rfl (fun _ => ?_) (fun hn => absurd (by decide) hn)
      refine go_iconst (v := 0) d_Mo_part_273 rfl ?_
      refine go_iadd d_Mo_part_274 ?_
      refine go_putI d_Mo_part_275 f_Mo_149 (by assumption) ?_
      refine go_iconst (v := 0) d_Mo_part_278 rfl ?_
      exact go_iret d_Mo_part_279 rfl (hQ _ (r + 1 + 0) (hpost _ rfl) (by rw [up2_eq]; exact (congrArg (· + 0) (nI_add r 1)).trans (nI_add _ 0)) (fun j hj => up2_ne (Or.inr hj)) (fun q hq => gw_up_ne hq))
    | some g =>
      refine go_aload_n 0 d_Mo_part_251 rfl rfl ?_
      refine go_iload_n 1 d_Mo_part_252 rfl rfl ?_
      refine go_iload d_Mo_part_253 rfl ?_
      refine go_if_eq 262 d_Mo_part_255 rfl (fun hn => absurd hn (i_10)) (fun _ => ?_)
      refine go_iconst (v := 1) d_Mo_part_258 rfl ?_
      refine go_goto 263 d_Mo_part_259 rfl ?_
      refine go_iadd d_Mo_part_263 ?_
      refine go_iload d_Mo_part_264 rfl ?_
      refine go_if_eq 273 d_Mo_part_266 rfl (fun hn => absurd hn (i_10)) (fun _ => ?_)
      refine go_iconst (v := 1) d_Mo_part_269 rfl ?_
      refine go_goto 274 d_Mo_part_270 rfl ?_
      refine go_iadd d_Mo_part_274 ?_
      refine go_putI d_Mo_part_275 f_Mo_149 (by assumption) ?_
      refine go_iconst (v := 0) d_Mo_part_278 rfl ?_
      exact go_iret d_Mo_part_279 rfl (hQ _ (r + 1 + 1) (hpost _ rfl) (by rw [up2_eq]; exact (congrArg (· + 1) (nI_add r 1)).trans (nI_add _ 1)) (fun j hj => up2_ne (Or.inr hj)) (fun q hq => gw_up_ne hq))
/-- from the two findBounds on -/
theorem c_Mo_ptC {r md : Nat} {p nn : Int32} {st : List ab_Sy} {lo : Nat → ab_Sy} {b0 b1 : ab_Ba}{less : Bool} {g i4 i5 : Int32} {s7 t9 d11 : Int64} {o13 o14 o15 : Option Value} {F N : Option (sp_E × sp_E)} {EF EN : sp_E} (hp : pt_Mo sh R) (hr : r + 1 < 42) (h1 : rw_at (L 549) (104 * r) nn md st lo EF b0 b1) (h2 : rw_at (L 549) (104 * (r + 1)) p md st lo EN b0 b1) (hF : lr_ok F EF) (hN : lr_ok N EN) (hQ : ∀ I' L' w, mp_post (L' 549) r w F N p nn md st lo b0 b1 → I' 533 16 = nI w → (∀ j, j ≠ 16 → I' 533 j = I 533 j) → (∀ q, q ≠ 533 → I' q = I q) → (∀ i, i < 104 * r → L' 549 i = L 549 i) → (∀ q, q ≠ 549 → q ≠ 550 → q ≠ 551 → L' q = L q) → Q (some (.int 0)) (n, sh, X, R, I', L')) : gw_Go y_Mo_part (d + 2) 0 0 187 [some (.ref 533), some (.int (nI r)), some (.int (bI less)), some (.int nn), some (.int i4), some (.int i5), some (.int g), some (.long s7), none, some (.long t9), none, some (.long d11), none, o13, o14, o15] [] (n, sh, X, R, I, L) Q := by
  have hp0 := hp
  obtain ⟨s533, s534, s535, s536, s537, s538, s539, s540, s541, s542, s543, s544, s545, s546, s547, s548, s549, s550, s551, s552, s553, s554, s555, s556, s557, r534, r535, r536, r537, r538, r539, r540, r541, r542, r543, r544, r545, r546, r547, r548, r549, r550, r551, r552, r553, r554, r555, r556, r557⟩ := hp
  have copy : ∀ (w k : Nat) (x : Int32) (L1 : Nat → Nat → Int64), F = none → x = nI k → k + w = 104 → (∀ j, j < k → L1 549 (104 * r + j) = L 549 (104 * (r + 1) + j)) → (∀ i, i < 104 * r ∨ 104 * r + 104 ≤ i → L1 549 i = L 549 i) → (∀ q, q ≠ 549 → q ≠ 550 → q ≠ 551 → L1 q = L q) → gw_Go y_Mo_part (d + 2) 0 0 211 [some (.ref 533), some (.int (nI r)), some (.int (bI less)), some (.int nn), some (.int i4), some (.int i5), some (.int g), some (.long s7), none, some (.long t9), none, some (.long d11), none, some (.int (bI F.isSome)), some (.int (bI N.isSome)), some (.int x)] [] (n, sh, X, R, I, L1) Q := by
    intro w
    induction w with
    | zero =>
      intro k x L1 hFn hx hk e1 e2 e3
      have hk4 : k = 104 := by omega
      subst hk4
      refine go_iload d_Mo_part_211 rfl ?_
      refine go_bipush (v := 104) d_Mo_part_213 rfl ?_
      refine go_icmp_ge 251 d_Mo_part_215 rfl (fun _ => ?_) (fun hn => absurd (by rw [hx]; decide) hn)
      exact c_Mo_ptD hp0 hr (fun w hw => by subst hFn; (cases N with | none => exact hw | some g => (obtain ⟨_, hg⟩ := hN; exact ⟨hw, hg ▸ h2.cpy (fun j hj => e1 j hj)⟩))) (fun I' w q1 q2 q3 q4 => hQ I' L1 w q1 q2 q3 q4 (fun i hi => e2 i (Or.inl hi)) e3)
    | succ w ih =>
      intro k x L1 hFn hx hk e1 e2 e3
      refine go_iload d_Mo_part_211 rfl ?_
      refine go_bipush (v := 104) d_Mo_part_213 rfl ?_
      refine go_icmp_ge 251 d_Mo_part_215 rfl (fun hn => absurd hn (by rw [hx]; exact nI_ge (b := 104) (by omega) (by decide))) (fun _ => ?_)
      refine go_aload_n 0 d_Mo_part_218 rfl rfl ?_
      refine go_getR d_Mo_part_219 f_Mo_56 (by assumption) (by assumption) ?_
      refine go_bipush (v := 104) d_Mo_part_222 rfl ?_
      refine go_iload_n 1 d_Mo_part_224 rfl rfl ?_
      refine go_imul d_Mo_part_225 ?_
      refine go_iload d_Mo_part_226 rfl ?_
      refine go_iadd d_Mo_part_228 ?_
      refine go_aload_n 0 d_Mo_part_229 rfl rfl ?_
      refine go_getR d_Mo_part_230 f_Mo_56 (by assumption) (by assumption) ?_
      refine go_bipush (v := 104) d_Mo_part_233 rfl ?_
      refine go_iload_n 1 d_Mo_part_235 rfl rfl ?_
      refine go_imul d_Mo_part_236 ?_
      refine go_bipush (v := 104) d_Mo_part_237 rfl ?_
      refine go_iadd d_Mo_part_239 ?_
      refine go_iload d_Mo_part_240 rfl ?_
      refine go_iadd d_Mo_part_242 ?_
      refine go_lald (104 * (r + 1) + k) d_Mo_part_243 (by assumption) (by rw [hx, show (104 : Int32) * nI r + 104 = nI (104 * r + 104) from ix3 (a := 104), nI_add]; exact congrArg nI (by omega)) (by omega) (by decide) ?_
      refine go_last (104 * r + k) d_Mo_part_244 (by assumption) (by rw [hx]; exact ix3) (by omega) (by decide) ?_
      refine go_iinc d_Mo_part_245 rfl rfl (Nat.le_of_ble_eq_true rfl) ?_
      refine go_goto 211 d_Mo_part_248 rfl ?_
      exact ih (k + 1) _ _ hFn (gw_inc hx) (by omega) (fun j hj => by by_cases he : j = k; (subst he; rw [up2_eq]; exact e2 _ (by omega)); (rw [up2_ne (Or.inr (by omega))]; exact e1 j (by omega))) (fun i hi => by rw [up2_ne (Or.inr (by omega))]; exact e2 i hi) (fun q a b c => by rw [gw_up_ne a]; exact e3 q a b c)
  refine go_aload_n 0 d_Mo_part_187 rfl rfl ?_
  refine go_iload_n 1 d_Mo_part_188 rfl rfl ?_
  refine go_V1 d_Mo_part_189 k_Mo_142 (by assumption) (Nat.le_of_ble_eq_true rfl) (c_Mo_fb (F := F) hp0 (by omega) h1.2.2.2.2.2.2.2.1 hF (fun L1 f1 => ?_))
  refine go_istore d_Mo_part_192 (Nat.le_of_ble_eq_true rfl) ?_
  refine go_aload_n 0 d_Mo_part_194 rfl rfl ?_
  refine go_iload_n 1 d_Mo_part_195 rfl rfl ?_
  refine go_iconst (v := 1) d_Mo_part_196 rfl ?_
  refine go_iadd d_Mo_part_197 ?_
  rw [show nI r + 1 = nI (r + 1) from nI_1 r]
  refine go_V1 d_Mo_part_198 k_Mo_142 (by assumption) (Nat.le_of_ble_eq_true rfl) (c_Mo_fb (F := N) hp0 hr (by rw [f1 _ (by decide) (by decide)]; exact h2.2.2.2.2.2.2.2.1) hN (fun L2 f2 => ?_))
  refine go_istore d_Mo_part_201 (Nat.le_of_ble_eq_true rfl) ?_
  have g : ∀ q, q ≠ 550 → q ≠ 551 → L2 q = L q := fun q a b => by rw [f2 q a b, f1 q a b]
  cases hFs : F with
  | some f =>
    subst hFs
    refine go_iload d_Mo_part_203 rfl ?_
    refine go_if_ne 251 d_Mo_part_205 rfl (fun _ => ?_) (fun hn => by first | exact absurd hn (i_10) | exact absurd (i_10) hn)
    exact c_Mo_ptD hp0 hr (fun w hw => by rw [g _ (by decide) (by decide)]; (cases N with | none => exact ⟨hw, hF.2 ▸ h1⟩ | some g => exact ⟨hw, hF.2 ▸ h1, hN.2 ▸ h2⟩)) (fun I' w q1 q2 q3 q4 => hQ I' L2 w q1 q2 q3 q4 (fun i hi => by rw [g _ (by decide) (by decide)]) (fun q a b c => g q b c))
  | none =>
    rw [← hFs]
    refine go_iload d_Mo_part_203 rfl ?_
    refine go_if_ne 251 d_Mo_part_205 rfl (fun hn => absurd hn (by rw [hFs]; decide)) (fun _ => ?_)
    refine go_iconst (v := 0) d_Mo_part_208 rfl ?_
    refine go_istore d_Mo_part_209 (Nat.le_of_ble_eq_true rfl) ?_
    exact copy 104 0 _ L2 hFs rfl rfl (fun j hj => by omega) (fun i hi => by rw [g _ (by decide) (by decide)]) (fun q a b c => g q b c)
end MO
