/-! Path.performPlain, learnLess, copyFrom, beginAt -/
/-- an instruction that neither parts nor ends a path: place, stack, locals behind it -/
def pa_do (k : Nat) (nn p : Int32) (st : List ab_Sy) (lo : Nat → ab_Sy) : Int32 × List ab_Sy × (Nat → ab_Sy) := match k, st with
  | 0, st => (p, some (4, nn.toInt64) :: st, lo)
  | 1, st => (p, lo nn.toNatClampNeg :: st, lo)
  | 2, v :: st => (p, st, va_up lo nn.toNatClampNeg v)
  | 3, y :: x :: st => (p, sy_sum x y :: st, lo)
  | 4, y :: x :: st => (p, sy_dif x y :: st, lo)
  | 5, st => (p, st, va_up lo 0 (sy_up nn (lo 0)))
  | 6, st => (p, st, va_up lo 1 (sy_up nn (lo 1)))
  | 7, st => (nn, st, lo)
  | 13, st => (p, none :: st, lo)
  | 14, _ :: st => (p, st, lo)
  | _, st => (p, st, lo)
theorem sd_up {x : Int32} {v : Int64} {y : ab_Sy} {nn : Int32} (h : sd_at x v y) : sd_at x (v + nn.toInt64) (sy_up nn y) := by
  cases y with
  | none => exact h
  | some q => exact ⟨h.1, h.2.1, by rw [h.2.2]⟩
/-- what is learned where x < y held, or didn't -/
def pa_edge (isLess : Bool) (x y : ab_Sy) : Option (Nat × Nat × Int) := match x, y with
  | some q, some r => some (if isLess then (q.1, r.1, r.2.toInt - q.2.toInt - 1) else (r.1, q.1, q.2.toInt - r.2.toInt))
  | _, _ => none
noncomputable def pa_lrn (e : Option (Nat × Nat × Int)) (s : sp_E × sp_E) : Option (sp_E × sp_E) := match e with
  | none => some s
  | some t => cIf (∃ w, s.2 t.2.1 t.1 = some w ∧ w + t.2.2 < 0) none (some (sp_add s.1 t.1 t.2.1 t.2.2, sp_lrn s.2 t.1 t.2.1 t.2.2))
theorem l_less (x y : Int64) : y - x - 1 = Int64.ofInt (y.toInt - x.toInt - 1) := by rw [Int64.ofInt_sub, Int64.ofInt_sub, kn_of, kn_of]; rfl
theorem l_more (x y : Int64) : -(y - x) = Int64.ofInt (x.toInt - y.toInt) := by rw [Int64.ofInt_sub, kn_of, kn_of, Int64.neg_sub]
theorem up_up {α : Type} (I : Nat → Nat → α) (o j : Nat) (x y : α) : va_up (va_up I o (va_up (I o) j x)) o (va_up (va_up I o (va_up (I o) j x) o) j y) = va_up I o (va_up (I o) j y) := by
  funext q
  by_cases hq : q = o
  · subst hq
    rw [gw_up_eq, gw_up_eq, gw_up_eq]
    funext i
    by_cases hi : i = j
    · subst hi
      rw [gw_up_eq, gw_up_eq]
    · rw [gw_up_ne hi, gw_up_ne hi, gw_up_ne hi]
  · rw [gw_up_ne hq, gw_up_ne hq, gw_up_ne hq]
theorem pa_at.drop2 {I : Nat → Nat → Int32} {L : Nat → Nat → Int64} {o md : Nat} {p : Int32} {y x : ab_Sy} {st : List ab_Sy} {lo : Nat → ab_Sy} {C : sp_E} {b0 b1 : ab_Ba} (h : pa_at I L o p md (y :: x :: st) lo C b0 b1) : pa_at (va_up I o (va_up (I o) 3 (nI st.length))) L o p md st lo C b0 b1 ∧ sd_at (I (o + 4) st.length) (L (o + 5) st.length) x ∧ sd_at (I (o + 4) (st.length + 1)) (L (o + 5) (st.length + 1)) y := by
  obtain ⟨f1, hy⟩ := h.drop
  obtain ⟨f2, hx⟩ := f1.drop
  rw [up_up] at f2
  rw [gw_up_ne (show o + 4 ≠ o by omega)] at hx
  exact ⟨f2, hx, hy⟩
theorem pa_at.drop3 {I : Nat → Nat → Int32} {L : Nat → Nat → Int64} {o md : Nat} {p : Int32} {z y x : ab_Sy} {st : List ab_Sy} {lo : Nat → ab_Sy} {C : sp_E} {b0 b1 : ab_Ba} (h : pa_at I L o p md (z :: y :: x :: st) lo C b0 b1) : pa_at (va_up I o (va_up (I o) 3 (nI st.length))) L o p md st lo C b0 b1 ∧ sd_at (I (o + 4) st.length) (L (o + 5) st.length) x ∧ sd_at (I (o + 4) (st.length + 1)) (L (o + 5) (st.length + 1)) y ∧ sd_at (I (o + 4) (st.length + 2)) (L (o + 5) (st.length + 2)) z := by
  obtain ⟨f1, hz⟩ := h.drop
  obtain ⟨f2, hx, hy⟩ := f1.drop2
  rw [up_up] at f2
  rw [gw_up_ne (show o + 4 ≠ o by omega)] at hx hy
  exact ⟨f2, hx, hy, hz⟩
section PA
variable {d n : Nat} {sh : Nat → Nat × Nat} {X : Nat × (Nat → Int32)} {R : Nat → Nat → Option Nat} {I : Nat → Nat → Int32} {L : Nat → Nat → Int64} {Q : Option Value → gw_Mem → Prop} {o md : Nat} {p : Int32} {st : List ab_Sy} {lo : Nat → ab_Sy} {C : sp_E} {b0 b1 : ab_Ba}
theorem c_Pa_performPlain {k : Nat} {nn : Int32} (hp : pt_Pa sh R o) (ha : pa_at I L o p md st lo C b0 b1) (h6 : st.length ≤ 6) (hk : k < 8 ∨ k = 13 ∨ k = 14) (q2 : rn_tk k ≤ st.length) (q3 : st.length - rn_tk k + rn_pu k ≤ 6) (q4 : (k = 1 ∨ k = 2) → ∃ j, j < 4 ∧ nn = nI j) (hQ : ∀ I' L', pa_at I' L' o (pa_do k nn p st lo).1 md (pa_do k nn p st lo).2.1 (pa_do k nn p st lo).2.2 C b0 b1 → (∀ q, q < o ∨ o + 13 ≤ q → I' q = I q) → (∀ q, q < o ∨ o + 13 ≤ q → L' q = L q) → Q none (n, sh, X, R, I', L')) : gw_Call y_Pa_performPlain (d + 2) 0 0 [.ref o, .int (nI k), .int nn] (n, sh, X, R, I, L) Q := by
  have hp0 := hp
  obtain ⟨s0, ⟨s1, s2, s3, t0, t1⟩, s4, s5, s6, s8, s9, s11, r0, r1, r2, r6, r7, r80, r81⟩ := hp
  have hs1 : pt_Sy sh R (o + 1) := ⟨s1, s2, s3, t0, t1⟩
  have ha0 := ha
  obtain ⟨a1, a2, a3, a4, a5, a6, a7, a8⟩ := ha
  refine gw_call o_Pa_performPlain (Nat.le_of_ble_eq_true rfl) ?_
  refine go_iload_n 1 d_Pa_performPlain_0 rfl rfl ?_
  rcases (show k = 0 ∨ k = 1 ∨ k = 2 ∨ k = 3 ∨ k = 4 ∨ k = 5 ∨ k = 6 ∨ k = 7 ∨ k = 13 ∨ k = 14 by clear q4; omega) with rfl | rfl | rfl | rfl | rfl | rfl | rfl | rfl | rfl | rfl
  · refine go_tableIn 76 d_Pa_performPlain_1 (by decide) (by decide) rfl rfl ?_
    have hl6 : st.length < 6 := by simp only [rn_tk, rn_pu] at q3; omega
    refine go_aload_n 0 d_Pa_performPlain_76 rfl rfl ?_
    refine go_iconst (v := 4) d_Pa_performPlain_77 rfl ?_
    refine go_iload_n 2 d_Pa_performPlain_78 rfl rfl ?_
    refine go_i2l d_Pa_performPlain_79 (rfl) ?_
    refine go_V2 d_Pa_performPlain_80 k_Pa_100 (by assumption) (Nat.le_of_ble_eq_true rfl) (c_Pa_push (z := some (4, nn.toInt64)) hp0 ha0 hl6 ⟨rfl, by show 4 < 5; decide, rfl⟩ (fun I1 L1 c1 c2 c3 => ?_))
    refine go_goto 265 d_Pa_performPlain_83 rfl ?_
    exact go_vret d_Pa_performPlain_265 rfl (hQ I1 L1 c1 (fun q h => c2 q (by omega) (by omega)) (fun q h => c3 q (by omega)))
  · refine go_tableIn 86 d_Pa_performPlain_1 (by decide) (by decide) rfl rfl ?_
    have hl6 : st.length < 6 := by simp only [rn_tk, rn_pu] at q3; omega
    obtain ⟨j, hj, rfl⟩ := q4 (Or.inl rfl)
    refine go_aload_n 0 d_Pa_performPlain_86 rfl rfl ?_
    refine go_aload_n 0 d_Pa_performPlain_87 rfl rfl ?_
    refine go_getR d_Pa_performPlain_88 f_Pa_12 (by assumption) (by assumption) ?_
    refine go_getR d_Pa_performPlain_91 f_Pa_104 (by assumption) (by assumption) ?_
    refine go_iload_n 2 d_Pa_performPlain_94 rfl rfl ?_
    refine go_iald (j) d_Pa_performPlain_95 (by assumption) (rfl) (by omega) (by decide) ?_
    refine go_aload_n 0 d_Pa_performPlain_96 rfl rfl ?_
    refine go_getR d_Pa_performPlain_97 f_Pa_12 (by assumption) (by assumption) ?_
    refine go_getR d_Pa_performPlain_100 f_Pa_107 (by assumption) (by assumption) ?_
    refine go_iload_n 2 d_Pa_performPlain_103 rfl rfl ?_
    refine go_lald (j) d_Pa_performPlain_104 (by assumption) (rfl) (by omega) (by decide) ?_
    refine go_V2 d_Pa_performPlain_105 k_Pa_100 (by assumption) (Nat.le_of_ble_eq_true rfl) (c_Pa_push hp0 ha0 hl6 (a5 j (by omega)) (fun I1 L1 c1 c2 c3 => ?_))
    refine go_goto 265 d_Pa_performPlain_108 rfl ?_
    exact go_vret d_Pa_performPlain_265 rfl (hQ I1 L1 (by simp only [pa_do]; rw [nI_clamp (by omega)]; exact c1) (fun q h => c2 q (by omega) (by omega)) (fun q h => c3 q (by omega)))
  · refine go_tableIn 111 d_Pa_performPlain_1 (by decide) (by decide) rfl rfl ?_
    obtain ⟨v, st, rfl⟩ : ∃ v s, st = v :: s := by cases st with | nil => exact absurd q2 (by decide) | cons v s => exact ⟨v, s, rfl⟩
    have hl6 : st.length + 1 ≤ 6 := h6
    obtain ⟨j, hj, rfl⟩ := q4 (Or.inr rfl)
    obtain ⟨⟨e1, e2, e3, e4, e5, e6, e7, e8⟩, hv⟩ := ha0.drop
    refine go_aload_n 0 d_Pa_performPlain_111 rfl rfl ?_
    refine go_iconst (v := 1) d_Pa_performPlain_112 rfl ?_
    refine go_V1 d_Pa_performPlain_113 k_Pa_110 (by assumption) (Nat.le_of_ble_eq_true rfl) (c_Pa_drop (c := 1) s0 a1 hl6 ?_)
    refine go_aload_n 0 d_Pa_performPlain_116 rfl rfl ?_
    refine go_getR d_Pa_performPlain_117 f_Pa_12 (by assumption) (by assumption) ?_
    refine go_iload_n 2 d_Pa_performPlain_120 rfl rfl ?_
    refine go_aload_n 0 d_Pa_performPlain_121 rfl rfl ?_
    refine go_getR d_Pa_performPlain_122 f_Pa_18 (by assumption) (by assumption) ?_
    refine go_aload_n 0 d_Pa_performPlain_125 rfl rfl ?_
    refine go_getI d_Pa_performPlain_126 f_Pa_50 (by assumption) ?_
    refine go_iald (st.length) d_Pa_performPlain_129 (by assumption) (e1) (by omega) (by decide) ?_
    refine go_aload_n 0 d_Pa_performPlain_130 rfl rfl ?_
    refine go_getR d_Pa_performPlain_131 f_Pa_22 (by assumption) (by assumption) ?_
    refine go_aload_n 0 d_Pa_performPlain_134 rfl rfl ?_
    refine go_getI d_Pa_performPlain_135 f_Pa_50 (by assumption) ?_
    refine go_lald (st.length) d_Pa_performPlain_138 (by assumption) (e1) (by omega) (by decide) ?_
    rw [gw_up_ne (show o + 4 ≠ o by omega)]
    refine go_V3 d_Pa_performPlain_139 k_Pa_114 (by assumption) (Nat.le_of_ble_eq_true rfl) (c_Sy_set (j := j) hs1 (by omega) ?_)
    refine go_goto 265 d_Pa_performPlain_142 rfl ?_
    exact go_vret d_Pa_performPlain_265 rfl (hQ _ _ (by simp only [pa_do]; rw [nI_clamp (by omega)]; exact ⟨by rw [gw_up_ne (by omega)]; exact e1, by rw [gw_up_ne (by omega)]; exact e2, by rw [gw_up_ne (by omega)]; exact e3, by rw [gw_up_ne (show o + 4 ≠ o + 1 + 1 by omega), gw_up_ne (show o + 5 ≠ o + 1 + 2 by omega)]; exact e4, e5.set hv, e6.kept (gw_up_ne (by omega)), e7.kept (gw_up_ne (by omega)) (gw_up_ne (by omega)), e8.kept (gw_up_ne (by omega)) (gw_up_ne (by omega))⟩) (fun q h => by rw [gw_up_ne (by omega), gw_up_ne (by omega)]) (fun q h => by rw [gw_up_ne (by omega)]))
  · refine go_tableIn 145 d_Pa_performPlain_1 (by decide) (by decide) rfl rfl ?_
    obtain ⟨y, x, st, rfl⟩ : ∃ y x s, st = y :: x :: s := by cases st with | nil => exact absurd q2 (by decide) | cons y s => cases s with | nil => exact absurd q2 (by simp [rn_tk]) | cons x s => exact ⟨y, x, s, rfl⟩
    have hl6 : st.length + 2 ≤ 6 := h6
    obtain ⟨f3, hx, hy⟩ := ha0.drop2
    refine go_aload_n 0 d_Pa_performPlain_145 rfl rfl ?_
    refine go_iconst (v := 2) d_Pa_performPlain_146 rfl ?_
    refine go_V1 d_Pa_performPlain_147 k_Pa_110 (by assumption) (Nat.le_of_ble_eq_true rfl) (c_Pa_drop (c := 2) s0 a1 hl6 ?_)
    refine go_aload_n 0 d_Pa_performPlain_150 rfl rfl ?_
    refine go_aload_n 0 d_Pa_performPlain_151 rfl rfl ?_
    refine go_getR d_Pa_performPlain_152 f_Pa_18 (by assumption) (by assumption) ?_
    refine go_aload_n 0 d_Pa_performPlain_155 rfl rfl ?_
    refine go_getI d_Pa_performPlain_156 f_Pa_50 (by assumption) ?_
    refine go_iald (st.length) d_Pa_performPlain_159 (by assumption) (f3.1) (by omega) (by decide) ?_
    refine go_aload_n 0 d_Pa_performPlain_160 rfl rfl ?_
    refine go_getR d_Pa_performPlain_161 f_Pa_18 (by assumption) (by assumption) ?_
    refine go_aload_n 0 d_Pa_performPlain_164 rfl rfl ?_
    refine go_getI d_Pa_performPlain_165 f_Pa_50 (by assumption) ?_
    refine go_iconst (v := 1) d_Pa_performPlain_168 rfl ?_
    refine go_iadd d_Pa_performPlain_169 ?_
    refine go_iald (st.length + 1) d_Pa_performPlain_170 (by assumption) (by rw [f3.1, nI_succ]) (by omega) (by decide) ?_
    rw [gw_up_ne (show o + 4 ≠ o by omega)]
    refine go_V2 d_Pa_performPlain_171 k_Pa_118 (by assumption) (Nat.le_of_ble_eq_true rfl) (c_Pa_pushSum hp0 f3 (by omega) hx hy (fun I1 L1 c1 c2 c3 => ?_))
    refine go_goto 265 d_Pa_performPlain_174 rfl ?_
    exact go_vret d_Pa_performPlain_265 rfl (hQ I1 L1 c1 (fun q h => by rw [c2 q (by omega) (by omega), gw_up_ne (by omega)]) (fun q h => c3 q (by omega)))
  · refine go_tableIn 177 d_Pa_performPlain_1 (by decide) (by decide) rfl rfl ?_
    obtain ⟨y, x, st, rfl⟩ : ∃ y x s, st = y :: x :: s := by cases st with | nil => exact absurd q2 (by decide) | cons y s => cases s with | nil => exact absurd q2 (by simp [rn_tk]) | cons x s => exact ⟨y, x, s, rfl⟩
    have hl6 : st.length + 2 ≤ 6 := h6
    obtain ⟨f3, hx, hy⟩ := ha0.drop2
    refine go_aload_n 0 d_Pa_performPlain_177 rfl rfl ?_
    refine go_iconst (v := 2) d_Pa_performPlain_178 rfl ?_
    refine go_V1 d_Pa_performPlain_179 k_Pa_110 (by assumption) (Nat.le_of_ble_eq_true rfl) (c_Pa_drop (c := 2) s0 a1 hl6 ?_)
    refine go_aload_n 0 d_Pa_performPlain_182 rfl rfl ?_
    refine go_aload_n 0 d_Pa_performPlain_183 rfl rfl ?_
    refine go_getR d_Pa_performPlain_184 f_Pa_18 (by assumption) (by assumption) ?_
    refine go_aload_n 0 d_Pa_performPlain_187 rfl rfl ?_
    refine go_getI d_Pa_performPlain_188 f_Pa_50 (by assumption) ?_
    refine go_iald (st.length) d_Pa_performPlain_191 (by assumption) (f3.1) (by omega) (by decide) ?_
    refine go_aload_n 0 d_Pa_performPlain_192 rfl rfl ?_
    refine go_getR d_Pa_performPlain_193 f_Pa_18 (by assumption) (by assumption) ?_
    refine go_aload_n 0 d_Pa_performPlain_196 rfl rfl ?_
    refine go_getI d_Pa_performPlain_197 f_Pa_50 (by assumption) ?_
    refine go_iconst (v := 1) d_Pa_performPlain_200 rfl ?_
    refine go_iadd d_Pa_performPlain_201 ?_
    refine go_iald (st.length + 1) d_Pa_performPlain_202 (by assumption) (by rw [f3.1, nI_succ]) (by omega) (by decide) ?_
    rw [gw_up_ne (show o + 4 ≠ o by omega)]
    refine go_V2 d_Pa_performPlain_203 k_Pa_122 (by assumption) (Nat.le_of_ble_eq_true rfl) (c_Pa_pushDifference hp0 f3 (by omega) hx hy (fun I1 L1 c1 c2 c3 => ?_))
    refine go_goto 265 d_Pa_performPlain_206 rfl ?_
    exact go_vret d_Pa_performPlain_265 rfl (hQ I1 L1 c1 (fun q h => by rw [c2 q (by omega) (by omega), gw_up_ne (by omega)]) (fun q h => c3 q (by omega)))
  · refine go_tableIn 209 d_Pa_performPlain_1 (by decide) (by decide) rfl rfl ?_
    refine go_aload_n 0 d_Pa_performPlain_209 rfl rfl ?_
    refine go_getR d_Pa_performPlain_210 f_Pa_12 (by assumption) (by assumption) ?_
    refine go_getR d_Pa_performPlain_213 f_Pa_107 (by assumption) (by assumption) ?_
    refine go_iconst (v := 0) d_Pa_performPlain_216 rfl ?_
    refine go_dup2 d_Pa_performPlain_217 rfl rfl ?_
    refine go_lald (0) d_Pa_performPlain_218 (by assumption) (rfl) (by decide) (by decide) ?_
    refine go_iload_n 2 d_Pa_performPlain_219 rfl rfl ?_
    refine go_i2l d_Pa_performPlain_220 (rfl) ?_
    refine go_ladd d_Pa_performPlain_221 ?_
    refine go_last (0) d_Pa_performPlain_222 (by assumption) (rfl) (by decide) (by decide) ?_
    refine go_goto 265 d_Pa_performPlain_223 rfl ?_
    exact go_vret d_Pa_performPlain_265 rfl (hQ _ _ ⟨a1, a2, a3, by rw [gw_up_ne (by omega)]; exact a4, fun i hi => by show sd_at _ _ (va_up lo 0 (sy_up nn (lo 0)) i); rw [gw_up_eq]; by_cases he : i = 0; (subst he; rw [gw_up_eq, gw_up_eq]; exact sd_up (a5 0 hi)); (rw [gw_up_ne he, gw_up_ne he]; exact a5 i hi), a6.kept (gw_up_ne (by omega)), a7.kept (gw_up_ne (by omega)) (gw_up_ne (by omega)), a8.kept (gw_up_ne (by omega)) (gw_up_ne (by omega))⟩ (fun q h => rfl) (fun q h => by rw [gw_up_ne (by omega)]))
  · refine go_tableIn 226 d_Pa_performPlain_1 (by decide) (by decide) rfl rfl ?_
    refine go_aload_n 0 d_Pa_performPlain_226 rfl rfl ?_
    refine go_getR d_Pa_performPlain_227 f_Pa_12 (by assumption) (by assumption) ?_
    refine go_getR d_Pa_performPlain_230 f_Pa_107 (by assumption) (by assumption) ?_
    refine go_iconst (v := 1) d_Pa_performPlain_233 rfl ?_
    refine go_dup2 d_Pa_performPlain_234 rfl rfl ?_
    refine go_lald (1) d_Pa_performPlain_235 (by assumption) (rfl) (by decide) (by decide) ?_
    refine go_iload_n 2 d_Pa_performPlain_236 rfl rfl ?_
    refine go_i2l d_Pa_performPlain_237 (rfl) ?_
    refine go_ladd d_Pa_performPlain_238 ?_
    refine go_last (1) d_Pa_performPlain_239 (by assumption) (rfl) (by decide) (by decide) ?_
    refine go_goto 265 d_Pa_performPlain_240 rfl ?_
    exact go_vret d_Pa_performPlain_265 rfl (hQ _ _ ⟨a1, a2, a3, by rw [gw_up_ne (by omega)]; exact a4, fun i hi => by show sd_at _ _ (va_up lo 1 (sy_up nn (lo 1)) i); rw [gw_up_eq]; by_cases he : i = 1; (subst he; rw [gw_up_eq, gw_up_eq]; exact sd_up (a5 1 hi)); (rw [gw_up_ne he, gw_up_ne he]; exact a5 i hi), a6.kept (gw_up_ne (by omega)), a7.kept (gw_up_ne (by omega)) (gw_up_ne (by omega)), a8.kept (gw_up_ne (by omega)) (gw_up_ne (by omega))⟩ (fun q h => rfl) (fun q h => by rw [gw_up_ne (by omega)]))
  · refine go_tableIn 243 d_Pa_performPlain_1 (by decide) (by decide) rfl rfl ?_
    refine go_aload_n 0 d_Pa_performPlain_243 rfl rfl ?_
    refine go_iload_n 2 d_Pa_performPlain_244 rfl rfl ?_
    refine go_putI d_Pa_performPlain_245 f_Pa_46 (by assumption) ?_
    refine go_goto 265 d_Pa_performPlain_248 rfl ?_
    exact go_vret d_Pa_performPlain_265 rfl (hQ _ _ ⟨by rw [gw_up_eq, gw_up_ne (by omega)]; exact a1, by rw [gw_up_eq, gw_up_eq]; rfl, by rw [gw_up_eq, gw_up_ne (by omega)]; exact a3, by rw [gw_up_ne (by omega)]; exact a4, a5.kept (gw_up_ne (by omega)) rfl, a6, a7, a8⟩ (fun q h => by rw [gw_up_ne (by omega)]) (fun q h => rfl))
  · refine go_tableIn 251 d_Pa_performPlain_1 (by decide) (by decide) rfl rfl ?_
    have hl6 : st.length < 6 := by simp only [rn_tk, rn_pu] at q3; omega
    refine go_aload_n 0 d_Pa_performPlain_251 rfl rfl ?_
    refine go_iconst (v := (-1)) d_Pa_performPlain_252 rfl ?_
    refine go_lconst (v := 0) d_Pa_performPlain_253 rfl ?_
    refine go_V2 d_Pa_performPlain_254 k_Pa_100 (by assumption) (Nat.le_of_ble_eq_true rfl) (c_Pa_push (z := none) hp0 ha0 hl6 rfl (fun I1 L1 c1 c2 c3 => ?_))
    refine go_goto 265 d_Pa_performPlain_257 rfl ?_
    exact go_vret d_Pa_performPlain_265 rfl (hQ I1 L1 c1 (fun q h => c2 q (by omega) (by omega)) (fun q h => c3 q (by omega)))
  · refine go_tableIn 260 d_Pa_performPlain_1 (by decide) (by decide) rfl rfl ?_
    obtain ⟨v, st, rfl⟩ : ∃ v s, st = v :: s := by cases st with | nil => exact absurd q2 (by decide) | cons v s => exact ⟨v, s, rfl⟩
    have hl6 : st.length + 1 ≤ 6 := h6
    refine go_aload_n 0 d_Pa_performPlain_260 rfl rfl ?_
    refine go_iconst (v := 1) d_Pa_performPlain_261 rfl ?_
    refine go_V1 d_Pa_performPlain_262 k_Pa_110 (by assumption) (Nat.le_of_ble_eq_true rfl) (c_Pa_drop (c := 1) s0 a1 hl6 ?_)
    exact go_vret d_Pa_performPlain_265 rfl (hQ _ _ ha0.drop.1 (fun q h => by rw [gw_up_ne (by omega)]) (fun q h => rfl))
theorem c_Pa_learnLess {isLess : Bool} {a b : ab_Sy} {s : sp_E × sp_E} (hp : pt_Pa sh R o) (ha : pa_at I L o p md st lo s.2 b0 b1) (h6 : st.length + 1 < 6) (hx : sd_at (I (o + 4) st.length) (L (o + 5) st.length) a) (hz : sd_at (I (o + 4) (st.length + 1)) (L (o + 5) (st.length + 1)) b) (hs : kn_ok s) (hba : ∀ q, a = some q → -45000000000 ≤ q.2.toInt ∧ q.2.toInt ≤ 45000000000) (hbb : ∀ q, b = some q → -45000000000 ≤ q.2.toInt ∧ q.2.toInt ≤ 45000000000)
    (hf : pa_lrn (pa_edge isLess a b) s = none → Q (some (.int 0)) (n, sh, X, R, I, L)) (hQ : ∀ s', pa_lrn (pa_edge isLess a b) s = some s' → kn_ok s' → ∀ L', pa_at I L' o p md st lo s'.2 b0 b1 → (∀ q, q ≠ o + 7 → L' q = L q) → Q (some (.int 1)) (n, sh, X, R, I, L')) : gw_Call y_Pa_learnLess (d + 2) 0 0 [.ref o, .int (bI isLess)] (n, sh, X, R, I, L) Q := by
  have hp0 := hp
  obtain ⟨s0, s1, s4, s5, s6, s8, s9, s11, r0, r1, r2, r6, r7, r80, r81⟩ := hp
  have ha0 := ha
  obtain ⟨a1, a2, a3, a4, a5, a6, a7, a8⟩ := ha
  have hnone : pa_edge isLess a b = none → Q (some (.int 1)) (n, sh, X, R, I, L) := fun e => hQ s (by rw [e]; rfl) hs L ha0 (fun _ _ => rfl)
  have z6 := s6.1
  refine gw_call o_Pa_learnLess (Nat.le_of_ble_eq_true rfl) ?_
  refine go_aload_n 0 d_Pa_learnLess_0 rfl rfl ?_
  refine go_getR d_Pa_learnLess_1 f_Pa_18 (by assumption) (by assumption) ?_
  refine go_aload_n 0 d_Pa_learnLess_4 rfl rfl ?_
  refine go_getI d_Pa_learnLess_5 f_Pa_50 (by assumption) ?_
  refine go_iald (st.length) d_Pa_learnLess_8 (by assumption) (a1) (by omega) (by decide) ?_
  refine go_istore_n 2 d_Pa_learnLess_9 rfl (Nat.le_of_ble_eq_true rfl) ?_
  refine go_aload_n 0 d_Pa_learnLess_10 rfl rfl ?_
  refine go_getR d_Pa_learnLess_11 f_Pa_18 (by assumption) (by assumption) ?_
  refine go_aload_n 0 d_Pa_learnLess_14 rfl rfl ?_
  refine go_getI d_Pa_learnLess_15 f_Pa_50 (by assumption) ?_
  refine go_iconst (v := 1) d_Pa_learnLess_18 rfl ?_
  refine go_iadd d_Pa_learnLess_19 ?_
  refine go_iald (st.length + 1) d_Pa_learnLess_20 (by assumption) (by rw [a1, nI_succ]) (by omega) (by decide) ?_
  refine go_istore_n 3 d_Pa_learnLess_21 rfl (Nat.le_of_ble_eq_true rfl) ?_
  refine go_iload_n 2 d_Pa_learnLess_22 rfl rfl ?_
  refine go_iconst (v := (-1)) d_Pa_learnLess_23 rfl ?_
  refine go_icmp_eq 32 d_Pa_learnLess_24 rfl (fun h24 => ?_) (fun h24 => ?_)
  · refine go_iconst (v := 1) d_Pa_learnLess_32 rfl ?_
    exact go_zret d_Pa_learnLess_33 rfl (by first | exact Or.inl rfl | exact Or.inr rfl | assumption) (hnone (by first | rw [(sd_none hx).mp h24]; rfl | rw [(sd_none hz).mp h29]; unfold pa_edge; cases a <;> rfl))
  · refine go_iload_n 3 d_Pa_learnLess_27 rfl rfl ?_
    refine go_iconst (v := (-1)) d_Pa_learnLess_28 rfl ?_
    refine go_icmp_ne 34 d_Pa_learnLess_29 rfl (fun h29 => ?_) (fun h29 => ?_)
    · obtain ⟨qa, rfl⟩ : ∃ q, a = some q := by cases a with | none => exact absurd hx h24 | some q => exact ⟨q, rfl⟩
      obtain ⟨qb, rfl⟩ : ∃ q, b = some q := by cases b with | none => exact absurd hz h29 | some q => exact ⟨q, rfl⟩
      have ba := hba qa rfl
      have bb := hbb qb rfl
      obtain ⟨hx1, hx2, hx3⟩ := hx
      obtain ⟨hz1, hz2, hz3⟩ := hz
      rw [hx1, hz1]
      refine go_aload_n 0 d_Pa_learnLess_34 rfl rfl ?_
      refine go_getR d_Pa_learnLess_35 f_Pa_22 (by assumption) (by assumption) ?_
      refine go_aload_n 0 d_Pa_learnLess_38 rfl rfl ?_
      refine go_getI d_Pa_learnLess_39 f_Pa_50 (by assumption) ?_
      refine go_iconst (v := 1) d_Pa_learnLess_42 rfl ?_
      refine go_iadd d_Pa_learnLess_43 ?_
      refine go_lald (st.length + 1) d_Pa_learnLess_44 (by assumption) (by rw [a1, nI_succ]) (by omega) (by decide) ?_
      refine go_aload_n 0 d_Pa_learnLess_45 rfl rfl ?_
      refine go_getR d_Pa_learnLess_46 f_Pa_22 (by assumption) (by assumption) ?_
      refine go_aload_n 0 d_Pa_learnLess_49 rfl rfl ?_
      refine go_getI d_Pa_learnLess_50 f_Pa_50 (by assumption) ?_
      refine go_lald (st.length) d_Pa_learnLess_53 (by assumption) (a1) (by omega) (by decide) ?_
      rw [hx3, hz3]
      refine go_lsub d_Pa_learnLess_54 ?_
      refine go_lstore d_Pa_learnLess_55 (Nat.le_of_ble_eq_true rfl) ?_
      refine go_iload_n 1 d_Pa_learnLess_57 rfl rfl ?_
      refine go_if_eq 77 d_Pa_learnLess_58 rfl (fun h58 => ?_) (fun h58 => ?_)
      · have hi : isLess = false := bI_0.mp h58
        subst hi
        refine go_aload_n 0 d_Pa_learnLess_77 rfl rfl ?_
        refine go_getR d_Pa_learnLess_78 f_Pa_29 (by assumption) (by assumption) ?_
        refine go_iload_n 3 d_Pa_learnLess_81 rfl rfl ?_
        refine go_iload_n 2 d_Pa_learnLess_82 rfl rfl ?_
        refine go_lload d_Pa_learnLess_83 rfl ?_
        refine go_lneg d_Pa_learnLess_85 ?_
        rw [l_more]
        refine go_V3 d_Pa_learnLess_86 k_Pa_125 (by assumption) (Nat.le_of_ble_eq_true rfl) (c_Kn_learn s6 a6 hz2 hx2 (kn_ok_bd hs) (by omega) (fun hno => ?_) (fun hnc L2 hk2 hq2 => ?_))
        · exact go_zret d_Pa_learnLess_89 rfl (Or.inl rfl) (hf (cIf_pos hno))
        · exact go_zret d_Pa_learnLess_89 rfl (Or.inr rfl) (hQ (sp_add s.1 qb.1 qa.1 (qa.2.toInt - qb.2.toInt), sp_lrn s.2 qb.1 qa.1 (qa.2.toInt - qb.2.toInt)) (cIf_neg (fun ⟨w, h1, h2⟩ => Int.not_lt.mpr (hnc w h1) h2)) (kn_ok_add hs hz2 hx2 (by omega) hnc) L2 ⟨a1, a2, a3, by rw [hq2 _ (by omega)]; exact a4, a5.kept rfl (hq2 _ (by omega)), hk2, a7.kept (hq2 _ (by omega)) (hq2 _ (by omega)), a8.kept (hq2 _ (by omega)) (hq2 _ (by omega))⟩ hq2)
      · have hi : isLess = true := bI_n0.mp h58
        subst hi
        refine go_aload_n 0 d_Pa_learnLess_61 rfl rfl ?_
        refine go_getR d_Pa_learnLess_62 f_Pa_29 (by assumption) (by assumption) ?_
        refine go_iload_n 2 d_Pa_learnLess_65 rfl rfl ?_
        refine go_iload_n 3 d_Pa_learnLess_66 rfl rfl ?_
        refine go_lload d_Pa_learnLess_67 rfl ?_
        refine go_lconst (v := 1) d_Pa_learnLess_69 rfl ?_
        refine go_lsub d_Pa_learnLess_70 ?_
        rw [l_less]
        refine go_V3 d_Pa_learnLess_71 k_Pa_125 (by assumption) (Nat.le_of_ble_eq_true rfl) (c_Kn_learn s6 a6 hx2 hz2 (kn_ok_bd hs) (by omega) (fun hno => ?_) (fun hnc L2 hk2 hq2 => ?_))
        · refine go_goto 89 d_Pa_learnLess_74 rfl ?_
          exact go_zret d_Pa_learnLess_89 rfl (Or.inl rfl) (hf (cIf_pos hno))
        · refine go_goto 89 d_Pa_learnLess_74 rfl ?_
          exact go_zret d_Pa_learnLess_89 rfl (Or.inr rfl) (hQ (sp_add s.1 qa.1 qb.1 (qb.2.toInt - qa.2.toInt - 1), sp_lrn s.2 qa.1 qb.1 (qb.2.toInt - qa.2.toInt - 1)) (cIf_neg (fun ⟨w, h1, h2⟩ => Int.not_lt.mpr (hnc w h1) h2)) (kn_ok_add hs hx2 hz2 (by omega) hnc) L2 ⟨a1, a2, a3, by rw [hq2 _ (by omega)]; exact a4, a5.kept rfl (hq2 _ (by omega)), hk2, a7.kept (hq2 _ (by omega)) (hq2 _ (by omega)), a8.kept (hq2 _ (by omega)) (hq2 _ (by omega))⟩ hq2)
    · refine go_iconst (v := 1) d_Pa_learnLess_32 rfl ?_
      exact go_zret d_Pa_learnLess_33 rfl (by first | exact Or.inl rfl | exact Or.inr rfl | assumption) (hnone (by first | rw [(sd_none hx).mp h24]; rfl | rw [(sd_none hz).mp h29]; unfold pa_edge; cases a <;> rfl))
theorem c_Pa_copyFrom {o' : Nat} (hp : pt_Pa sh R o) (hp' : pt_Pa sh R o') (ha : pa_at I L o' p md st lo C b0 b1) (h6 : st.length ≤ 6) (hd : o' + 13 ≤ o) (hQ : ∀ I' L', pa_at I' L' o p md st lo C b0 b1 → (∀ j, j < 6 → I' (o + 4) j = I (o' + 4) j ∧ L' (o + 5) j = L (o' + 5) j) → (∀ q, q < o ∨ o + 13 ≤ q → I' q = I q) → (∀ q, q < o ∨ o + 13 ≤ q → L' q = L q) → Q none (n, sh, X, R, I', L')) : gw_Call y_Pa_copyFrom (d + 2) 0 0 [.ref o, .ref o'] (n, sh, X, R, I, L) Q := by
  obtain ⟨s0, s1, s4, s5, s6, s8, s9, s11, r0, r1, r2, r6, r7, r80, r81⟩ := hp
  obtain ⟨s0', s1', s4', s5', s6', s8', s9', s11', r0', r1', r2', r6', r7', r80', r81'⟩ := hp'
  obtain ⟨a1, a2, a3, a4, a5, a6, a7, a8⟩ := ha
  have z1 := s1.1
  have z6 := s6.1
  have z9 := s9.1
  have z11 := s11.1
  refine gw_call o_Pa_copyFrom (Nat.le_of_ble_eq_true rfl) ?_
  have rest : ∀ (I3 : Nat → Nat → Int32) (L2 : Nat → Nat → Int64), I3 o 3 = nI st.length → I3 o 4 = p → I3 o 5 = nI md → sk_at (I3 (o + 4)) (L2 (o + 5)) st → sy_at I3 L2 (o + 1) lo → kn_at L2 (o + 6) C → ba_at L2 (o' + 9) b0 → ba_at L2 (o' + 11) b1 → (∀ j, j < 6 → I3 (o + 4) j = I (o' + 4) j ∧ L2 (o + 5) j = L (o' + 5) j) → (∀ q, q < o ∨ o + 13 ≤ q → I3 q = I q) → (∀ q, q < o ∨ o + 13 ≤ q → L2 q = L q) → gw_Go y_Pa_copyFrom (d + 2) 0 0 78 [some (.ref o), some (.ref o'), some (.int 0)] [] (n, sh, X, R, I3, L2) Q := by
    intro I3 L2 e1 e2 e3 e4 e5 e6 e7 e8 e9 e10 e11
    refine go_iload_n 2 d_Pa_copyFrom_78 rfl rfl ?_
    refine go_iconst (v := 2) d_Pa_copyFrom_79 rfl ?_
    refine go_icmp_ge 104 d_Pa_copyFrom_80 rfl (fun hn => absurd hn (by decide)) (fun _ => ?_)
    refine go_aload_n 0 d_Pa_copyFrom_83 rfl rfl ?_
    refine go_getR d_Pa_copyFrom_84 f_Pa_35 (by assumption) (by assumption) ?_
    refine go_iload_n 2 d_Pa_copyFrom_87 rfl rfl ?_
    refine go_aald (t := 5) (0) d_Pa_copyFrom_88 (by assumption) (by decide) (rfl) (by decide) (by decide) (by assumption) ?_
    refine go_aload_n 1 d_Pa_copyFrom_89 rfl rfl ?_
    refine go_getR d_Pa_copyFrom_90 f_Pa_35 (by assumption) (by assumption) ?_
    refine go_iload_n 2 d_Pa_copyFrom_93 rfl rfl ?_
    refine go_aald (t := 5) (0) d_Pa_copyFrom_94 (by assumption) (by decide) (rfl) (by decide) (by decide) (by assumption) ?_
    refine go_V1 d_Pa_copyFrom_95 k_Pa_87 (by assumption) (Nat.le_of_ble_eq_true rfl) (c_Ba_copyFrom s9 s9' e7 (by omega) (fun L3 c1 c2 => ?_))
    refine go_iinc d_Pa_copyFrom_98 rfl rfl (Nat.le_of_ble_eq_true rfl) ?_
    refine go_goto 78 d_Pa_copyFrom_101 rfl ?_
    refine go_iload_n 2 d_Pa_copyFrom_78 rfl rfl ?_
    refine go_iconst (v := 2) d_Pa_copyFrom_79 rfl ?_
    refine go_icmp_ge 104 d_Pa_copyFrom_80 rfl (fun hn => absurd hn (by decide)) (fun _ => ?_)
    refine go_aload_n 0 d_Pa_copyFrom_83 rfl rfl ?_
    refine go_getR d_Pa_copyFrom_84 f_Pa_35 (by assumption) (by assumption) ?_
    refine go_iload_n 2 d_Pa_copyFrom_87 rfl rfl ?_
    refine go_aald (t := 5) (1) d_Pa_copyFrom_88 (by assumption) (by decide) (rfl) (by decide) (by decide) (by assumption) ?_
    refine go_aload_n 1 d_Pa_copyFrom_89 rfl rfl ?_
    refine go_getR d_Pa_copyFrom_90 f_Pa_35 (by assumption) (by assumption) ?_
    refine go_iload_n 2 d_Pa_copyFrom_93 rfl rfl ?_
    refine go_aald (t := 5) (1) d_Pa_copyFrom_94 (by assumption) (by decide) (rfl) (by decide) (by decide) (by assumption) ?_
    refine go_V1 d_Pa_copyFrom_95 k_Pa_87 (by assumption) (Nat.le_of_ble_eq_true rfl) (c_Ba_copyFrom s11 s11' (e8.kept (c2 _ (by omega) (by omega)) (c2 _ (by omega) (by omega))) (by omega) (fun L4 c3 c4 => ?_))
    refine go_iinc d_Pa_copyFrom_98 rfl rfl (Nat.le_of_ble_eq_true rfl) ?_
    refine go_goto 78 d_Pa_copyFrom_101 rfl ?_
    have hL : ∀ q, q < o + 9 → L4 q = L2 q := fun q hq => by rw [c4 q (by omega) (by omega), c2 q (by omega) (by omega)]
    refine go_iload_n 2 d_Pa_copyFrom_78 rfl rfl ?_
    refine go_iconst (v := 2) d_Pa_copyFrom_79 rfl ?_
    refine go_icmp_ge 104 d_Pa_copyFrom_80 rfl (fun _ => ?_) (fun hn => absurd (by decide) hn)
    exact go_vret d_Pa_copyFrom_104 rfl (hQ I3 L4 ⟨e1, e2, e3, by rw [hL _ (by omega)]; exact e4, e5.kept rfl (hL _ (by omega)), e6.kept (hL _ (by omega)), c1.kept (c4 _ (by omega) (by omega)) (c4 _ (by omega) (by omega)), c3⟩ (fun j hj => by rw [hL _ (by omega)]; exact e9 j hj) e10 (fun q hq => by rw [c4 q (by omega) (by omega), c2 q (by omega) (by omega)]; exact e11 q hq))
  refine go_aload_n 0 d_Pa_copyFrom_0 rfl rfl ?_
  refine go_getR d_Pa_copyFrom_1 f_Pa_12 (by assumption) (by assumption) ?_
  refine go_aload_n 1 d_Pa_copyFrom_4 rfl rfl ?_
  refine go_getR d_Pa_copyFrom_5 f_Pa_12 (by assumption) (by assumption) ?_
  refine go_V1 d_Pa_copyFrom_8 k_Pa_74 (by assumption) (Nat.le_of_ble_eq_true rfl) (c_Sy_copyFrom s1 s1' a5 (by omega) (fun I1 L1 c1 c2 c3 => ?_))
  refine go_aload_n 1 d_Pa_copyFrom_11 rfl rfl ?_
  refine go_getR d_Pa_copyFrom_12 f_Pa_18 (by assumption) (by assumption) ?_
  refine go_iconst (v := 0) d_Pa_copyFrom_15 rfl ?_
  refine go_aload_n 0 d_Pa_copyFrom_16 rfl rfl ?_
  refine go_getR d_Pa_copyFrom_17 f_Pa_18 (by assumption) (by assumption) ?_
  refine go_iconst (v := 0) d_Pa_copyFrom_20 rfl ?_
  refine go_bipush (v := 6) d_Pa_copyFrom_21 rfl ?_
  refine go_cpyI d_Pa_copyFrom_23 j_Pa_78 gw_js1 gw_js2 gw_js3 (by assumption) (by assumption) (rfl) (by decide) (Nat.le_of_ble_eq_true rfl) ?_
  refine go_aload_n 1 d_Pa_copyFrom_26 rfl rfl ?_
  refine go_getR d_Pa_copyFrom_27 f_Pa_22 (by assumption) (by assumption) ?_
  refine go_iconst (v := 0) d_Pa_copyFrom_30 rfl ?_
  refine go_aload_n 0 d_Pa_copyFrom_31 rfl rfl ?_
  refine go_getR d_Pa_copyFrom_32 f_Pa_22 (by assumption) (by assumption) ?_
  refine go_iconst (v := 0) d_Pa_copyFrom_35 rfl ?_
  refine go_bipush (v := 6) d_Pa_copyFrom_36 rfl ?_
  refine go_cpyL d_Pa_copyFrom_38 j_Pa_78 gw_js1 gw_js2 gw_js3 (by assumption) (by assumption) (rfl) (by decide) (Nat.le_of_ble_eq_true rfl) ?_
  refine go_aload_n 0 d_Pa_copyFrom_41 rfl rfl ?_
  refine go_aload_n 1 d_Pa_copyFrom_42 rfl rfl ?_
  refine go_getI d_Pa_copyFrom_43 f_Pa_50 (by assumption) ?_
  refine go_putI d_Pa_copyFrom_46 f_Pa_50 (by assumption) ?_
  refine go_aload_n 0 d_Pa_copyFrom_49 rfl rfl ?_
  refine go_aload_n 1 d_Pa_copyFrom_50 rfl rfl ?_
  refine go_getI d_Pa_copyFrom_51 f_Pa_46 (by assumption) ?_
  refine go_putI d_Pa_copyFrom_54 f_Pa_46 (by assumption) ?_
  refine go_aload_n 0 d_Pa_copyFrom_57 rfl rfl ?_
  refine go_aload_n 1 d_Pa_copyFrom_58 rfl rfl ?_
  refine go_getI d_Pa_copyFrom_59 f_Pa_47 (by assumption) ?_
  refine go_putI d_Pa_copyFrom_62 f_Pa_47 (by assumption) ?_
  refine go_aload_n 0 d_Pa_copyFrom_65 rfl rfl ?_
  refine go_getR d_Pa_copyFrom_66 f_Pa_29 (by assumption) (by assumption) ?_
  refine go_aload_n 1 d_Pa_copyFrom_69 rfl rfl ?_
  refine go_getR d_Pa_copyFrom_70 f_Pa_29 (by assumption) (by assumption) ?_
  refine go_V1 d_Pa_copyFrom_73 k_Pa_84 (by assumption) (Nat.le_of_ble_eq_true rfl) (c_Kn_copyFrom s6 s6' (a6.kept (by rw [gw_up_ne (by omega), c3 _ (by omega)])) (fun L2 c4 c5 => ?_))
  refine go_iconst (v := 0) d_Pa_copyFrom_76 rfl ?_
  refine go_istore_n 2 d_Pa_copyFrom_77 rfl (Nat.le_of_ble_eq_true rfl) ?_
  have n1 : ¬ o' = o := by omega
  have n2 : ¬ o' = o + 4 := by omega
  have g1 : I1 o' = I o' := c2 _ (by omega)
  have g2 : I1 o = I o := c2 _ (by omega)
  have g3 : I1 (o' + 4) = I (o' + 4) := c2 _ (by omega)
  have g4 : L1 (o' + 5) = L (o' + 5) := c3 _ (by omega)
  refine rest _ L2 (by simp [va_up, n1, n2]; rw [g1]; exact a1) (by simp [va_up, n1, n2]; rw [g1]; exact a2) (by simp [va_up, n1, n2]; rw [g1]; exact a3) (sk_at.cpy (fun j hj => ⟨?_, ?_⟩) a4) (c1.kept (by rw [gw_up_ne (by omega), gw_up_ne (by omega), gw_up_ne (by omega), gw_up_ne (by omega)]) (by rw [c5 _ (by omega), gw_up_ne (by omega)])) c4 (a7.kept (by rw [c5 _ (by omega), gw_up_ne (by omega), c3 _ (by omega)]) (by rw [c5 _ (by omega), gw_up_ne (by omega), c3 _ (by omega)])) (a8.kept (by rw [c5 _ (by omega), gw_up_ne (by omega), c3 _ (by omega)]) (by rw [c5 _ (by omega), gw_up_ne (by omega), c3 _ (by omega)])) (fun j hj => ⟨?_, ?_⟩) (fun q hq => by rw [gw_up_ne (by omega), gw_up_ne (by omega), gw_up_ne (by omega), gw_up_ne (by omega), c2 _ (by omega)]) (fun q hq => by rw [c5 _ (by omega), gw_up_ne (by omega), c3 _ (by omega)])
  · rw [gw_up_ne (by omega), gw_up_ne (by omega), gw_up_ne (by omega), gw_up_eq, pk_cpy_in (n := 6) (Nat.zero_le _) (by omega), Nat.sub_zero, Nat.zero_add, g3]
  · rw [c5 _ (by omega), gw_up_eq, pk_cpy_in (n := 6) (Nat.zero_le _) (by omega), Nat.sub_zero, Nat.zero_add, g4]
  · rw [gw_up_ne (by omega), gw_up_ne (by omega), gw_up_ne (by omega), gw_up_eq, pk_cpy_in (n := 6) (Nat.zero_le _) (by omega), Nat.sub_zero, Nat.zero_add, g3]
  · rw [c5 _ (by omega), gw_up_eq, pk_cpy_in (n := 6) (Nat.zero_le _) (by omega), Nat.sub_zero, Nat.zero_add, g4]
end PA
