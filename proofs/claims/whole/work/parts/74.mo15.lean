/-! the reference: part, memory -/
section MO
variable {d n : Nat} {sh : Nat → Nat × Nat} {X : Nat × (Nat → Int32)} {R : Nat → Nat → Option Nat} {I : Nat → Nat → Int32} {L : Nat → Nat → Int64} {Q : Option Value → gw_Mem → Prop}
theorem pa_edge_bd {q u : Nat × Int64} {less : Bool} {t : Nat × Nat × Int} (hq : q.1 < 5) (hu : u.1 < 5) (hx : sb 45000000000 (some q)) (hy : sb 45000000000 (some u)) (h : pa_edge less (some q) (some u) = some t) : t.1 < 5 ∧ t.2.1 < 5 ∧ -100000000000 ≤ t.2.2 ∧ t.2.2 ≤ 100000000000 := by
  have h1 := hx q rfl
  have h2 := hy u rfl
  unfold pa_edge at h
  cases less with
  | true => cases h; exact ⟨hq, hu, by show -100000000000 ≤ u.2.toInt - q.2.toInt - 1; omega, by show u.2.toInt - q.2.toInt - 1 ≤ 100000000000; omega⟩
  | false => cases h; exact ⟨hu, hq, by show -100000000000 ≤ q.2.toInt - u.2.toInt; omega, by show q.2.toInt - u.2.toInt ≤ 100000000000; omega⟩
theorem rw_at.place {G : Nat → Int64} {B : Nat} {p nn : Int32} {md : Nat} {st : List ab_Sy} {lo : Nat → ab_Sy} {E : sp_E} {b0 b1 : ab_Ba} (h : rw_at G B p md st lo E b0 b1) : rw_at (va_up G B nn.toInt64) B nn md st lo E b0 b1 := by
  obtain ⟨a1, a2, a3, a4, a5, a6, a7, a8, a9, a10⟩ := h
  exact ⟨gw_up_eq, by rw [gw_up_ne (by omega)]; exact a2, by rw [gw_up_ne (by omega)]; exact a3, a4, a5.cpy (fun x x' ⟨j, h1, h2, h3, h4⟩ => by rw [h3, h4, gw_up_ne (by omega)]), fun j hj => (by rw [gw_up_ne (by omega), gw_up_ne (by omega)]; exact a6 j hj), a7, a8.cpy (fun j hj => by rw [gw_up_ne (by omega)]), a9.cpy (fun j hj => by rw [gw_up_ne (by omega)]) (by rw [gw_up_ne (by omega)]), a10.cpy (fun j hj => by rw [gw_up_ne (by omega)]) (by rw [gw_up_ne (by omega)])⟩
/-- from behind the copying on -/
theorem c_Mo_ptB {r md : Nat} {p nn : Int32} {x y : ab_Sy} {st : List ab_Sy} {lo : Nat → ab_Sy} {b0 b1 : ab_Ba} {s : sp_E × sp_E} {less : Bool} {g i4 i5 : Int32} {s7 t9 xn yn : Int64} {o13 o14 o15 : Option Value} (hp : pt_Mo sh R) (hr : r + 1 < 42) (h1 : rw_at (L 549) (104 * r) nn md st lo s.1 b0 b1) (h2 : rw_at (L 549) (104 * (r + 1)) p md st lo s.1 b0 b1) (hok : kn_ok s) (hx : sb 45000000000 x) (hy : sb 45000000000 y) (hsx : ms_at s7 xn x) (hsy : ms_at t9 yn y) (hg : g ≠ 0 ↔ (¬ s7 < 0 ∧ ¬ t9 < 0)) (hQ : ∀ I' L' w, mp_post (L' 549) r w (pa_lrn (pa_edge less x y) s) (pa_lrn (pa_edge (!less) x y) s) p nn md st lo b0 b1 → I' 533 16 = nI w → (∀ j, j ≠ 16 → I' 533 j = I 533 j) → (∀ q, q ≠ 533 → I' q = I q) → (∀ i, i < 104 * r → L' 549 i = L 549 i) → (∀ q, q ≠ 549 → q ≠ 550 → q ≠ 551 → L' q = L q) → Q (some (.int 0)) (n, sh, X, R, I', L')) : gw_Go y_Mo_part (d + 3) 0 0 143 [some (.ref 533), some (.int (nI r)), some (.int (bI less)), some (.int nn), some (.int i4), some (.int i5), some (.int g), some (.long s7), none, some (.long t9), none, some (.long (yn - xn)), none, o13, o14, o15] [] (n, sh, X, R, I, L) Q := by
  have hp0 := hp
  obtain ⟨s533, s534, s535, s536, s537, s538, s539, s540, s541, s542, s543, s544, s545, s546, s547, s548, s549, s550, s551, s552, s553, s554, s555, s556, s557, r534, r535, r536, r537, r538, r539, r540, r541, r542, r543, r544, r545, r546, r547, r548, r549, r550, r551, r552, r553, r554, r555, r556, r557⟩ := hp
  by_cases hg0 : g = 0
  · have hno : pa_edge less x y = none ∧ pa_edge (!less) x y = none := by
      cases x with
      | none => exact ⟨rfl, rfl⟩
      | some q => cases y with
        | none => exact ⟨rfl, rfl⟩
        | some u => exact absurd hg0 (hg.mpr ⟨fun h => (by have := (ms_neg hsx).mp h; cases this), fun h => (by have := (ms_neg hsy).mp h; cases this)⟩)
    rw [hno.1, hno.2] at hQ
    refine go_iload d_Mo_part_143 rfl ?_
    refine go_if_eq 160 d_Mo_part_145 rfl (fun _ => ?_) (fun hn => absurd (hg0) hn)
    refine go_iload d_Mo_part_160 rfl ?_
    refine go_if_eq 187 d_Mo_part_162 rfl (fun _ => ?_) (fun hn => absurd (hg0) hn)
    exact c_Mo_ptC (d := d + 1) (F := some s) (N := some s) hp0 hr h1 h2 ⟨hok, rfl⟩ ⟨hok, rfl⟩ hQ
  · obtain ⟨n1, n2⟩ := hg.mp hg0
    obtain ⟨q, rfl, e7, hq5, exn⟩ := ms_some hsx n1
    obtain ⟨u, rfl, e9, hu5, eyn⟩ := ms_some hsy n2
    subst e7
    subst e9
    subst exn
    subst eyn
    have b1' := hx q rfl
    have b2' := hy u rfl
    have hE : ∀ a b x, s.1 a b = some x → kn_s x := fun a b x h => by have := hok.2 a b x h; exact ⟨by omega, by omega⟩
    refine go_iload d_Mo_part_143 rfl ?_
    refine go_if_eq 160 d_Mo_part_145 rfl (fun hn => absurd hn (hg0)) (fun _ => ?_)
    refine go_aload_n 0 d_Mo_part_148 rfl rfl ?_
    refine go_iload_n 1 d_Mo_part_149 rfl rfl ?_
    refine go_iload_n 2 d_Mo_part_150 rfl rfl ?_
    refine go_lload d_Mo_part_151 rfl ?_
    refine go_lload d_Mo_part_153 rfl ?_
    refine go_lload d_Mo_part_155 rfl ?_
    refine go_V5 d_Mo_part_157 k_Mo_196 (by assumption) (Nat.le_of_ble_eq_true rfl) (c_Mo_learn (d := d) less hp0 (by omega) hq5 hu5 hE (by omega) (by omega) h1 (fun L1 t t1 f1 f2 f3 => ?_))
    refine go_iload d_Mo_part_160 rfl ?_
    refine go_if_eq 187 d_Mo_part_162 rfl (fun hn => absurd hn (hg0)) (fun _ => ?_)
    refine go_aload_n 0 d_Mo_part_165 rfl rfl ?_
    refine go_iload_n 1 d_Mo_part_166 rfl rfl ?_
    refine go_iconst (v := 1) d_Mo_part_167 rfl ?_
    refine go_iadd d_Mo_part_168 ?_
    refine go_iload_n 2 d_Mo_part_169 rfl rfl ?_
    have h2' : rw_at (L1 549) (104 * (r + 1)) p md st lo s.1 b0 b1 := h2.kept (fun i ha hb => f2 i (by omega))
    obtain ⟨tb1, tb2, tb3⟩ := pa_edge_bd hq5 hu5 hx hy t1
    have hF : lr_ok (pa_lrn (pa_edge less (some q) (some u)) s) (sp_add s.1 t.1 t.2.1 t.2.2) := by rw [t1]; exact lr_ok_lrn hok tb1 tb2 tb3
    rw [show nI r + 1 = nI (r + 1) from nI_1 r]
    cases less with
    | true =>
      refine go_if_ne 177 d_Mo_part_170 rfl (fun _ => ?_) (fun hn => by first | exact absurd hn (by decide) | exact absurd (by decide) hn)
      refine go_iconst (v := 0) d_Mo_part_177 rfl ?_
      refine go_lload d_Mo_part_178 rfl ?_
      refine go_lload d_Mo_part_180 rfl ?_
      refine go_lload d_Mo_part_182 rfl ?_
      refine go_V5 d_Mo_part_184 k_Mo_196 (by assumption) (Nat.le_of_ble_eq_true rfl) (c_Mo_learn (d := d) false hp0 hr hq5 hu5 hE (by omega) (by omega) h2' (fun L2 t' t1' g1 g2 g3 => ?_))
      obtain ⟨tc1, tc2, tc3⟩ := pa_edge_bd hq5 hu5 hx hy t1'
      have hN : lr_ok (pa_lrn (pa_edge (!true) (some q) (some u)) s) (sp_add s.1 t'.1 t'.2.1 t'.2.2) := by rw [show (!true) = false from rfl, t1']; exact lr_ok_lrn hok tc1 tc2 tc3
      exact c_Mo_ptC (d := d + 1) hp0 hr (f1.kept (fun i ha hb => g2 i (by omega))) g1 hF hN (fun I' L' w q1 q2 q3 q4 q5 q6 => hQ I' L' w q1 q2 q3 q4 (fun i hi => by rw [q5 i hi, g2 i (by omega), f2 i (by omega)]) (fun q a b c => by rw [q6 q a b c, g3 q a, f3 q a]))
    | false =>
      refine go_if_ne 177 d_Mo_part_170 rfl (fun hn => absurd hn (by decide)) (fun _ => ?_)
      refine go_iconst (v := 1) d_Mo_part_173 rfl ?_
      refine go_goto 178 d_Mo_part_174 rfl ?_
      refine go_lload d_Mo_part_178 rfl ?_
      refine go_lload d_Mo_part_180 rfl ?_
      refine go_lload d_Mo_part_182 rfl ?_
      refine go_V5 d_Mo_part_184 k_Mo_196 (by assumption) (Nat.le_of_ble_eq_true rfl) (c_Mo_learn (d := d) true hp0 hr hq5 hu5 hE (by omega) (by omega) h2' (fun L2 t' t1' g1 g2 g3 => ?_))
      obtain ⟨tc1, tc2, tc3⟩ := pa_edge_bd hq5 hu5 hx hy t1'
      have hN : lr_ok (pa_lrn (pa_edge (!false) (some q) (some u)) s) (sp_add s.1 t'.1 t'.2.1 t'.2.2) := by rw [show (!false) = true from rfl, t1']; exact lr_ok_lrn hok tc1 tc2 tc3
      exact c_Mo_ptC (d := d + 1) hp0 hr (f1.kept (fun i ha hb => g2 i (by omega))) g1 hF hN (fun I' L' w q1 q2 q3 q4 q5 q6 => hQ I' L' w q1 q2 q3 q4 (fun i hi => by rw [q5 i hi, g2 i (by omega), f2 i (by omega)]) (fun q a b c => by rw [q6 q a b c, g3 q a, f3 q a]))
/-- from the copying on -/
theorem c_Mo_ptA {r md : Nat} {p nn : Int32} {x y : ab_Sy} {st : List ab_Sy} {lo : Nat → ab_Sy} {b0 b1 : ab_Ba} {s : sp_E × sp_E} {less : Bool} {g i4 i5 : Int32} {s7 t9 xn yn : Int64} {o14 o15 : Option Value} (hp : pt_Mo sh R) (hr : r + 1 < 42) (h1 : rw_at (L 549) (104 * r) p md st lo s.1 b0 b1) (hok : kn_ok s) (hx : sb 45000000000 x) (hy : sb 45000000000 y) (hsx : ms_at s7 xn x) (hsy : ms_at t9 yn y) (hg : g ≠ 0 ↔ (¬ s7 < 0 ∧ ¬ t9 < 0)) (hQ : ∀ I' L' w, mp_post (L' 549) r w (pa_lrn (pa_edge less x y) s) (pa_lrn (pa_edge (!less) x y) s) p nn md st lo b0 b1 → I' 533 16 = nI w → (∀ j, j ≠ 16 → I' 533 j = I 533 j) → (∀ q, q ≠ 533 → I' q = I q) → (∀ i, i < 104 * r → L' 549 i = L 549 i) → (∀ q, q ≠ 549 → q ≠ 550 → q ≠ 551 → L' q = L q) → Q (some (.int 0)) (n, sh, X, R, I', L')) : ∀ (w k : Nat) (z : Int32) (L1 : Nat → Nat → Int64), z = nI k → k + w = 104 → (∀ j, j < k → L1 549 (104 * (r + 1) + j) = L 549 (104 * r + j)) → (∀ i, i < 104 * r + 104 → L1 549 i = L 549 i) → (∀ q, q ≠ 549 → L1 q = L q) → gw_Go y_Mo_part (d + 3) 0 0 87 [some (.ref 533), some (.int (nI r)), some (.int (bI less)), some (.int nn), some (.int i4), some (.int i5), some (.int g), some (.long s7), none, some (.long t9), none, some (.long (yn - xn)), none, some (.int z), o14, o15] [] (n, sh, X, R, I, L1) Q := by
  have hp0 := hp
  obtain ⟨s533, s534, s535, s536, s537, s538, s539, s540, s541, s542, s543, s544, s545, s546, s547, s548, s549, s550, s551, s552, s553, s554, s555, s556, s557, r534, r535, r536, r537, r538, r539, r540, r541, r542, r543, r544, r545, r546, r547, r548, r549, r550, r551, r552, r553, r554, r555, r556, r557⟩ := hp
  intro w
  induction w with
  | zero =>
    intro k z L1 hz hk e1 e2 e3
    have hk4 : k = 104 := by omega
    subst hk4
    refine go_iload d_Mo_part_87 rfl ?_
    refine go_bipush (v := 104) d_Mo_part_89 rfl ?_
    refine go_icmp_ge 127 d_Mo_part_91 rfl (fun _ => ?_) (fun hn => absurd (by rw [hz]; decide) hn)
    refine go_aload_n 0 d_Mo_part_127 rfl rfl ?_
    refine go_getR d_Mo_part_128 f_Mo_56 (by assumption) (by assumption) ?_
    refine go_bipush (v := 104) d_Mo_part_131 rfl ?_
    refine go_iload_n 1 d_Mo_part_133 rfl rfl ?_
    refine go_imul d_Mo_part_134 ?_
    refine go_iload_n 3 d_Mo_part_135 rfl rfl ?_
    refine go_i2l d_Mo_part_136 (rfl) ?_
    refine go_last (104 * r) d_Mo_part_137 (by assumption) (nI_mul 104 r) (by omega) (by decide) ?_
    refine go_aload_n 0 d_Mo_part_138 rfl rfl ?_
    refine go_iload_n 1 d_Mo_part_139 rfl rfl ?_
    refine go_putI d_Mo_part_140 f_Mo_149 (by assumption) ?_
    exact c_Mo_ptB (x := x) (y := y) (s := s) hp0 hr (by rw [gw_up_eq]; exact (h1.kept (fun i ha hb => e2 i (by omega))).place) (h1.cpy (fun j hj => by rw [up2_ne (Or.inr (by omega))]; exact e1 j hj)) hok hx hy hsx hsy hg (fun I' L' w q1 q2 q3 q4 q5 q6 => hQ I' L' w q1 q2 (fun j hj => by rw [q3 j hj]; exact up2_ne (Or.inr hj)) (fun q hq => by rw [q4 q hq]; exact gw_up_ne hq) (fun i hi => by rw [q5 i hi, up2_ne (Or.inr (by omega))]; exact e2 i (by omega)) (fun q a b c => by rw [q6 q a b c, gw_up_ne a]; exact e3 q a))
  | succ w ih =>
    intro k z L1 hz hk e1 e2 e3
    refine go_iload d_Mo_part_87 rfl ?_
    refine go_bipush (v := 104) d_Mo_part_89 rfl ?_
    refine go_icmp_ge 127 d_Mo_part_91 rfl (fun hn => absurd hn (by rw [hz]; exact nI_ge (b := 104) (by omega) (by decide))) (fun _ => ?_)
    refine go_aload_n 0 d_Mo_part_94 rfl rfl ?_
    refine go_getR d_Mo_part_95 f_Mo_56 (by assumption) (by assumption) ?_
    refine go_bipush (v := 104) d_Mo_part_98 rfl ?_
    refine go_iload_n 1 d_Mo_part_100 rfl rfl ?_
    refine go_imul d_Mo_part_101 ?_
    refine go_bipush (v := 104) d_Mo_part_102 rfl ?_
    refine go_iadd d_Mo_part_104 ?_
    refine go_iload d_Mo_part_105 rfl ?_
    refine go_iadd d_Mo_part_107 ?_
    refine go_aload_n 0 d_Mo_part_108 rfl rfl ?_
    refine go_getR d_Mo_part_109 f_Mo_56 (by assumption) (by assumption) ?_
    refine go_bipush (v := 104) d_Mo_part_112 rfl ?_
    refine go_iload_n 1 d_Mo_part_114 rfl rfl ?_
    refine go_imul d_Mo_part_115 ?_
    refine go_iload d_Mo_part_116 rfl ?_
    refine go_iadd d_Mo_part_118 ?_
    refine go_lald (104 * r + k) d_Mo_part_119 (by assumption) (by rw [hz]; exact ix3) (by omega) (by decide) ?_
    refine go_last (104 * (r + 1) + k) d_Mo_part_120 (by assumption) (by rw [hz, show (104 : Int32) * nI r + 104 = nI (104 * r + 104) from ix3 (a := 104), nI_add]; exact congrArg nI (by omega)) (by omega) (by decide) ?_
    refine go_iinc d_Mo_part_121 rfl rfl (Nat.le_of_ble_eq_true rfl) ?_
    refine go_goto 87 d_Mo_part_124 rfl ?_
    exact ih (k + 1) _ _ (gw_inc hz) (by omega) (fun j hj => by by_cases he : j = k; (subst he; rw [up2_eq]; exact e2 _ (by omega)); (rw [up2_ne (Or.inr (by omega))]; exact e1 j (by omega))) (fun i hi => by rw [up2_ne (Or.inr (by omega))]; exact e2 i hi) (fun q hq => by rw [gw_up_ne hq]; exact e3 q hq)
theorem c_Mo_part {r md : Nat} {p nn : Int32} {x y : ab_Sy} {st : List ab_Sy} {lo : Nat → ab_Sy} {b0 b1 : ab_Ba} {s : sp_E × sp_E} (less : Bool) (hp : pt_Mo sh R) (hr : r + 1 < 42) (h : rw_at (L 549) (104 * r) p md (y :: x :: st) lo s.1 b0 b1) (hok : kn_ok s) (hx : sb 45000000000 x) (hy : sb 45000000000 y) (hQ : ∀ I' L' w, mp_post (L' 549) r w (pa_lrn (pa_edge less x y) s) (pa_lrn (pa_edge (!less) x y) s) p nn md st lo b0 b1 → I' 533 16 = nI w → (∀ j, j ≠ 16 → I' 533 j = I 533 j) → (∀ q, q ≠ 533 → I' q = I q) → (∀ i, i < 104 * r → L' 549 i = L 549 i) → (∀ q, q ≠ 549 → q ≠ 550 → q ≠ 551 → L' q = L q) → Q (some (.int 0)) (n, sh, X, R, I', L')) : gw_Call y_Mo_part (d + 3) 0 0 [.ref 533, .int (nI r), .int (bI less), .int nn] (n, sh, X, R, I, L) Q := by
  have hp0 := hp
  obtain ⟨s533, s534, s535, s536, s537, s538, s539, s540, s541, s542, s543, s544, s545, s546, s547, s548, s549, s550, s551, s552, s553, s554, s555, s556, s557, r534, r535, r536, r537, r538, r539, r540, r541, r542, r543, r544, r545, r546, r547, r548, r549, r550, r551, r552, r553, r554, r555, r556, r557⟩ := hp
  have hs6 : st.length + 2 ≤ 6 := h.2.2.2.1
  refine gw_call o_Mo_part (Nat.le_of_ble_eq_true rfl) ?_
  refine go_aload_n 0 d_Mo_part_0 rfl rfl ?_
  refine go_iload_n 1 d_Mo_part_1 rfl rfl ?_
  refine go_V1 d_Mo_part_2 k_Mo_189 (by assumption) (Nat.le_of_ble_eq_true rfl) (c_Mo_pop hp0 (by omega) h (fun L1 f1 f2 f3 f4 => ?_))
  refine go_istore d_Mo_part_5 (Nat.le_of_ble_eq_true rfl) ?_
  simp only [gw_st1, gw_st2, gw_cl1, gw_get, gw_set, gw_big, Bool.false_eq_true, if_false, if_true, ↓reduceIte]
  refine go_aload_n 0 d_Mo_part_7 rfl rfl ?_
  refine go_iload_n 1 d_Mo_part_8 rfl rfl ?_
  refine go_V1 d_Mo_part_9 k_Mo_189 (by assumption) (Nat.le_of_ble_eq_true rfl) (c_Mo_pop hp0 (by omega) f1 (fun L2 g1 g2 g3 g4 => ?_))
  refine go_istore d_Mo_part_12 (Nat.le_of_ble_eq_true rfl) ?_
  simp only [gw_st1, gw_st2, gw_cl1, gw_get, gw_set, gw_big, Bool.false_eq_true, if_false, if_true, ↓reduceIte]
  have e1 : 104 * r + 12 + 2 * (x :: st).length = 104 * r + 14 + 2 * st.length := by rw [List.length_cons]; omega
  have e2 : 104 * r + 13 + 2 * (x :: st).length = 104 * r + 15 + 2 * st.length := by rw [List.length_cons]; omega
  have f2' : ms_at (L2 549 (104 * r + 14 + 2 * st.length)) (L2 549 (104 * r + 15 + 2 * st.length)) y := by rw [g3 _ (by omega), g3 _ (by omega)]; rw [e1, e2] at f2; exact f2
  have rest : ∀ (g : Int32) (o14 o15 : Option Value), (g ≠ 0 ↔ (¬ L2 549 (104 * r + 12 + 2 * st.length) < 0 ∧ ¬ L2 549 (104 * r + 14 + 2 * st.length) < 0)) → gw_Go y_Mo_part (d + 3) 0 0 87 [some (.ref 533), some (.int (nI r)), some (.int (bI less)), some (.int nn), some (.int (nI (104 * r + 12 + 2 * (x :: st).length))), some (.int (nI (104 * r + 12 + 2 * st.length))), some (.int g), some (.long (L2 549 (104 * r + 12 + 2 * st.length))), none, some (.long (L2 549 (104 * r + 14 + 2 * st.length))), none, some (.long (L2 549 (104 * r + 15 + 2 * st.length) - L2 549 (104 * r + 13 + 2 * st.length))), none, some (.int 0), o14, o15] [] (n, sh, X, R, I, L2) Q := fun g o14 o15 hg => c_Mo_ptA (x := x) (y := y) (s := s) hp0 hr g1 hok hx hy g2 f2' hg (fun I' L' w q1 q2 q3 q4 q5 q6 => hQ I' L' w q1 q2 q3 q4 (fun i hi => by rw [q5 i hi, g3 i (by omega), f3 i (by omega)]) (fun q a b c => by rw [q6 q a b c, g4 q a, f4 q a])) 104 0 0 L2 rfl rfl (fun j hj => by omega) (fun _ _ => rfl) (fun _ _ => rfl)
  have mid : ∀ g : Int32, (g ≠ 0 ↔ (¬ L2 549 (104 * r + 12 + 2 * st.length) < 0 ∧ ¬ L2 549 (104 * r + 14 + 2 * st.length) < 0)) → gw_Go y_Mo_part (d + 3) 0 0 45 [some (.ref 533), some (.int (nI r)), some (.int (bI less)), some (.int nn), some (.int (nI (104 * r + 12 + 2 * (x :: st).length))), some (.int (nI (104 * r + 12 + 2 * st.length))), some (.int g), none, none, none, none, none, none, none, none, none] [] (n, sh, X, R, I, L2) Q := by
    intro g hg
    refine go_aload_n 0 d_Mo_part_45 rfl rfl ?_
    refine go_getR d_Mo_part_46 f_Mo_56 (by assumption) (by assumption) ?_
    refine go_iload d_Mo_part_49 rfl ?_
    refine go_lald (104 * r + 12 + 2 * st.length) d_Mo_part_51 (by assumption) (rfl) (by omega) (by decide) ?_
    refine go_lstore d_Mo_part_52 (Nat.le_of_ble_eq_true rfl) ?_
    refine go_aload_n 0 d_Mo_part_54 rfl rfl ?_
    refine go_getR d_Mo_part_55 f_Mo_56 (by assumption) (by assumption) ?_
    refine go_iload d_Mo_part_58 rfl ?_
    refine go_lald (104 * r + 14 + 2 * st.length) d_Mo_part_60 (by assumption) (congrArg nI e1) (by omega) (by decide) ?_
    refine go_lstore d_Mo_part_61 (Nat.le_of_ble_eq_true rfl) ?_
    simp only [gw_st1, gw_st2, gw_cl1, gw_get, gw_set, gw_big, Bool.false_eq_true, if_false, if_true, ↓reduceIte]
    refine go_aload_n 0 d_Mo_part_63 rfl rfl ?_
    refine go_getR d_Mo_part_64 f_Mo_56 (by assumption) (by assumption) ?_
    refine go_iload d_Mo_part_67 rfl ?_
    refine go_iconst (v := 1) d_Mo_part_69 rfl ?_
    refine go_iadd d_Mo_part_70 ?_
    refine go_lald (104 * r + 15 + 2 * st.length) d_Mo_part_71 (by assumption) ((nI_add _ 1).trans (congrArg nI (by omega))) (by omega) (by decide) ?_
    refine go_aload_n 0 d_Mo_part_72 rfl rfl ?_
    refine go_getR d_Mo_part_73 f_Mo_56 (by assumption) (by assumption) ?_
    refine go_iload d_Mo_part_76 rfl ?_
    refine go_iconst (v := 1) d_Mo_part_78 rfl ?_
    refine go_iadd d_Mo_part_79 ?_
    refine go_lald (104 * r + 13 + 2 * st.length) d_Mo_part_80 (by assumption) ((nI_add _ 1).trans (congrArg nI (by omega))) (by omega) (by decide) ?_
    refine go_lsub d_Mo_part_81 ?_
    refine go_lstore d_Mo_part_82 (Nat.le_of_ble_eq_true rfl) ?_
    simp only [gw_st1, gw_st2, gw_cl1, gw_get, gw_set, gw_big, Bool.false_eq_true, if_false, if_true, ↓reduceIte]
    refine go_iconst (v := 0) d_Mo_part_84 rfl ?_
    refine go_istore d_Mo_part_85 (Nat.le_of_ble_eq_true rfl) ?_
    exact rest _ _ _ hg
  refine go_aload_n 0 d_Mo_part_14 rfl rfl ?_
  refine go_getR d_Mo_part_15 f_Mo_56 (by assumption) (by assumption) ?_
  refine go_iload d_Mo_part_18 rfl ?_
  refine go_lald (104 * r + 12 + 2 * st.length) d_Mo_part_20 (by assumption) (rfl) (by omega) (by decide) ?_
  refine go_lconst (v := 0) d_Mo_part_21 rfl ?_
  refine go_lcmp_lt 42 d_Mo_part_22 d_Mo_part_23 rfl (fun h22 => ?_) (fun h22 => ?_)
  · refine go_iconst (v := 0) d_Mo_part_42 rfl ?_
    refine go_istore d_Mo_part_43 (Nat.le_of_ble_eq_true rfl) ?_
    exact mid _ (by first | exact ⟨fun _ => ⟨h22, h34⟩, fun _ => by decide⟩ | exact ⟨fun h => absurd rfl h, fun hh => absurd h22 hh.1⟩ | exact ⟨fun h => absurd rfl h, fun hh => absurd h34 hh.2⟩)
  · refine go_aload_n 0 d_Mo_part_26 rfl rfl ?_
    refine go_getR d_Mo_part_27 f_Mo_56 (by assumption) (by assumption) ?_
    refine go_iload d_Mo_part_30 rfl ?_
    refine go_lald (104 * r + 14 + 2 * st.length) d_Mo_part_32 (by assumption) (congrArg nI e1) (by omega) (by decide) ?_
    refine go_lconst (v := 0) d_Mo_part_33 rfl ?_
    refine go_lcmp_lt 42 d_Mo_part_34 d_Mo_part_35 rfl (fun h34 => ?_) (fun h34 => ?_)
    · refine go_iconst (v := 0) d_Mo_part_42 rfl ?_
      refine go_istore d_Mo_part_43 (Nat.le_of_ble_eq_true rfl) ?_
      exact mid _ (by first | exact ⟨fun _ => ⟨h22, h34⟩, fun _ => by decide⟩ | exact ⟨fun h => absurd rfl h, fun hh => absurd h22 hh.1⟩ | exact ⟨fun h => absurd rfl h, fun hh => absurd h34 hh.2⟩)
    · refine go_iconst (v := 1) d_Mo_part_38 rfl ?_
      refine go_goto 43 d_Mo_part_39 rfl ?_
      refine go_istore d_Mo_part_43 (Nat.le_of_ble_eq_true rfl) ?_
      exact mid _ (by first | exact ⟨fun _ => ⟨h22, h34⟩, fun _ => by decide⟩ | exact ⟨fun h => absurd rfl h, fun hh => absurd h22 hh.1⟩ | exact ⟨fun h => absurd rfl h, fun hh => absurd h34 hh.2⟩)
theorem c_Mo_memory {r md : Nat} {p : Int32} {x : ab_Sy} {st : List ab_Sy} {lo : Nat → ab_Sy} {b0 b1 : ab_Ba} {s : sp_E × sp_E} (hp : pt_Mo sh R) (hr : r < 42) (h : rw_at (L 549) (104 * r) p md (x :: st) lo s.1 b0 b1) (hok : kn_ok s) (hx : sb 45000000000 x)
    (hf : (∀ q, x = some q → ¬ ∃ w, s.2 4 q.1 = some w ∧ w ≤ q.2.toInt) → ∀ L', (∀ i, i < 104 * r → L' 549 i = L 549 i) → (∀ q, q ≠ 549 → q ≠ 550 → q ≠ 551 → L' q = L q) → Q (some (.int 5)) (n, sh, X, R, I, L'))
    (hQ : ∀ q, x = some q → (∃ w, s.2 4 q.1 = some w ∧ w ≤ q.2.toInt) → ∀ L', rw_at (L' 549) (104 * r) p md st lo s.1 b0 (ba_T b1.1 q.1 4 (-1), b1.2 - (q.2 + 2)) → (∀ i, i < 104 * r → L' 549 i = L 549 i) → (∀ q, q ≠ 549 → q ≠ 550 → q ≠ 551 → L' q = L q) → Q (some (.int 0)) (n, sh, X, R, I, L')) : gw_Call y_Mo_memory (d + 2) 0 0 [.ref 533, .int (nI r)] (n, sh, X, R, I, L) Q := by
  have hp0 := hp
  obtain ⟨s533, s534, s535, s536, s537, s538, s539, s540, s541, s542, s543, s544, s545, s546, s547, s548, s549, s550, s551, s552, s553, s554, s555, s556, s557, r534, r535, r536, r537, r538, r539, r540, r541, r542, r543, r544, r545, r546, r547, r548, r549, r550, r551, r552, r553, r554, r555, r556, r557⟩ := hp
  have hs6 : st.length + 1 ≤ 6 := h.2.2.2.1
  have hC := kn_ok_bd hok
  refine gw_call o_Mo_memory (Nat.le_of_ble_eq_true rfl) ?_
  refine go_aload_n 0 d_Mo_memory_0 rfl rfl ?_
  refine go_iload_n 1 d_Mo_memory_1 rfl rfl ?_
  refine go_V1 d_Mo_memory_2 k_Mo_189 (by assumption) (Nat.le_of_ble_eq_true rfl) (c_Mo_pop hp0 hr h (fun L1 f1 f2 f3 f4 => ?_))
  refine go_istore_n 2 d_Mo_memory_5 rfl (Nat.le_of_ble_eq_true rfl) ?_
  refine go_aload_n 0 d_Mo_memory_6 rfl rfl ?_
  refine go_getR d_Mo_memory_7 f_Mo_56 (by assumption) (by assumption) ?_
  refine go_iload_n 2 d_Mo_memory_10 rfl rfl ?_
  refine go_lald (104 * r + 12 + 2 * st.length) d_Mo_memory_11 (by assumption) (rfl) (by omega) (by decide) ?_
  refine go_lconst (v := 0) d_Mo_memory_12 rfl ?_
  refine go_lcmp_ge 19 d_Mo_memory_13 d_Mo_memory_14 rfl (fun h13 => ?_) (fun h13 => ?_)
  · obtain ⟨q, hxq, e7, hq5, exn⟩ := ms_some f2 h13
    subst hxq
    have b1' := hx q rfl
    refine go_aload_n 0 d_Mo_memory_19 rfl rfl ?_
    refine go_iload_n 1 d_Mo_memory_20 rfl rfl ?_
    refine go_V1 d_Mo_memory_21 k_Mo_142 (by assumption) (Nat.le_of_ble_eq_true rfl) (c_Mo_fbC (d := d) hp0 hr f1.2.2.2.2.2.2.2.1 hok (fun L2 g1 g2 => ?_))
    refine go_pop d_Mo_memory_24 rfl ?_
    have w2 : L2 549 = L1 549 := g2 _ (by decide) (by decide)
    refine go_aload_n 0 d_Mo_memory_25 rfl rfl ?_
    refine go_ldc2 d_Mo_memory_26 i_Mo_110 ?_
    refine go_lconst (v := 0) d_Mo_memory_29 rfl ?_
    refine go_aload_n 0 d_Mo_memory_30 rfl rfl ?_
    refine go_getR d_Mo_memory_31 f_Mo_56 (by assumption) (by assumption) ?_
    refine go_iload_n 2 d_Mo_memory_34 rfl rfl ?_
    refine go_lald (104 * r + 12 + 2 * st.length) d_Mo_memory_35 (by assumption) (rfl) (by omega) (by decide) ?_
    rw [show L2 549 (104 * r + 12 + 2 * st.length) = lN q.1 by rw [w2]; exact e7]
    refine go_aload_n 0 d_Mo_memory_36 rfl rfl ?_
    refine go_getR d_Mo_memory_37 f_Mo_56 (by assumption) (by assumption) ?_
    refine go_iload_n 2 d_Mo_memory_40 rfl rfl ?_
    refine go_iconst (v := 1) d_Mo_memory_41 rfl ?_
    refine go_iadd d_Mo_memory_42 ?_
    refine go_lald (104 * r + 13 + 2 * st.length) d_Mo_memory_43 (by assumption) ((nI_add _ 1).trans (congrArg nI (by omega))) (by omega) (by decide) ?_
    rw [show L2 549 (104 * r + 13 + 2 * st.length) = q.2 by rw [w2]; exact exn]
    refine go_lconst (v := 0) d_Mo_memory_44 rfl ?_
    refine go_V5 d_Mo_memory_45 k_Mo_200 (by assumption) (Nat.le_of_ble_eq_true rfl) (c_Mo_follows (a := 4) (b := q.1) (x := 0) (y := q.2) (c := 0) hp0 (by decide) hq5 g1 hC (by decide) (by omega) (fun g k1 z1 => ?_))
    have k1' : g ≠ 0 ↔ ∃ w, s.2 4 q.1 = some w ∧ w ≤ q.2.toInt := k1.trans ⟨fun ⟨w, h1, h2⟩ => ⟨w, h1, by have e0 : (0 : Int64).toInt = 0 := (by decide); have e1 : (0 : Int32).toInt = 0 := (by decide); rw [e0, e1] at h2; omega⟩, fun ⟨w, h1, h2⟩ => ⟨w, h1, by have e0 : (0 : Int64).toInt = 0 := (by decide); have e1 : (0 : Int32).toInt = 0 := (by decide); rw [e0, e1]; omega⟩⟩
    refine go_if_ne 53 d_Mo_memory_48 rfl (fun h48 => ?_) (fun h48 => ?_)
    · refine go_aload_n 0 d_Mo_memory_53 rfl rfl ?_
      refine go_iload_n 1 d_Mo_memory_54 rfl rfl ?_
      refine go_bipush (v := 74) d_Mo_memory_55 rfl ?_
      refine go_ldc2 d_Mo_memory_57 i_Mo_187 ?_
      refine go_aload_n 0 d_Mo_memory_60 rfl rfl ?_
      refine go_getR d_Mo_memory_61 f_Mo_56 (by assumption) (by assumption) ?_
      refine go_iload_n 2 d_Mo_memory_64 rfl rfl ?_
      refine go_lald (104 * r + 12 + 2 * st.length) d_Mo_memory_65 (by assumption) (rfl) (by omega) (by decide) ?_
      rw [show L2 549 (104 * r + 12 + 2 * st.length) = lN q.1 by rw [w2]; exact e7]
      refine go_aload_n 0 d_Mo_memory_66 rfl rfl ?_
      refine go_getR d_Mo_memory_67 f_Mo_56 (by assumption) (by assumption) ?_
      refine go_iload_n 2 d_Mo_memory_70 rfl rfl ?_
      refine go_iconst (v := 1) d_Mo_memory_71 rfl ?_
      refine go_iadd d_Mo_memory_72 ?_
      refine go_lald (104 * r + 13 + 2 * st.length) d_Mo_memory_73 (by assumption) ((nI_add _ 1).trans (congrArg nI (by omega))) (by omega) (by decide) ?_
      rw [show L2 549 (104 * r + 13 + 2 * st.length) = q.2 by rw [w2]; exact exn]
      refine go_ldc2 d_Mo_memory_74 i_Mo_110 ?_
      refine go_lconst (v := 0) d_Mo_memory_77 rfl ?_
      refine go_V7 d_Mo_memory_78 k_Mo_135 (by assumption) (Nat.le_of_ble_eq_true rfl) (c_Mo_addTerm1 (a := q.1) (b := 4) (p := p) (md := md) (st := st) (lo := lo) (E := s.1) (b0 := b0) (b1 := b1) hp0 hr hq5 (by decide) (by rw [w2]; exact f1) (fun L3 c1 c2 c3 => ?_))
      refine go_aload_n 0 d_Mo_memory_81 rfl rfl ?_
      refine go_getR d_Mo_memory_82 f_Mo_56 (by assumption) (by assumption) ?_
      refine go_bipush (v := 104) d_Mo_memory_85 rfl ?_
      refine go_iload_n 1 d_Mo_memory_87 rfl rfl ?_
      refine go_imul d_Mo_memory_88 ?_
      refine go_bipush (v := 100) d_Mo_memory_89 rfl ?_
      refine go_iadd d_Mo_memory_91 ?_
      refine go_dup2 d_Mo_memory_92 rfl rfl ?_
      refine go_lald (104 * r + 100) d_Mo_memory_93 (by assumption) (ix3 (a := 100)) (by omega) (by decide) ?_
      refine go_ldc2 d_Mo_memory_94 i_Mo_164 ?_
      refine go_lsub d_Mo_memory_97 ?_
      refine go_last (104 * r + 100) d_Mo_memory_98 (by assumption) (ix3 (a := 100)) (by omega) (by decide) ?_
      refine go_iconst (v := 0) d_Mo_memory_99 rfl ?_
      exact go_iret d_Mo_memory_100 rfl (by (obtain ⟨a1, a2, a3, a4, a5, a6, a7, a8, a9, a10⟩ := c1; exact hQ q rfl (k1'.mp h48) _ ⟨by simp (disch := omega) only [up2_eq, up2_ne]; exact a1, by simp (disch := omega) only [up2_eq, up2_ne]; exact a2, by simp (disch := omega) only [up2_eq, up2_ne]; exact a3, a4, a5.cpy (fun x x' ⟨j, h1, h2, h3, h4⟩ => by rw [h3, h4]; simp (disch := omega) only [up2_eq, up2_ne]), fun j hj => (by simp (disch := omega) only [up2_eq, up2_ne]; exact a6 j hj), a7, a8.cpy (fun j hj => by simp (disch := omega) only [up2_eq, up2_ne]), a9.cpy (fun j hj => by simp (disch := omega) only [up2_eq, up2_ne]) (by simp (disch := omega) only [up2_eq, up2_ne]), ⟨fun x z hx hz => (by simp (disch := omega) only [up2_eq, up2_ne]; exact a10.1 x z hx hz), by simp (disch := omega) only [up2_eq, up2_ne]; rw [a10.2]; show b1.2 + -1 * (q.2 - 0) - 2 = b1.2 - (q.2 + 2); rw [Int64.sub_zero, Int64.neg_mul, Int64.one_mul, ← Int64.sub_eq_add_neg, Int64.sub_sub]⟩⟩ (fun i hi => by simp (disch := omega) only [up2_eq, up2_ne]; rw [c2 i (by omega), w2, f3 i (by omega)]) (fun q' a b c => by rw [gw_up_ne a, c3 q' a, g2 q' b c, f4 q' a])))
    · refine go_iconst (v := 5) d_Mo_memory_51 rfl ?_
      exact go_iret d_Mo_memory_52 rfl (hf (fun q' e => by cases e; exact fun hh => absurd h48 (k1'.mpr hh)) L2 (fun i hi => by rw [w2, f3 i (by omega)]) (fun q a b c => by rw [g2 q b c, f4 q a]))
  · refine go_iconst (v := 5) d_Mo_memory_17 rfl ?_
    exact go_iret d_Mo_memory_18 rfl (hf (fun q e => by have := (ms_neg f2).mp (by first | exact h13 | exact Classical.byContradiction h13); rw [this] at e; cases e) L1 (fun i hi => f3 i (by omega)) (fun q a b c => f4 q a))
end MO
