/-! the reference: run -/
theorem rn_step_good {code : Nat → List (Nat × Int32)} {inp : List Int32} {m q u : Nat} {wd dp : Int32} {st : List Int32} {loc : Nat → Int32} {rest : List ab_Fr} (hl : ∀ j, j < 4 → (code j).length ≤ 24) (hk : ∀ j, j < 4 → ∀ t ∈ code j, t.1 < 15) (hq : q < (code m).length) (hiv : rn_iv m rest) (hu : u ≤ inp.length) (hst : st.length ≤ 6) (h0 : (rn_step code inp ((m, nI q, st, loc) :: rest, u, wd, dp)).1 = 0) : rn_good code inp (rn_step code inp ((m, nI q, st, loc) :: rest, u, wd, dp)).2.1 := by
  have hml := rn_iv_lt hiv
  have hm : m < 4 := by omega
  have hl24 := hl m hm
  obtain ⟨⟨k, nn⟩, hqk⟩ : ∃ t, (code m)[q]? = some t := ⟨_, List.getElem?_eq_getElem hq⟩
  have hk15 : k < 15 := hk m hm _ (List.mem_of_getElem? hqk)
  by_cases hcr : rn_cr (fun j => (code j).length) k nn m st.length
  · rw [rs_cr hqk hl24 hcr] at h0
    exact absurd h0 i_30
  · have hpre : rn_pre k nn m st rest := by
      refine ⟨hk15, Nat.le_of_not_lt (fun h => hcr (Or.inl h)), Nat.le_of_not_lt (fun h => hcr (Or.inr (Or.inl h))), fun h => Classical.byContradiction (fun hn => hcr (Or.inr (Or.inr (Or.inl ⟨h, hn⟩)))), fun h => ?_, hm, by omega, rn_iv_6 hiv⟩
      have hj : ∃ j, j < m ∧ nn = nI j ∧ (fun j => (code j).length) j ≠ 0 := Classical.byContradiction (fun hn => hcr (Or.inr (Or.inr (Or.inr ⟨h, hn⟩))))
      obtain ⟨j, hj1, hj2, hj3⟩ := hj
      exact ⟨⟨j, hj1, hj2⟩, by omega⟩
    by_cases h1 : (rn_do inp k nn m (nI q + 1) st loc rest u wd dp).1 = 0
    · obtain ⟨⟨f, r, hf, hv⟩, hu'⟩ := rn_do_ok (p := nI q + 1) (loc := loc) (wd := wd) (dp := dp) hpre hst hiv hu h1
      by_cases hp : ∃ q', q' < (code f.1).length ∧ f.2.1 = nI q'
      · rw [rs_go ⟨hqk, hl24⟩ hcr rfl h1 hf hp]
        obtain ⟨q', hq1, hq2⟩ := hp
        obtain ⟨m', p', st', loc'⟩ := f
        dsimp only at hq1 hq2 hv
        subst hq2
        exact ⟨m', q', st', loc', r, hf, hq1, hv, hu'⟩
      · rw [rs_out ⟨hqk, hl24⟩ hcr rfl h1 hf hp] at h0
        exact absurd h0 i_30
    · rw [rs_end ⟨hqk, hl24⟩ hcr rfl h1] at h0
      exact absurd h0 h1
section MO
variable {d n : Nat} {sh : Nat → Nat × Nat} {X : Nat × (Nat → Int32)} {R : Nat → Nat → Option Nat} {I : Nat → Nat → Int32} {L : Nat → Nat → Int64} {Q : Option Value → gw_Mem → Prop}
variable {U : Nat → ab_Me}
theorem c_Mo_run {x a b c st wd mr rt : Int32} {inp : List Int32} (hp : pt_Mo sh R) (hc : mc_at I U) (ha : mr_at I st wd mr rt inp)
    (hf : ¬ (∃ k, k < 4 ∧ x = nI k ∧ (U k).1.length ≠ 0 ∧ ((-1000000 ≤ a ∧ a ≤ 1000000) ∧ (-1000000 ≤ b ∧ b ≤ 1000000) ∧ (-1000000 ≤ c ∧ c ≤ 1000000))) → Q (some (.int (-1))) (n, sh, X, R, I, L))
    (hQ : ∀ k, k < 4 → x = nI k → (U k).1.length ≠ 0 → ((-1000000 ≤ a ∧ a ≤ 1000000) ∧ (-1000000 ≤ b ∧ b ≤ 1000000) ∧ (-1000000 ≤ c ∧ c ≤ 1000000)) → ∀ I' r, r = rn_run (fun j => (U j).1) inp 3000 ([(k, 0, [], ar_v a b c)], 0, 0, 1) → mr_at I' (nI r.2.1) r.2.2.1 r.2.2.2.1 r.2.2.2.2 [] → (∀ q, q ≠ 533 → (q < 553 ∨ 558 ≤ q) → I' q = I q) → Q (some (.int r.1)) (n, sh, X, R, I', L)) : gw_Call y_Mo_run (d + 4) 0 0 [.ref 533, .int x, .int a, .int b, .int c] (n, sh, X, R, I, L) Q := by
  have hp0 := hp
  obtain ⟨s533, s534, s535, s536, s537, s538, s539, s540, s541, s542, s543, s544, s545, s546, s547, s548, s549, s550, s551, s552, s553, s554, s555, s556, s557, r534, r535, r536, r537, r538, r539, r540, r541, r542, r543, r544, r545, r546, r547, r548, r549, r550, r551, r552, r553, r554, r555, r556, r557⟩ := hp
  obtain ⟨a1, a2, a3, a4, a5, a6, a7⟩ := ha
  refine gw_call o_Mo_run (Nat.le_of_ble_eq_true rfl) ?_
  have code15 : ∀ j, j < 4 → ∀ t ∈ (U j).1, t.1 < 15 := fun j hj t ht => by
    obtain ⟨i, hi⟩ := List.mem_iff_getElem?.mp ht
    exact ((hc j hj).2.2.1 i t hi).2.2
  have main : ∀ k, k < 4 → x = nI k → (U k).1.length ≠ 0 → ((-1000000 ≤ a ∧ a ≤ 1000000) ∧ (-1000000 ≤ b ∧ b ≤ 1000000) ∧ (-1000000 ≤ c ∧ c ≤ 1000000)) → gw_Go y_Mo_run (d + 4) 0 0 68 [some (.ref 533), some (.int x), some (.int a), some (.int b), some (.int c), none] [] (n, sh, X, R, I, L) Q := by
    intro k hk hx hlk hrg
    have hQk := hQ k hk hx hlk hrg
    have fin : ∀ (e : Int32) (I1 : Nat → Nat → Int32) (t : Nat) (wd' dp' rt' : Int32), ¬ e = 0 → (∀ q, q ≠ 533 → (q < 553 ∨ 558 ≤ q) → I1 q = I q) → I1 533 29 = nI t → I1 533 30 = wd' → I1 533 31 = dp' → I1 533 32 = rt' → rn_run (fun j => (U j).1) inp 3000 ([(k, 0, [], ar_v a b c)], 0, 0, 1) = (e, t, wd', dp', rt') → gw_Go y_Mo_run (d + 4) 0 0 110 [some (.ref 533), some (.int x), some (.int a), some (.int b), some (.int c), some (.int e)] [] (n, sh, X, R, I1, L) Q := by
      intro e I1 t wd' dp' rt' he hk1 e1 e2 e3 e4 hrun
      refine go_iload d_Mo_run_110 rfl ?_
      refine go_if_ne 138 d_Mo_run_112 rfl (fun _ => ?_) (fun hn => by first | exact absurd hn (he) | exact absurd (he) hn)
      refine go_aload_n 0 d_Mo_run_138 rfl rfl ?_
      refine go_iconst (v := 0) d_Mo_run_139 rfl ?_
      refine go_putI d_Mo_run_140 f_Mo_238 (by assumption) ?_
      refine go_iload d_Mo_run_143 rfl ?_
      exact go_iret d_Mo_run_145 rfl (hQk _ _ hrun.symm ⟨by simp (disch := omega) only [up2_eq, up2_ne]; exact e1, by simp (disch := omega) only [up2_eq, up2_ne]; exact e2, by simp (disch := omega) only [up2_eq, up2_ne]; exact e3, by simp (disch := omega) only [up2_eq, up2_ne]; exact e4, by simp (disch := omega) only [up2_eq, up2_ne]; rfl, by decide, fun j v h => by cases h⟩ (fun q h1 h2 => by rw [gw_up_ne h1]; exact hk1 q h1 h2))
    have loop : ∀ (fuel t : Nat) (s : rn_S) (I1 : Nat → Nat → Int32), t + fuel = 3000 → rn_good (fun j => (U j).1) inp s → (∃ f fs, s.1 = f :: fs ∧ mf_fr I1 fs.length f.2.1 f ∧ mf_rest I1 fs ∧ I1 533 27 = nI (fs.length + 1)) → us_at I1 inp s.2.1 t → I1 533 30 = s.2.2.1 → I1 533 31 = s.2.2.2 → I1 533 32 = 0 → I1 533 29 = nI t → (∀ q, q ≠ 533 → (q < 553 ∨ 558 ≤ q) → I1 q = I q) → rn_run (fun j => (U j).1) inp 3000 ([(k, 0, [], ar_v a b c)], 0, 0, 1) = ((rn_run (fun j => (U j).1) inp fuel s).1, t + (rn_run (fun j => (U j).1) inp fuel s).2.1, (rn_run (fun j => (U j).1) inp fuel s).2.2) → gw_Go y_Mo_run (d + 4) 0 0 110 [some (.ref 533), some (.int x), some (.int a), some (.int b), some (.int c), some (.int 0)] [] (n, sh, X, R, I1, L) Q := by
      intro fuel
      induction fuel with
      | zero =>
        intro t s I1 ht hg hfr hus e30 e31 e32 e29 hk1 hrun
        have h3 : t = 3000 := by omega
        subst h3
        refine go_iload d_Mo_run_110 rfl ?_
        refine go_if_ne 138 d_Mo_run_112 rfl (fun hn => absurd hn (fun h => h rfl)) (fun _ => ?_)
        refine go_aload_n 0 d_Mo_run_115 rfl rfl ?_
        refine go_getI d_Mo_run_116 f_Mo_250 (by assumption) ?_
        rw [e29]
        refine go_sipush (v := 3000) d_Mo_run_119 rfl ?_
        refine go_icmp_ne 129 d_Mo_run_122 rfl (fun hn => absurd hn (fun h => h rfl)) (fun _ => ?_)
        refine go_iconst (v := 4) d_Mo_run_125 rfl ?_
        refine go_goto 133 d_Mo_run_126 rfl ?_
        refine go_istore d_Mo_run_133 (Nat.le_of_ble_eq_true rfl) ?_
        refine go_goto 110 d_Mo_run_135 rfl ?_
        exact fin 4 I1 3000 _ _ _ (by decide) hk1 e29 e30 e31 e32 hrun
      | succ fuel ih =>
        intro t s I1 ht hg hfr hus e30 e31 e32 e29 hk1 hrun
        obtain ⟨m, q, st, loc, rest, hs, hq, hiv, hu⟩ := hg
        obtain ⟨fs0, u, wd0, dp0⟩ := s
        dsimp only at hs hu e30 e31 hus hfr
        subst hs
        obtain ⟨f, fs, hf1, hf2, hf3, hf4⟩ := hfr
        cases hf1
        have hc1 : mc_at I1 U := hc.kept (fun q a b => hk1 q (by omega) (by omega))
        refine go_iload d_Mo_run_110 rfl ?_
        refine go_if_ne 138 d_Mo_run_112 rfl (fun hn => absurd hn (fun h => h rfl)) (fun _ => ?_)
        refine go_aload_n 0 d_Mo_run_115 rfl rfl ?_
        refine go_getI d_Mo_run_116 f_Mo_250 (by assumption) ?_
        rw [e29]
        refine go_sipush (v := 3000) d_Mo_run_119 rfl ?_
        refine go_icmp_ne 129 d_Mo_run_122 rfl (fun _ => ?_) (fun hn => by first | exact absurd hn (fun h => absurd ((nI_eq (b := 3000) (by omega) (by decide)).mp h) (by omega)) | exact absurd (fun h => absurd ((nI_eq (b := 3000) (by omega) (by decide)).mp h) (by omega)) hn)
        refine go_aload_n 0 d_Mo_run_129 rfl rfl ?_
        refine go_V0 d_Mo_run_130 k_Mo_263 (by assumption) (Nat.le_of_ble_eq_true rfl) (c_Mo_makeStep (d := d) (inp := inp) (t := t) hp0 hc1 hq hiv hf2 hf3 hf4 hus (by omega) e30 e31 (fun I2 r hr hpost => ?_))
        obtain ⟨p1, p2, p3, p4, p5, p6, p7, p8⟩ := hpost
        have hrr : rn_run (fun j => (U j).1) inp (fuel + 1) ((m, nI q, st, loc) :: rest, u, wd0, dp0) = if r.1 = 0 then ((rn_run (fun j => (U j).1) inp fuel r.2.1).1, (rn_run (fun j => (U j).1) inp fuel r.2.1).2.1 + 1, (rn_run (fun j => (U j).1) inp fuel r.2.1).2.2) else (r.1, 1, r.2.1.2.2.1, r.2.1.2.2.2, r.2.2) := by rw [hr]; rfl
        have hk2 : ∀ q, q ≠ 533 → (q < 553 ∨ 558 ≤ q) → I2 q = I q := fun q h1 h2 => by rw [p8 q h1 h2]; exact hk1 q h1 h2
        have e29' : I2 533 29 = nI (t + 1) := by rw [p6, e29, nI_1]
        by_cases hr0 : r.1 = 0
        · rw [if_pos hr0] at hrr
          rw [hrr] at hrun
          obtain ⟨q1, q2⟩ := p1 hr0
          have hgood : rn_good (fun j => (U j).1) inp r.2.1 := by
            rw [hr] at hr0 ⊢
            exact rn_step_good (fun j hj => (hc j hj).2.1) code15 hq hiv hu hf2.2.2.2.1 hr0
          refine go_istore d_Mo_run_133 (Nat.le_of_ble_eq_true rfl) ?_
          refine go_goto 110 d_Mo_run_135 rfl ?_
          exact (by rw [hr0]; exact ih (t + 1) r.2.1 I2 (by omega) hgood q1 q2 p2 p3 (by rw [(p5 (by rw [hr0]; exact i_01)).1]; exact e32) e29' hk2 (by rw [hrun]; exact Prod.ext rfl (Prod.ext (by show t + (_ + 1) = t + 1 + _; omega) rfl)))
        · rw [if_neg hr0] at hrr
          rw [hrr] at hrun
          refine go_istore d_Mo_run_133 (Nat.le_of_ble_eq_true rfl) ?_
          refine go_goto 110 d_Mo_run_135 rfl ?_
          exact fin r.1 I2 (t + 1) _ _ _ hr0 hk2 e29' p2 p3 (by by_cases h1 : r.1 = 1; exact p4 h1; (rw [(p5 h1).1, e32, (p5 h1).2])) hrun
    obtain ⟨hm1, hm2, hm3, hm4, hm5, hm6, hm7⟩ := hc k hk
    subst hx
    refine go_aload_n 0 d_Mo_run_68 rfl rfl ?_
    refine go_iconst (v := 0) d_Mo_run_69 rfl ?_
    refine go_putI d_Mo_run_70 f_Mo_241 (by assumption) ?_
    refine go_aload_n 0 d_Mo_run_73 rfl rfl ?_
    refine go_iconst (v := 0) d_Mo_run_74 rfl ?_
    refine go_putI d_Mo_run_75 f_Mo_247 (by assumption) ?_
    refine go_aload_n 0 d_Mo_run_78 rfl rfl ?_
    refine go_iconst (v := 0) d_Mo_run_79 rfl ?_
    refine go_putI d_Mo_run_80 f_Mo_250 (by assumption) ?_
    refine go_aload_n 0 d_Mo_run_83 rfl rfl ?_
    refine go_iconst (v := 0) d_Mo_run_84 rfl ?_
    refine go_putI d_Mo_run_85 f_Mo_253 (by assumption) ?_
    refine go_aload_n 0 d_Mo_run_88 rfl rfl ?_
    refine go_iconst (v := 0) d_Mo_run_89 rfl ?_
    refine go_putI d_Mo_run_90 f_Mo_244 (by assumption) ?_
    refine go_aload_n 0 d_Mo_run_93 rfl rfl ?_
    refine go_iconst (v := 0) d_Mo_run_94 rfl ?_
    refine go_putI d_Mo_run_95 f_Mo_256 (by assumption) ?_
    refine go_aload_n 0 d_Mo_run_98 rfl rfl ?_
    refine go_iload_n 1 d_Mo_run_99 rfl rfl ?_
    refine go_iload_n 2 d_Mo_run_100 rfl rfl ?_
    refine go_iload_n 3 d_Mo_run_101 rfl rfl ?_
    refine go_iload d_Mo_run_102 rfl ?_
    refine go_V4 d_Mo_run_104 k_Mo_259 (by assumption) (Nat.le_of_ble_eq_true rfl) (c_Mo_enter (fl := 0) (dp := 0) hp0 (by decide) (by simp (disch := omega) only [up2_eq, up2_ne]; rfl) (by simp (disch := omega) only [up2_eq, up2_ne]) (fun I1 c1 c2 c3 c4 c5 c6 => ?_))
    have hgood : rn_good (fun j => (U j).1) inp ([(k, 0, [], ar_v a b c)], 0, 0, 1) := ⟨k, 0, [], ar_v a b c, [], rfl, Nat.pos_of_ne_zero hlk, hk, Nat.zero_le _⟩
    have w21 : I1 533 21 = nI inp.length := by rw [c5 _ (by decide) (by decide)]; simp (disch := omega) only [up2_eq, up2_ne]; exact a5
    have w28 : I1 533 28 = nI 0 := by rw [c5 _ (by decide) (by decide)]; simp (disch := omega) only [up2_eq, up2_ne]; rfl
    have w29 : I1 533 29 = nI 0 := by rw [c5 _ (by decide) (by decide)]; simp (disch := omega) only [up2_eq, up2_ne]; rfl
    have w30 : I1 533 30 = 0 := by rw [c5 _ (by decide) (by decide)]; simp (disch := omega) only [up2_eq, up2_ne]
    have w32 : I1 533 32 = 0 := by rw [c5 _ (by decide) (by decide)]; simp (disch := omega) only [up2_eq, up2_ne]
    have w31 : I1 533 31 = 1 := by rw [c4]; rfl
    have wq : ∀ q, q ≠ 533 → (q < 553 ∨ 558 ≤ q) → I1 q = I q := fun q h1 h2 => by rw [c6 q h1 (by omega), gw_up_ne h1, gw_up_ne h1, gw_up_ne h1, gw_up_ne h1, gw_up_ne h1, gw_up_ne h1]
    have wus : us_at I1 inp 0 0 := ⟨w21, a6, by rw [wq 552 (by decide) (by decide)]; exact a7, 0, w28, Nat.le_refl _, Nat.zero_le _, by omega⟩
    refine go_iconst (v := 0) d_Mo_run_107 rfl ?_
    refine go_istore d_Mo_run_108 (Nat.le_of_ble_eq_true rfl) ?_
    exact loop 3000 0 ([(k, 0, [], ar_v a b c)], 0, 0, 1) I1 rfl hgood ⟨_, _, rfl, c1, trivial, c3⟩ wus w30 w31 w32 w29 wq (by rw [Nat.zero_add])
  refine go_iload_n 1 d_Mo_run_0 rfl rfl ?_
  refine go_i2l d_Mo_run_1 (rfl) ?_
  refine go_lconst (v := 0) d_Mo_run_2 rfl ?_
  refine go_ldc2 d_Mo_run_3 i_Mo_84 ?_
  refine go_S3 d_Mo_run_6 k_Mo_86 (Nat.le_of_ble_eq_true rfl) (c_Mo_in (l := 0) (h := 3) rfl rfl (fun b1 k1 z1 => ?_))
  refine go_if_eq 55 d_Mo_run_9 rfl (fun h9 => ?_) (fun h9 => ?_)
  · refine go_iconst (v := (-1)) d_Mo_run_55 rfl ?_
    exact go_iret d_Mo_run_56 rfl (hf (fun ⟨k', q1, q2, q3, q4, q5, q6⟩ => by first | exact k1.mpr (by rw [q2]; exact m4 q1) h9 | exact k2.mpr q4 h23 | exact k3.mpr q5 h37 | exact k4.mpr q6 h52))
  · refine go_iload_n 2 d_Mo_run_12 rfl rfl ?_
    refine go_i2l d_Mo_run_13 (rfl) ?_
    refine go_ldc2 d_Mo_run_14 i_Mo_222 ?_
    refine go_ldc2 d_Mo_run_17 i_Mo_224 ?_
    refine go_S3 d_Mo_run_20 k_Mo_86 (Nat.le_of_ble_eq_true rfl) (c_Mo_in (l := -1000000) (h := 1000000) rfl rfl (fun b2 k2 z2 => ?_))
    refine go_if_eq 55 d_Mo_run_23 rfl (fun h23 => ?_) (fun h23 => ?_)
    · refine go_iconst (v := (-1)) d_Mo_run_55 rfl ?_
      exact go_iret d_Mo_run_56 rfl (hf (fun ⟨k', q1, q2, q3, q4, q5, q6⟩ => by first | exact k1.mpr (by rw [q2]; exact m4 q1) h9 | exact k2.mpr q4 h23 | exact k3.mpr q5 h37 | exact k4.mpr q6 h52))
    · refine go_iload_n 3 d_Mo_run_26 rfl rfl ?_
      refine go_i2l d_Mo_run_27 (rfl) ?_
      refine go_ldc2 d_Mo_run_28 i_Mo_222 ?_
      refine go_ldc2 d_Mo_run_31 i_Mo_224 ?_
      refine go_S3 d_Mo_run_34 k_Mo_86 (Nat.le_of_ble_eq_true rfl) (c_Mo_in (l := -1000000) (h := 1000000) rfl rfl (fun b3 k3 z3 => ?_))
      refine go_if_eq 55 d_Mo_run_37 rfl (fun h37 => ?_) (fun h37 => ?_)
      · refine go_iconst (v := (-1)) d_Mo_run_55 rfl ?_
        exact go_iret d_Mo_run_56 rfl (hf (fun ⟨k', q1, q2, q3, q4, q5, q6⟩ => by first | exact k1.mpr (by rw [q2]; exact m4 q1) h9 | exact k2.mpr q4 h23 | exact k3.mpr q5 h37 | exact k4.mpr q6 h52))
      · refine go_iload d_Mo_run_40 rfl ?_
        refine go_i2l d_Mo_run_42 (rfl) ?_
        refine go_ldc2 d_Mo_run_43 i_Mo_222 ?_
        refine go_ldc2 d_Mo_run_46 i_Mo_224 ?_
        refine go_S3 d_Mo_run_49 k_Mo_86 (Nat.le_of_ble_eq_true rfl) (c_Mo_in (l := -1000000) (h := 1000000) rfl rfl (fun b4 k4 z4 => ?_))
        refine go_if_ne 57 d_Mo_run_52 rfl (fun h52 => ?_) (fun h52 => ?_)
        · obtain ⟨k, hk, hx⟩ := m4' (k1.mp h9)
          refine go_aload_n 0 d_Mo_run_57 rfl rfl ?_
          refine go_getR d_Mo_run_58 f_Mo_7 (by assumption) (by assumption) ?_
          refine go_iload_n 1 d_Mo_run_61 rfl rfl ?_
          refine go_iald (k) d_Mo_run_62 (by assumption) (hx) (hk) (by decide) ?_
          rw [(hc k hk).1]
          refine go_if_ne 68 d_Mo_run_63 rfl (fun h63 => ?_) (fun h63 => ?_)
          · exact main k hk hx (fun e => h63 (by rw [e]; rfl)) ⟨k2.mp h23, k3.mp h37, k4.mp h52⟩
          · refine go_iconst (v := (-1)) d_Mo_run_66 rfl ?_
            exact go_iret d_Mo_run_67 rfl (hf (fun ⟨k', q1, q2, q3, q4⟩ => by (have e := (nI_eq (by omega) (by omega)).mp (q2.symm.trans hx); subst e; exact q3 ((nI_eq (b := 0) (by have := (hc k' q1).2.1; omega) (by decide)).mp h63))))
        · refine go_iconst (v := (-1)) d_Mo_run_55 rfl ?_
          exact go_iret d_Mo_run_56 rfl (hf (fun ⟨k', q1, q2, q3, q4, q5, q6⟩ => by first | exact k1.mpr (by rw [q2]; exact m4 q1) h9 | exact k2.mpr q4 h23 | exact k3.mpr q5 h37 | exact k4.mpr q6 h52))
end MO
