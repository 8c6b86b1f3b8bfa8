/-! Machine.step, Machine.runToEnd, CostChecker.run -/
noncomputable def cIf {α : Type} (p : Prop) (a b : α) : α := @ite α p (Classical.propDecidable p) a b
theorem cIf_pos {α : Type} {p : Prop} {a b : α} (h : p) : cIf p a b = a := by unfold cIf; rw [if_pos h]
theorem cIf_neg {α : Type} {p : Prop} {a b : α} (h : ¬ p) : cIf p a b = b := by unfold cIf; rw [if_neg h]
/-- the running methods below: higher numbers, room on their stacks -/
def rn_iv (m : Nat) : List ab_Fr → Prop
  | [] => m < 4
  | g :: r => m < g.1 ∧ g.2.2.1.length < 6 ∧ rn_iv g.1 r
theorem rn_iv_lt : ∀ {m : Nat} {r : List ab_Fr}, rn_iv m r → m + r.length < 4
  | _, [], h => h
  | _, g :: r, h => by have := rn_iv_lt h.2.2; have := h.1; simp only [List.length_cons]; omega
theorem rn_iv_6 : ∀ {m : Nat} {r : List ab_Fr}, rn_iv m r → ∀ f ∈ r, f.2.2.1.length < 6
  | _, [], _, f, h => by cases h
  | _, g :: r, h, f, hf => by
    rcases List.mem_cons.mp hf with rfl | hf
    · exact h.2.1
    · exact rn_iv_6 h.2.2 f hf
/-- behind an instruction that went on: a frame on top, those below as they must be -/
def rn_ok (fs : List ab_Fr) : Prop := ∃ f r, fs = f :: r ∧ rn_iv f.1 r
theorem rn_do_ok {inp : List Int32} {k m u : Nat} {nn p wd dp : Int32} {st : List Int32} {loc : Nat → Int32} {rest : List ab_Fr} (hpre : rn_pre k nn m st rest) (hst : st.length ≤ 6) (hiv : rn_iv m rest) (hu : u ≤ inp.length) (h0 : (rn_do inp k nn m p st loc rest u wd dp).1 = 0) : rn_ok (rn_do inp k nn m p st loc rest u wd dp).2.1.1 ∧ (rn_do inp k nn m p st loc rest u wd dp).2.1.2.1 ≤ inp.length := by
  obtain ⟨q1, q2, q3, q4, q5, qm, q6, q7⟩ := hpre
  have one : 1 ≤ st.length → ∃ v s, st = v :: s := fun h => by cases st with | nil => exact absurd h (by decide) | cons v s => exact ⟨v, s, rfl⟩
  have two : 2 ≤ st.length → ∃ y x s, st = y :: x :: s := fun h => by cases st with | nil => exact absurd h (by decide) | cons y s => cases s with | nil => exact absurd h (by simp) | cons x s => exact ⟨y, x, s, rfl⟩
  have three : 3 ≤ st.length → ∃ z y x s, st = z :: y :: x :: s := fun h => by cases st with | nil => exact absurd h (by decide) | cons z s => cases s with | nil => exact absurd h (by simp) | cons y s => cases s with | nil => exact absurd h (by simp) | cons x s => exact ⟨z, y, x, s, rfl⟩
  rcases (show k = 0 ∨ k = 1 ∨ k = 2 ∨ k = 3 ∨ k = 4 ∨ k = 5 ∨ k = 6 ∨ k = 7 ∨ k = 8 ∨ k = 9 ∨ k = 10 ∨ k = 11 ∨ k = 12 ∨ k = 13 ∨ k = 14 by omega) with rfl | rfl | rfl | rfl | rfl | rfl | rfl | rfl | rfl | rfl | rfl | rfl | rfl | rfl | rfl
  · exact ⟨⟨_, _, rfl, hiv⟩, hu⟩
  · exact ⟨⟨_, _, rfl, hiv⟩, hu⟩
  · obtain ⟨v, s, rfl⟩ := one q2
    exact ⟨⟨_, _, rfl, hiv⟩, hu⟩
  · obtain ⟨y, x, s, rfl⟩ := two q2
    simp only [rn_do] at h0 ⊢
    split at h0
    · next h => rw [if_pos h]; exact ⟨⟨_, _, rfl, hiv⟩, hu⟩
    · exact absurd h0 i_20
  · obtain ⟨y, x, s, rfl⟩ := two q2
    simp only [rn_do] at h0 ⊢
    split at h0
    · next h => rw [if_pos h]; exact ⟨⟨_, _, rfl, hiv⟩, hu⟩
    · exact absurd h0 i_20
  · simp only [rn_do] at h0 ⊢
    split at h0
    · next h => rw [if_pos h]; exact ⟨⟨_, _, rfl, hiv⟩, hu⟩
    · exact absurd h0 i_20
  · simp only [rn_do] at h0 ⊢
    split at h0
    · next h => rw [if_pos h]; exact ⟨⟨_, _, rfl, hiv⟩, hu⟩
    · exact absurd h0 i_20
  · exact ⟨⟨_, _, rfl, hiv⟩, hu⟩
  · obtain ⟨y, x, s, rfl⟩ := two q2
    exact ⟨⟨_, _, rfl, hiv⟩, hu⟩
  · obtain ⟨y, x, s, rfl⟩ := two q2
    exact ⟨⟨_, _, rfl, hiv⟩, hu⟩
  · obtain ⟨v, s, rfl⟩ := one q2
    simp only [rn_do] at h0 ⊢
    split at h0
    · exact absurd h0 i_20
    · next h => rw [if_neg h]; exact ⟨⟨_, _, rfl, hiv⟩, hu⟩
  · obtain ⟨z, y, x, s, rfl⟩ := three q2
    obtain ⟨⟨j, hj, rfl⟩, hr⟩ := q5 rfl
    refine ⟨⟨_, _, rfl, ?_⟩, hu⟩
    refine ⟨?_, ?_, hiv⟩
    · show (nI j).toNatClampNeg < m
      rw [nI_clamp (by omega)]; exact hj
    · show s.length < 6
      have : s.length + 3 ≤ 6 := hst
      omega
  · obtain ⟨v, s, rfl⟩ := one q2
    cases rest with
    | nil => exact absurd h0 i_10
    | cons f2 r2 =>
      obtain ⟨m2, p2, st2, loc2⟩ := f2
      exact ⟨⟨_, _, rfl, hiv.2.2⟩, hu⟩
  · simp only [rn_do]
    cases hv : inp[u]? with
    | none => exact ⟨⟨_, _, rfl, hiv⟩, hu⟩
    | some v => exact ⟨⟨_, _, rfl, hiv⟩, (List.getElem?_eq_some_iff.mp hv).1⟩
  · obtain ⟨v, s, rfl⟩ := one q2
    exact ⟨⟨_, _, rfl, hiv⟩, hu⟩
/-- one step: 0 on, 1 returned, 2 trapped, 3 cramped -/
noncomputable def rn_step (code : Nat → List (Nat × Int32)) (inp : List Int32) (s : rn_S) : rn_R := match s with
  | ([], u, wd, dp) => (3, ([], u, wd, dp), 0)
  | ((m, p, st, loc) :: rest, u, wd, dp) => match (code m)[p.toNatClampNeg]? with
    | none => (3, ([], u, wd, dp), 0)
    | some (k, nn) => cIf (rn_cr (fun j => (code j).length) k nn m st.length) (3, ([], u, wd, dp), 0)
        (let r := rn_do inp k nn m (p + 1) st loc rest u wd dp
         if r.1 = 0 then (match r.2.1.1 with
           | [] => (3, r.2.1, 0)
           | f :: _ => cIf (∃ q, q < (code f.1).length ∧ f.2.1 = nI q) r (3, r.2.1, 0)) else r)
/-- at most so many steps: how it ended, steps, words, the most that ran, what was returned -/
noncomputable def rn_run (code : Nat → List (Nat × Int32)) (inp : List Int32) : Nat → rn_S → Int32 × Nat × Int32 × Int32 × Int32
  | 0, s => (4, 0, s.2.2.1, s.2.2.2, 0)
  | n + 1, s => let r := rn_step code inp s
    if r.1 = 0 then (let t := rn_run code inp n r.2.1; (t.1, t.2.1 + 1, t.2.2)) else (r.1, 1, r.2.1.2.2.1, r.2.1.2.2.2, r.2.2)
/-- a state between steps -/
def rn_good (code : Nat → List (Nat × Int32)) (inp : List Int32) (s : rn_S) : Prop := ∃ m q st loc rest, s.1 = (m, nI q, st, loc) :: rest ∧ q < (code m).length ∧ rn_iv m rest ∧ s.2.1 ≤ inp.length
section RU
variable {d n : Nat} {sh : Nat → Nat × Nat} {X : Nat × (Nat → Int32)} {R : Nat → Nat → Option Nat} {I : Nat → Nat → Int32} {L : Nat → Nat → Int64} {Q : Option Value → gw_Mem → Prop} {S : Nat → ab_Me}
/-- a step's end: either it goes on in a good state, or the run has ended -/
def rs_post (code : Nat → List (Nat × Int32)) (inp : List Int32) (I I' : Nat → Nat → Int32) (r : rn_R) : Prop := (r.1 = 0 → fs_at I' r.2.1.1 ∧ I' 330 2 = nI (r.2.1.1.length - 1) ∧ I' 330 5 = nI r.2.1.2.1 ∧ rn_good code inp r.2.1) ∧ I' 330 7 = r.2.1.2.2.1 ∧ I' 330 8 = r.2.1.2.2.2 ∧ (r.1 = 1 → I' 330 9 = r.2.2) ∧ (r.1 ≠ 1 → I' 330 9 = I 330 9 ∧ r.2.2 = 0) ∧ I' 330 4 = I 330 4 ∧ I' 330 6 = I 330 6 ∧ ∀ q, q < 330 ∨ q = 331 ∨ q = 332 ∨ 345 ≤ q → I' q = I q
theorem rn_do_ret {inp : List Int32} {k m u : Nat} {nn p wd dp : Int32} {st : List Int32} {loc : Nat → Int32} {rest : List ab_Fr} (h : (rn_do inp k nn m p st loc rest u wd dp).1 ≠ 1) : (rn_do inp k nn m p st loc rest u wd dp).2.2 = 0 := by
  have key : ∀ r : rn_R, r = rn_do inp k nn m p st loc rest u wd dp → r.1 = 1 ∨ r.2.2 = 0 := by
    intro r hr
    unfold rn_do at hr
    repeat' split at hr
    all_goals (subst hr; first | exact Or.inr rfl | exact Or.inl rfl)
  exact (key _ rfl).resolve_left h
theorem c_Ma_step {inp : List Int32} {m q u : Nat} {wd dp : Int32} {st : List Int32} {loc : Nat → Int32} {rest : List ab_Fr} (hp : pt_CX sh R) (hc : cc_at R I S) (hq : q < (S m).1.length) (hiv : rn_iv m rest) (hfs : fs_at I ((m, nI q, st, loc) :: rest)) (h2 : I 330 2 = nI rest.length) (h5 : I 330 5 = nI u) (hu : u ≤ inp.length) (h4 : I 330 4 = nI inp.length) (h12 : inp.length ≤ 12) (hi : ∀ (j : Nat) (v : Int32), inp[j]? = some v → I 332 j = v) (h7 : I 330 7 = wd) (h8 : I 330 8 = dp) (hQ : ∀ I', rs_post (fun j => (S j).1) inp I I' (rn_step (fun j => (S j).1) inp ((m, nI q, st, loc) :: rest, u, wd, dp)) → Q (some (.int (rn_step (fun j => (S j).1) inp ((m, nI q, st, loc) :: rest, u, wd, dp)).1)) (n, sh, X, R, I', L)) : gw_Call y_Ma_step (d + 4) 0 0 [.ref 330] (n, sh, X, R, I, L) Q := by
  have hml := rn_iv_lt hiv
  have hm : m < 4 := by omega
  have hp0 := hp
  obtain ⟨hcc, -, -, -, -, hma⟩ := hp
  have hma0 := hma
  obtain ⟨s0, s1, s2, r0, r1, r3, hfr⟩ := hma
  have s1' := hcc.2.1
  obtain ⟨hrm, hme⟩ := hcc.2.2.2 m hm
  have hme0 := hme
  obtain ⟨sm, sm1, sm2, sm3, rm1, rm2, rm4, hcu⟩ := hme
  obtain ⟨w, g1, g2, g3, g4⟩ := hc m hm
  have hrf := (hfr rest.length (by omega)).1
  have hfo := hma0.fr (i := rest.length) (by omega)
  have so := hfo.1
  obtain ⟨hf, hr⟩ := hfs
  have hf0 := hf
  obtain ⟨f1, f2, f3, f4, f5, f6⟩ := hf
  dsimp only at f1 f2 f3 f4
  obtain ⟨⟨k, nn⟩, hkn⟩ : ∃ t, (S m).1[q]? = some t := ⟨_, List.getElem?_eq_getElem hq⟩
  obtain ⟨b1, b2, b3⟩ := g2.2.2 q _ hkn
  have hq24 := g2.2.1
  dsimp only at b1 b2 b3
  have hstep : rn_step (fun j => (S j).1) inp ((m, nI q, st, loc) :: rest, u, wd, dp) = cIf (rn_cr (fun j => (S j).1.length) k nn m st.length) (3, ([], u, wd, dp), 0) (let r := rn_do inp k nn m (nI q + 1) st loc rest u wd dp
         if r.1 = 0 then (match r.2.1.1 with
           | [] => (3, r.2.1, 0)
           | f :: _ => cIf (∃ q, q < (S f.1).1.length ∧ f.2.1 = nI q) r (3, r.2.1, 0)) else r) := by
    unfold rn_step
    dsimp only
    rw [nI_clamp (by omega), hkn]
  rw [hstep] at hQ
  refine gw_call o_Ma_step (Nat.le_of_ble_eq_true rfl) ?_
  refine go_aload_n 0 d_Ma_step_0 rfl rfl ?_
  refine go_getR d_Ma_step_1 f_Ma_11 (by assumption) (by assumption) ?_
  refine go_aload_n 0 d_Ma_step_4 rfl rfl ?_
  refine go_getI d_Ma_step_5 f_Ma_45 (by assumption) ?_
  refine go_aald (t := 3) (rest.length) d_Ma_step_8 (by assumption) (by decide) (h2) (by omega) (by decide) (by assumption) ?_
  refine go_astore_n 1 d_Ma_step_9 rfl (Nat.le_of_ble_eq_true rfl) ?_
  refine go_aload_n 0 d_Ma_step_10 rfl rfl ?_
  refine go_getR d_Ma_step_11 f_Ma_21 (by assumption) (by assumption) ?_
  refine go_aload_n 1 d_Ma_step_14 rfl rfl ?_
  refine go_getI d_Ma_step_15 f_Ma_56 (by assumption) ?_
  refine go_aald (t := 0) (m) d_Ma_step_18 (by assumption) (by decide) (f3) (hm) (by decide) (by assumption) ?_
  refine go_astore_n 2 d_Ma_step_19 rfl (Nat.le_of_ble_eq_true rfl) ?_
  refine go_aload_n 1 d_Ma_step_20 rfl rfl ?_
  refine go_getI d_Ma_step_21 f_Ma_59 (by assumption) ?_
  rw [f4]
  refine go_istore_n 3 d_Ma_step_24 rfl (Nat.le_of_ble_eq_true rfl) ?_
  refine go_aload_n 0 d_Ma_step_25 rfl rfl ?_
  refine go_getR d_Ma_step_26 f_Ma_21 (by assumption) (by assumption) ?_
  refine go_aload_n 2 d_Ma_step_29 rfl rfl ?_
  refine go_iload_n 3 d_Ma_step_30 rfl rfl ?_
  refine go_aload_n 1 d_Ma_step_31 rfl rfl ?_
  refine go_getI d_Ma_step_32 f_Ma_62 (by assumption) ?_
  rw [f1]
  refine go_S4 d_Ma_step_35 k_Ma_65 (Nat.le_of_ble_eq_true rfl) (c_CC_isCramped hcc hc hm hkn f2 (fun b hb => ?_))
  refine go_if_eq 43 d_Ma_step_38 rfl (fun h38 => ?_) (fun h38 => ?_)
  · have hncr : ¬ rn_cr (fun j => (S j).1.length) k nn m st.length := fun h => by rw [hb.mpr h] at h38; exact absurd h38 (by decide)
    rw [cIf_neg hncr] at hQ
    have hpre : rn_pre k nn m st rest := ⟨b3, Nat.not_lt.mp (fun h => hncr (Or.inl h)), Nat.not_lt.mp (fun h => hncr (Or.inr (Or.inl h))), fun h => Classical.byContradiction (fun h9 => hncr (Or.inr (Or.inr (Or.inl ⟨h, h9⟩)))), fun h => by obtain ⟨j, j1, j2, j3⟩ : ∃ j, j < m ∧ nn = nI j ∧ (S j).1.length ≠ 0 := Classical.byContradiction (fun h9 => hncr (Or.inr (Or.inr (Or.inr ⟨h, h9⟩)))); exact ⟨⟨j, j1, j2⟩, by omega⟩, hm, by omega, rn_iv_6 hiv⟩
    refine go_aload_n 1 d_Ma_step_43 rfl rfl ?_
    refine go_iload_n 3 d_Ma_step_44 rfl rfl ?_
    refine go_iconst (v := 1) d_Ma_step_45 rfl ?_
    refine go_iadd d_Ma_step_46 ?_
    refine go_putI d_Ma_step_47 f_Ma_59 (by assumption) ?_
    refine go_aload_n 0 d_Ma_step_50 rfl rfl ?_
    refine go_aload_n 1 d_Ma_step_51 rfl rfl ?_
    refine go_aload_n 2 d_Ma_step_52 rfl rfl ?_
    refine go_getR d_Ma_step_53 f_Ma_69 (by assumption) (by assumption) ?_
    refine go_iload_n 3 d_Ma_step_56 rfl rfl ?_
    refine go_iald (q) d_Ma_step_57 (by assumption) (rfl) (by omega) (by decide) ?_
    rw [show va_up I (333 + 3 * rest.length) (va_up (I (333 + 3 * rest.length)) 4 (nI q + 1)) (2 + 82 * m + 1) q = nI k by rw [gw_up_ne (by omega)]; exact b1]
    refine go_aload_n 2 d_Ma_step_58 rfl rfl ?_
    refine go_getR d_Ma_step_59 f_Ma_74 (by assumption) (by assumption) ?_
    refine go_iload_n 3 d_Ma_step_62 rfl rfl ?_
    refine go_iald (q) d_Ma_step_63 (by assumption) (rfl) (by omega) (by decide) ?_
    rw [show va_up I (333 + 3 * rest.length) (va_up (I (333 + 3 * rest.length)) 4 (nI q + 1)) (2 + 82 * m + 2) q = nn by rw [gw_up_ne (by omega)]; exact b2]
    have hk1 : ∀ z, z ≠ 333 + 3 * rest.length → va_up I (333 + 3 * rest.length) (va_up (I (333 + 3 * rest.length)) 4 (nI q + 1)) z = I z := fun z hz => gw_up_ne hz
    have hf1 : fr_at (va_up I (333 + 3 * rest.length) (va_up (I (333 + 3 * rest.length)) 4 (nI q + 1))) (333 + 3 * rest.length) (m, nI q + 1, st, loc) := ⟨by rw [gw_up_eq, gw_up_ne (by decide)]; exact f1, f2, by rw [gw_up_eq, gw_up_ne (by decide)]; exact f3, by rw [gw_up_eq, gw_up_eq], by rw [gw_up_ne (by omega)]; exact f5, fun j hj => by rw [gw_up_ne (by omega)]; exact f6 j hj⟩
    have hr1 : fs_at (va_up I (333 + 3 * rest.length) (va_up (I (333 + 3 * rest.length)) 4 (nI q + 1))) rest := hr.kept (fun z a b => hk1 z (by omega))
    have e330 := hk1 330 (by omega)
    have e332 := hk1 332 (by omega)
    refine go_V3 d_Ma_step_64 k_Ma_77 (by assumption) (Nat.le_of_ble_eq_true rfl) (c_Ma_perform (inp := inp) (u := u) (wd := wd) (dp := dp) hma0 hpre ⟨hf1, hr1⟩ (by rw [e330]; exact h2) (by rw [e330]; exact h5) hu (by rw [e330]; exact h4) h12 (fun j v hv => by rw [e332]; exact hi j v hv) (by rw [e330]; exact h7) (by rw [e330]; exact h8) (fun I1 hI1 => ?_))
    obtain ⟨p1, p2, p3, p4, p5, p6, p7, p8⟩ := hI1
    have k8 : ∀ z, z < 330 ∨ z = 331 ∨ z = 332 ∨ 345 ≤ z → I1 z = I z := fun z hz => by rw [p8 z hz]; exact hk1 z (by omega)
    refine go_istore d_Ma_step_67 (Nat.le_of_ble_eq_true rfl) ?_
    refine go_iload d_Ma_step_69 rfl ?_
    refine go_if_eq 77 d_Ma_step_71 rfl (fun h71 => ?_) (fun h71 => ?_)
    · obtain ⟨z1, z2, z3⟩ := p1 h71
      obtain ⟨⟨f', r', hfe, hiv'⟩, hu'⟩ := rn_do_ok hpre f2 hiv hu h71
      rw [if_pos h71] at hQ
      rw [hfe] at z1 z2
      simp only [hfe] at hQ
      have hl' := rn_iv_lt hiv'
      have hrf' := (hfr r'.length (by omega)).1
      have so' := (hma0.fr (i := r'.length) (by omega)).1
      have hf3' := z1.1.2.2.1
      have hf4' := z1.1.2.2.2.1
      obtain ⟨hrm', hme'⟩ := hcc.2.2.2 f'.1 (by omega)
      have sm' := hme'.1
      obtain ⟨w', gg1, gg2, gg3, gg4⟩ := hc f'.1 (by omega)
      have gg2' : co_at I1 (2 + 82 * f'.1) (S f'.1).1 := gg2.kept (by rw [k8 _ (by omega)]) (k8 _ (by omega)) (k8 _ (by omega))
      refine go_aload_n 0 d_Ma_step_77 rfl rfl ?_
      refine go_getR d_Ma_step_78 f_Ma_11 (by assumption) (by assumption) ?_
      refine go_aload_n 0 d_Ma_step_81 rfl rfl ?_
      refine go_getI d_Ma_step_82 f_Ma_45 (by assumption) ?_
      refine go_aald (t := 3) (r'.length) d_Ma_step_85 (by assumption) (by decide) (z2) (by omega) (by decide) (by assumption) ?_
      refine go_astore d_Ma_step_86 (Nat.le_of_ble_eq_true rfl) ?_
      refine go_aload_n 0 d_Ma_step_88 rfl rfl ?_
      refine go_getR d_Ma_step_89 f_Ma_21 (by assumption) (by assumption) ?_
      refine go_aload d_Ma_step_92 rfl ?_
      refine go_getI d_Ma_step_94 f_Ma_56 (by assumption) ?_
      refine go_aald (t := 0) (f'.1) d_Ma_step_97 (by assumption) (by decide) (hf3') (by omega) (by decide) (by assumption) ?_
      refine go_aload d_Ma_step_98 rfl ?_
      refine go_getI d_Ma_step_100 f_Ma_59 (by assumption) ?_
      rw [hf4']
      refine go_V1 d_Ma_step_103 k_Ma_81 (by assumption) (Nat.le_of_ble_eq_true rfl) (c_Me_hasPlace hme' gg2' (fun b9 hb9 => ?_))
      refine go_if_eq 113 d_Ma_step_106 rfl (fun h106 => ?_) (fun h106 => ?_)
      · refine go_iconst (v := 3) d_Ma_step_113 rfl ?_
        first
          | (have hv := hb9.mp (bI_n0.mp h106)
             rw [cIf_pos hv] at hQ
             obtain ⟨q', hq', hqe⟩ := hv
             refine go_iret d_Ma_step_114 rfl ?_
             rw [← h71]
             exact hQ I1 ⟨fun _ => ⟨by rw [hfe]; exact z1, by rw [hfe]; exact z2, z3, f'.1, q', f'.2.2.1, f'.2.2.2, r', by rw [hfe, ← hqe], hq', hiv', hu'⟩, p2, p3, p4, fun h => ⟨by rw [p5 h, e330], rn_do_ret h⟩, by rw [p6, e330], by rw [p7, e330], k8⟩)
          | (have hv : ¬ ∃ q, q < (S f'.1).1.length ∧ f'.2.1 = nI q := fun h => by rw [hb9.mpr h] at h106; exact absurd h106 (by decide)
             rw [cIf_neg hv] at hQ
             exact go_iret d_Ma_step_114 rfl (hQ I1 ⟨fun h => absurd h (show ¬ (3 : Int32) = 0 by decide), p2, p3, fun h => absurd h (show ¬ (3 : Int32) = 1 by decide), fun _ => ⟨by rw [p5 (by rw [h71]; decide), e330], rfl⟩, by rw [p6, e330], by rw [p7, e330], k8⟩))
      · refine go_iconst (v := 0) d_Ma_step_109 rfl ?_
        refine go_goto 114 d_Ma_step_110 rfl ?_
        first
          | (have hv := hb9.mp (bI_n0.mp h106)
             rw [cIf_pos hv] at hQ
             obtain ⟨q', hq', hqe⟩ := hv
             refine go_iret d_Ma_step_114 rfl ?_
             rw [← h71]
             exact hQ I1 ⟨fun _ => ⟨by rw [hfe]; exact z1, by rw [hfe]; exact z2, z3, f'.1, q', f'.2.2.1, f'.2.2.2, r', by rw [hfe, ← hqe], hq', hiv', hu'⟩, p2, p3, p4, fun h => ⟨by rw [p5 h, e330], rn_do_ret h⟩, by rw [p6, e330], by rw [p7, e330], k8⟩)
          | (have hv : ¬ ∃ q, q < (S f'.1).1.length ∧ f'.2.1 = nI q := fun h => by rw [hb9.mpr h] at h106; exact absurd h106 (by decide)
             rw [cIf_neg hv] at hQ
             exact go_iret d_Ma_step_114 rfl (hQ I1 ⟨fun h => absurd h (show ¬ (3 : Int32) = 0 by decide), p2, p3, fun h => absurd h (show ¬ (3 : Int32) = 1 by decide), fun _ => ⟨by rw [p5 (by rw [h71]; decide), e330], rfl⟩, by rw [p6, e330], by rw [p7, e330], k8⟩))
    · refine go_iload d_Ma_step_74 rfl ?_
      rw [if_neg h71] at hQ
      exact go_iret d_Ma_step_76 rfl (hQ I1 ⟨fun h => absurd h h71, p2, p3, p4, fun h => ⟨by rw [p5 h, e330], rn_do_ret h⟩, by rw [p6, e330], by rw [p7, e330], k8⟩)
  · refine go_iconst (v := 3) d_Ma_step_41 rfl ?_
    have hcr := hb.mp (bI_n0.mp h38)
    rw [cIf_pos hcr] at hQ
    exact go_iret d_Ma_step_42 rfl (hQ I ⟨fun h => absurd h (show ¬ (3 : Int32) = 0 by decide), h7, h8, fun h => absurd h (show ¬ (3 : Int32) = 1 by decide), fun _ => ⟨rfl, rfl⟩, rfl, rfl, fun _ _ => rfl⟩)
end RU
