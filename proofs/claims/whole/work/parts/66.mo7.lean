/-! the reference: choose, work -/
/-- what work does to stack, locals, inputs read and words; none where it traps -/
def mo_wk (inp : List Int32) (k : Nat) (nn : Int32) (st : List Int32) (loc : Nat → Int32) (u : Nat) (wd : Int32) : Option (List Int32 × (Nat → Int32) × Nat × Int32) := match k, st with
  | 0, st => some (nn :: st, loc, u, wd)
  | 1, st => some (loc nn.toNatClampNeg :: st, loc, u, wd)
  | 2, v :: st => some (st, va_up loc nn.toNatClampNeg v, u, wd)
  | 3, y :: x :: st => if rn_val (y + x) then some ((y + x) :: st, loc, u, wd) else none
  | 4, y :: x :: st => if rn_val (-y + x) then some ((-y + x) :: st, loc, u, wd) else none
  | 5, st => if rn_val (loc 0 + nn) then some (st, va_up loc 0 (loc 0 + nn), u, wd) else none
  | 6, st => if rn_val (loc 1 + nn) then some (st, va_up loc 1 (loc 1 + nn), u, wd) else none
  | 10, v :: st => if v < 0 ∨ 1000000000 < wd + v + 2 then none else some (st, loc, u, wd + (v + 2))
  | 13, st => (match inp[u]? with
    | none => some (0 :: st, loc, u, wd)
    | some v => some (v :: st, loc, u + 1, wd))
  | 14, _ :: st => some (st, loc, u, wd)
  | _, st => some (st, loc, u, wd)
section MO
variable {d n : Nat} {sh : Nat → Nat × Nat} {X : Nat × (Nat → Int32)} {R : Nat → Nat → Option Nat} {I : Nat → Nat → Int32} {L : Nat → Nat → Int64} {Q : Option Value → gw_Mem → Prop}
theorem c_Mo_fits {v : Int32} {M : gw_Mem} (hQ : ∀ b : Int32, (b ≠ 0 ↔ rn_val v = true) → (b = 0 ∨ b = 1) → Q (some (.int b)) M) : gw_Call y_Mo_fits (d + 1) 0 0 [.long v.toInt64] M Q := by
  refine gw_call o_Mo_fits (Nat.le_of_ble_eq_true rfl) ?_
  refine go_lload_n 0 d_Mo_fits_0 rfl rfl ?_
  refine go_ldc2 d_Mo_fits_1 i_Mo_222 ?_
  refine go_ldc2 d_Mo_fits_4 i_Mo_224 ?_
  refine go_S3 d_Mo_fits_7 k_Mo_86 (Nat.le_of_ble_eq_true rfl) (c_Mo_in (l := -1000000) (h := 1000000) rfl rfl (fun b1 k1 z1 => ?_))
  exact go_zret d_Mo_fits_10 rfl (z1) (hQ b1 (k1.trans rn_val_iff.symm) z1)
theorem c_Mo_choose {i m : Nat} {pl p x y nn : Int32} {st : List Int32} {loc : Nat → Int32} (b : Bool) (hp : pt_Mo sh R) (hi : i < 4) (hf : mf_fr I i pl (m, p, y :: x :: st, loc)) (hQ : ∀ I', mf_fr I' i pl (m, p, st, loc) → (∀ i', i' ≠ i → mf_eq I I' i') → (∀ q, q ≠ 555 → I' q = I q) → Q (some (.int (if decide (x < y) = b then nn else pl + 1))) (n, sh, X, R, I', L)) : gw_Call y_Mo_choose (d + 1) 0 0 [.ref 533, .int (nI i), .int (bI b), .int nn] (n, sh, X, R, I, L) Q := by
  have hp0 := hp
  obtain ⟨s533, s534, s535, s536, s537, s538, s539, s540, s541, s542, s543, s544, s545, s546, s547, s548, s549, s550, s551, s552, s553, s554, s555, s556, s557, r534, r535, r536, r537, r538, r539, r540, r541, r542, r543, r544, r545, r546, r547, r548, r549, r550, r551, r552, r553, r554, r555, r556, r557⟩ := hp
  refine gw_call o_Mo_choose (Nat.le_of_ble_eq_true rfl) ?_
  refine go_aload_n 0 d_Mo_choose_0 rfl rfl ?_
  refine go_iload_n 1 d_Mo_choose_1 rfl rfl ?_
  refine go_V1 d_Mo_choose_2 k_Mo_267 (by assumption) (Nat.le_of_ble_eq_true rfl) (c_Mo_take hp0 hi hf (fun I1 f1 f2 f3 => ?_))
  refine go_istore d_Mo_choose_5 (Nat.le_of_ble_eq_true rfl) ?_
  refine go_aload_n 0 d_Mo_choose_7 rfl rfl ?_
  refine go_iload_n 1 d_Mo_choose_8 rfl rfl ?_
  refine go_V1 d_Mo_choose_9 k_Mo_267 (by assumption) (Nat.le_of_ble_eq_true rfl) (c_Mo_take hp0 hi f1 (fun I2 g1 g2 g3 => ?_))
  refine go_istore d_Mo_choose_12 (Nat.le_of_ble_eq_true rfl) ?_
  have hfin := hQ I2 g1 (fun i' hi' => (f2 i' hi').trans (g2 i' hi')) (fun q hq => by rw [g3 q hq, f3 q hq])
  have hpl : I2 554 i = pl := g1.2.1
  cases b with
  | true =>
    by_cases hxy : x < y
    · rw [if_pos (by simp [hxy])] at hfin
      refine go_iload d_Mo_choose_14 rfl ?_
      refine go_iload d_Mo_choose_16 rfl ?_
      refine go_icmp_ge 25 d_Mo_choose_18 rfl (fun hn => absurd hn (Int32.not_le.mpr hxy)) (fun _ => ?_)
      refine go_iconst (v := 1) d_Mo_choose_21 rfl ?_
      refine go_goto 26 d_Mo_choose_22 rfl ?_
      refine go_iload_n 2 d_Mo_choose_26 rfl rfl ?_
      refine go_icmp_ne 34 d_Mo_choose_27 rfl (fun hn => absurd hn (by decide)) (fun _ => ?_)
      refine go_iload_n 3 d_Mo_choose_30 rfl rfl ?_
      refine go_goto 42 d_Mo_choose_31 rfl ?_
      exact go_iret d_Mo_choose_42 rfl (hfin)
    · rw [if_neg (by simp [hxy])] at hfin
      refine go_iload d_Mo_choose_14 rfl ?_
      refine go_iload d_Mo_choose_16 rfl ?_
      refine go_icmp_ge 25 d_Mo_choose_18 rfl (fun _ => ?_) (fun hn => absurd (Int32.not_lt.mp hxy) hn)
      refine go_iconst (v := 0) d_Mo_choose_25 rfl ?_
      refine go_iload_n 2 d_Mo_choose_26 rfl rfl ?_
      refine go_icmp_ne 34 d_Mo_choose_27 rfl (fun _ => ?_) (fun hn => by first | exact absurd hn (by decide) | exact absurd (by decide) hn)
      refine go_aload_n 0 d_Mo_choose_34 rfl rfl ?_
      refine go_getR d_Mo_choose_35 f_Mo_72 (by assumption) (by assumption) ?_
      refine go_iload_n 1 d_Mo_choose_38 rfl rfl ?_
      refine go_iald (i) d_Mo_choose_39 (by assumption) (rfl) (hi) (by decide) ?_
      refine go_iconst (v := 1) d_Mo_choose_40 rfl ?_
      refine go_iadd d_Mo_choose_41 ?_
      exact go_iret d_Mo_choose_42 rfl (by rw [hpl]; exact hfin)
  | false =>
    by_cases hxy : x < y
    · rw [if_neg (by simp [hxy])] at hfin
      refine go_iload d_Mo_choose_14 rfl ?_
      refine go_iload d_Mo_choose_16 rfl ?_
      refine go_icmp_ge 25 d_Mo_choose_18 rfl (fun hn => absurd hn (Int32.not_le.mpr hxy)) (fun _ => ?_)
      refine go_iconst (v := 1) d_Mo_choose_21 rfl ?_
      refine go_goto 26 d_Mo_choose_22 rfl ?_
      refine go_iload_n 2 d_Mo_choose_26 rfl rfl ?_
      refine go_icmp_ne 34 d_Mo_choose_27 rfl (fun _ => ?_) (fun hn => by first | exact absurd hn (by decide) | exact absurd (by decide) hn)
      refine go_aload_n 0 d_Mo_choose_34 rfl rfl ?_
      refine go_getR d_Mo_choose_35 f_Mo_72 (by assumption) (by assumption) ?_
      refine go_iload_n 1 d_Mo_choose_38 rfl rfl ?_
      refine go_iald (i) d_Mo_choose_39 (by assumption) (rfl) (hi) (by decide) ?_
      refine go_iconst (v := 1) d_Mo_choose_40 rfl ?_
      refine go_iadd d_Mo_choose_41 ?_
      exact go_iret d_Mo_choose_42 rfl (by rw [hpl]; exact hfin)
    · rw [if_pos (by simp [hxy])] at hfin
      refine go_iload d_Mo_choose_14 rfl ?_
      refine go_iload d_Mo_choose_16 rfl ?_
      refine go_icmp_ge 25 d_Mo_choose_18 rfl (fun _ => ?_) (fun hn => absurd (Int32.not_lt.mp hxy) hn)
      refine go_iconst (v := 0) d_Mo_choose_25 rfl ?_
      refine go_iload_n 2 d_Mo_choose_26 rfl rfl ?_
      refine go_icmp_ne 34 d_Mo_choose_27 rfl (fun hn => absurd hn (by decide)) (fun _ => ?_)
      refine go_iload_n 3 d_Mo_choose_30 rfl rfl ?_
      refine go_goto 42 d_Mo_choose_31 rfl ?_
      exact go_iret d_Mo_choose_42 rfl (hfin)
theorem c_Mo_work {inp : List Int32} {k i m u t : Nat} {nn pl p wd : Int32} {st : List Int32} {loc : Nat → Int32} (hp : pt_Mo sh R) (hi : i < 4) (hf : mf_fr I i pl (m, p, st, loc)) (hk : k < 15) (hk2 : k ≠ 11 ∧ k ≠ 12) (htk : k = 7 ∨ k = 8 ∨ k = 9 ∨ rn_tk k ≤ st.length) (hro : (k = 0 ∨ k = 1 ∨ k = 13) → st.length < 6) (h12 : (k = 1 ∨ k = 2) → ∃ j, j < 4 ∧ nn = nI j) (hus : us_at I inp u t) (ht : t ≤ 4000) (hwd : I 533 30 = wd)
    (hQ1 : ∀ st' loc' u' wd' I', mo_wk inp k nn st loc u wd = some (st', loc', u', wd') → mf_fr I' i pl (m, p, st', loc') → (∀ i', i' ≠ i → mf_eq I I' i') → us_at I' inp u' (t + 1) → I' 533 30 = wd' → (∀ j, j ≠ 28 → j ≠ 30 → I' 533 j = I 533 j) → (∀ q, q ≠ 533 → q ≠ 555 → q ≠ 556 → q ≠ 557 → I' q = I q) → Q (some (.int 1)) (n, sh, X, R, I', L))
    (hQ0 : mo_wk inp k nn st loc u wd = none → ∀ I', (∀ j, j ≠ 28 → I' 533 j = I 533 j) → (∀ q, q ≠ 533 → q ≠ 555 → q ≠ 556 → q ≠ 557 → I' q = I q) → Q (some (.int 0)) (n, sh, X, R, I', L)) : gw_Call y_Mo_work (d + 2) 0 0 [.ref 533, .int (nI i), .int (nI k), .int nn] (n, sh, X, R, I, L) Q := by
  have hp0 := hp
  obtain ⟨s533, s534, s535, s536, s537, s538, s539, s540, s541, s542, s543, s544, s545, s546, s547, s548, s549, s550, s551, s552, s553, s554, s555, s556, s557, r534, r535, r536, r537, r538, r539, r540, r541, r542, r543, r544, r545, r546, r547, r548, r549, r550, r551, r552, r553, r554, r555, r556, r557⟩ := hp
  obtain ⟨a1, a2, a3, a4, a5, a6⟩ := id hf
  dsimp only at a1 a2 a3 a4 a5 a6
  have one : (k = 7 ∨ k = 8 ∨ k = 9 ∨ 1 ≤ st.length) → k ≠ 7 → k ≠ 8 → k ≠ 9 → ∃ v s, st = v :: s := fun h h7 h8 h9 => by cases st with | nil => exact absurd h (by simp; omega) | cons v s => exact ⟨v, s, rfl⟩
  have two : (k = 7 ∨ k = 8 ∨ k = 9 ∨ 2 ≤ st.length) → k ≠ 7 → k ≠ 8 → k ≠ 9 → ∃ y x s, st = y :: x :: s := fun h h7 h8 h9 => by cases st with | nil => exact absurd h (by simp; omega) | cons y s => cases s with | nil => exact absurd h (by simp; omega) | cons x s => exact ⟨y, x, s, rfl⟩
  refine gw_call o_Mo_work (Nat.le_of_ble_eq_true rfl) ?_
  rcases (show k = 0 ∨ k = 1 ∨ k = 2 ∨ k = 3 ∨ k = 4 ∨ k = 5 ∨ k = 6 ∨ k = 7 ∨ k = 8 ∨ k = 9 ∨ k = 10 ∨ k = 13 ∨ k = 14 by clear htk hro h12 hQ1 hQ0 one two; omega) with rfl | rfl | rfl | rfl | rfl | rfl | rfl | rfl | rfl | rfl | rfl | rfl | rfl
  · skip
    refine go_iload_n 2 d_Mo_work_0 rfl rfl ?_
    refine go_if_ne 10 d_Mo_work_1 rfl (fun hn => absurd hn (by decide)) (fun _ => ?_)
    refine go_aload_n 0 d_Mo_work_4 rfl rfl ?_
    refine go_iload_n 1 d_Mo_work_5 rfl rfl ?_
    refine go_iload_n 3 d_Mo_work_6 rfl rfl ?_
    refine go_V2 d_Mo_work_7 k_Mo_280 (by assumption) (Nat.le_of_ble_eq_true rfl) (c_Mo_give hp0 hi hf (hro (by decide)) (fun I1 f1 f2 f3 => ?_))
    refine go_iload_n 2 d_Mo_work_10 rfl rfl ?_
    refine go_iconst (v := 1) d_Mo_work_11 rfl ?_
    refine go_icmp_ne 30 d_Mo_work_12 rfl (fun _ => ?_) (fun hn => by first | exact absurd hn (by decide) | exact absurd (by decide) hn)
    refine go_iload_n 2 d_Mo_work_30 rfl rfl ?_
    refine go_iconst (v := 2) d_Mo_work_31 rfl ?_
    refine go_icmp_ne 50 d_Mo_work_32 rfl (fun _ => ?_) (fun hn => by first | exact absurd hn (by decide) | exact absurd (by decide) hn)
    refine go_iload_n 2 d_Mo_work_50 rfl rfl ?_
    refine go_bipush (v := 14) d_Mo_work_51 rfl ?_
    refine go_icmp_ne 62 d_Mo_work_53 rfl (fun _ => ?_) (fun hn => by first | exact absurd hn (by decide) | exact absurd (by decide) hn)
    refine go_iload_n 2 d_Mo_work_62 rfl rfl ?_
    refine go_bipush (v := 13) d_Mo_work_63 rfl ?_
    refine go_icmp_ne 107 d_Mo_work_65 rfl (fun _ => ?_) (fun hn => by first | exact absurd hn (by decide) | exact absurd (by decide) hn)
    refine go_iload_n 2 d_Mo_work_107 rfl rfl ?_
    refine go_iconst (v := 3) d_Mo_work_108 rfl ?_
    refine go_icmp_eq 117 d_Mo_work_109 rfl (fun hn => absurd hn (by decide)) (fun _ => ?_)
    refine go_iload_n 2 d_Mo_work_112 rfl rfl ?_
    refine go_iconst (v := 4) d_Mo_work_113 rfl ?_
    refine go_icmp_ne 169 d_Mo_work_114 rfl (fun _ => ?_) (fun hn => by first | exact absurd hn (by decide) | exact absurd (by decide) hn)
    refine go_iload_n 2 d_Mo_work_169 rfl rfl ?_
    refine go_iconst (v := 5) d_Mo_work_170 rfl ?_
    refine go_icmp_eq 180 d_Mo_work_171 rfl (fun hn => absurd hn (by decide)) (fun _ => ?_)
    refine go_iload_n 2 d_Mo_work_174 rfl rfl ?_
    refine go_bipush (v := 6) d_Mo_work_175 rfl ?_
    refine go_icmp_ne 221 d_Mo_work_177 rfl (fun _ => ?_) (fun hn => by first | exact absurd hn (by decide) | exact absurd (by decide) hn)
    refine go_iload_n 2 d_Mo_work_221 rfl rfl ?_
    refine go_bipush (v := 10) d_Mo_work_222 rfl ?_
    refine go_icmp_ne 269 d_Mo_work_224 rfl (fun _ => ?_) (fun hn => by first | exact absurd hn (by decide) | exact absurd (by decide) hn)
    refine go_iconst (v := 1) d_Mo_work_269 rfl ?_
    exact go_zret d_Mo_work_270 rfl (by first | exact Or.inl rfl | exact Or.inr rfl | assumption) (hQ1 _ _ _ _ I1 rfl f1 f2 (hus.kept (by omega) (by rw [f3 _ (by decide) (by decide)]) (by rw [f3 _ (by decide) (by decide)]) (f3 _ (by decide) (by decide))) (by rw [f3 _ (by decide) (by decide)]; exact hwd) (fun j _ _ => by rw [f3 _ (by decide) (by decide)]) (fun q _ a _ b => f3 q a b))
  · obtain ⟨j, hj, rfl⟩ := h12 (Or.inl rfl)
    refine go_iload_n 2 d_Mo_work_0 rfl rfl ?_
    refine go_if_ne 10 d_Mo_work_1 rfl (fun _ => ?_) (fun hn => by first | exact absurd hn (by decide) | exact absurd (by decide) hn)
    refine go_iload_n 2 d_Mo_work_10 rfl rfl ?_
    refine go_iconst (v := 1) d_Mo_work_11 rfl ?_
    refine go_icmp_ne 30 d_Mo_work_12 rfl (fun hn => absurd hn (by decide)) (fun _ => ?_)
    refine go_aload_n 0 d_Mo_work_15 rfl rfl ?_
    refine go_iload_n 1 d_Mo_work_16 rfl rfl ?_
    refine go_aload_n 0 d_Mo_work_17 rfl rfl ?_
    refine go_getR d_Mo_work_18 f_Mo_78 (by assumption) (by assumption) ?_
    refine go_iconst (v := 4) d_Mo_work_21 rfl ?_
    refine go_iload_n 1 d_Mo_work_22 rfl rfl ?_
    refine go_imul d_Mo_work_23 ?_
    refine go_iload_n 3 d_Mo_work_24 rfl rfl ?_
    refine go_iadd d_Mo_work_25 ?_
    refine go_iald (4 * i + j) d_Mo_work_26 (by assumption) (ix (a := 4)) (by omega) (by decide) ?_
    rw [a6 j hj]
    refine go_V2 d_Mo_work_27 k_Mo_280 (by assumption) (Nat.le_of_ble_eq_true rfl) (c_Mo_give hp0 hi hf (hro (by decide)) (fun I1 f1 f2 f3 => ?_))
    refine go_iload_n 2 d_Mo_work_30 rfl rfl ?_
    refine go_iconst (v := 2) d_Mo_work_31 rfl ?_
    refine go_icmp_ne 50 d_Mo_work_32 rfl (fun _ => ?_) (fun hn => by first | exact absurd hn (by decide) | exact absurd (by decide) hn)
    refine go_iload_n 2 d_Mo_work_50 rfl rfl ?_
    refine go_bipush (v := 14) d_Mo_work_51 rfl ?_
    refine go_icmp_ne 62 d_Mo_work_53 rfl (fun _ => ?_) (fun hn => by first | exact absurd hn (by decide) | exact absurd (by decide) hn)
    refine go_iload_n 2 d_Mo_work_62 rfl rfl ?_
    refine go_bipush (v := 13) d_Mo_work_63 rfl ?_
    refine go_icmp_ne 107 d_Mo_work_65 rfl (fun _ => ?_) (fun hn => by first | exact absurd hn (by decide) | exact absurd (by decide) hn)
    refine go_iload_n 2 d_Mo_work_107 rfl rfl ?_
    refine go_iconst (v := 3) d_Mo_work_108 rfl ?_
    refine go_icmp_eq 117 d_Mo_work_109 rfl (fun hn => absurd hn (by decide)) (fun _ => ?_)
    refine go_iload_n 2 d_Mo_work_112 rfl rfl ?_
    refine go_iconst (v := 4) d_Mo_work_113 rfl ?_
    refine go_icmp_ne 169 d_Mo_work_114 rfl (fun _ => ?_) (fun hn => by first | exact absurd hn (by decide) | exact absurd (by decide) hn)
    refine go_iload_n 2 d_Mo_work_169 rfl rfl ?_
    refine go_iconst (v := 5) d_Mo_work_170 rfl ?_
    refine go_icmp_eq 180 d_Mo_work_171 rfl (fun hn => absurd hn (by decide)) (fun _ => ?_)
    refine go_iload_n 2 d_Mo_work_174 rfl rfl ?_
    refine go_bipush (v := 6) d_Mo_work_175 rfl ?_
    refine go_icmp_ne 221 d_Mo_work_177 rfl (fun _ => ?_) (fun hn => by first | exact absurd hn (by decide) | exact absurd (by decide) hn)
    refine go_iload_n 2 d_Mo_work_221 rfl rfl ?_
    refine go_bipush (v := 10) d_Mo_work_222 rfl ?_
    refine go_icmp_ne 269 d_Mo_work_224 rfl (fun _ => ?_) (fun hn => by first | exact absurd hn (by decide) | exact absurd (by decide) hn)
    refine go_iconst (v := 1) d_Mo_work_269 rfl ?_
    exact go_zret d_Mo_work_270 rfl (by first | exact Or.inl rfl | exact Or.inr rfl | assumption) (hQ1 _ _ _ _ I1 (by show some (loc (nI j).toNatClampNeg :: st, loc, u, wd) = _; rw [nI_clamp (by omega)]) f1 f2 (hus.kept (by omega) (by rw [f3 _ (by decide) (by decide)]) (by rw [f3 _ (by decide) (by decide)]) (f3 _ (by decide) (by decide))) (by rw [f3 _ (by decide) (by decide)]; exact hwd) (fun j _ _ => by rw [f3 _ (by decide) (by decide)]) (fun q _ a _ b => f3 q a b))
  · obtain ⟨j, hj, rfl⟩ := h12 (Or.inr rfl)
    obtain ⟨v, st1, rfl⟩ := one htk (by decide) (by decide) (by decide)
    refine go_iload_n 2 d_Mo_work_0 rfl rfl ?_
    refine go_if_ne 10 d_Mo_work_1 rfl (fun _ => ?_) (fun hn => by first | exact absurd hn (by decide) | exact absurd (by decide) hn)
    refine go_iload_n 2 d_Mo_work_10 rfl rfl ?_
    refine go_iconst (v := 1) d_Mo_work_11 rfl ?_
    refine go_icmp_ne 30 d_Mo_work_12 rfl (fun _ => ?_) (fun hn => by first | exact absurd hn (by decide) | exact absurd (by decide) hn)
    refine go_iload_n 2 d_Mo_work_30 rfl rfl ?_
    refine go_iconst (v := 2) d_Mo_work_31 rfl ?_
    refine go_icmp_ne 50 d_Mo_work_32 rfl (fun hn => absurd hn (by decide)) (fun _ => ?_)
    refine go_aload_n 0 d_Mo_work_35 rfl rfl ?_
    refine go_getR d_Mo_work_36 f_Mo_78 (by assumption) (by assumption) ?_
    refine go_iconst (v := 4) d_Mo_work_39 rfl ?_
    refine go_iload_n 1 d_Mo_work_40 rfl rfl ?_
    refine go_imul d_Mo_work_41 ?_
    refine go_iload_n 3 d_Mo_work_42 rfl rfl ?_
    refine go_iadd d_Mo_work_43 ?_
    refine go_aload_n 0 d_Mo_work_44 rfl rfl ?_
    refine go_iload_n 1 d_Mo_work_45 rfl rfl ?_
    refine go_V1 d_Mo_work_46 k_Mo_267 (by assumption) (Nat.le_of_ble_eq_true rfl) (c_Mo_take hp0 hi hf (fun I1 f1 f2 f3 => ?_))
    refine go_iast (4 * i + j) d_Mo_work_49 (by assumption) (ix (a := 4)) (by omega) (by decide) ?_
    refine go_iload_n 2 d_Mo_work_50 rfl rfl ?_
    refine go_bipush (v := 14) d_Mo_work_51 rfl ?_
    refine go_icmp_ne 62 d_Mo_work_53 rfl (fun _ => ?_) (fun hn => by first | exact absurd hn (by decide) | exact absurd (by decide) hn)
    refine go_iload_n 2 d_Mo_work_62 rfl rfl ?_
    refine go_bipush (v := 13) d_Mo_work_63 rfl ?_
    refine go_icmp_ne 107 d_Mo_work_65 rfl (fun _ => ?_) (fun hn => by first | exact absurd hn (by decide) | exact absurd (by decide) hn)
    refine go_iload_n 2 d_Mo_work_107 rfl rfl ?_
    refine go_iconst (v := 3) d_Mo_work_108 rfl ?_
    refine go_icmp_eq 117 d_Mo_work_109 rfl (fun hn => absurd hn (by decide)) (fun _ => ?_)
    refine go_iload_n 2 d_Mo_work_112 rfl rfl ?_
    refine go_iconst (v := 4) d_Mo_work_113 rfl ?_
    refine go_icmp_ne 169 d_Mo_work_114 rfl (fun _ => ?_) (fun hn => by first | exact absurd hn (by decide) | exact absurd (by decide) hn)
    refine go_iload_n 2 d_Mo_work_169 rfl rfl ?_
    refine go_iconst (v := 5) d_Mo_work_170 rfl ?_
    refine go_icmp_eq 180 d_Mo_work_171 rfl (fun hn => absurd hn (by decide)) (fun _ => ?_)
    refine go_iload_n 2 d_Mo_work_174 rfl rfl ?_
    refine go_bipush (v := 6) d_Mo_work_175 rfl ?_
    refine go_icmp_ne 221 d_Mo_work_177 rfl (fun _ => ?_) (fun hn => by first | exact absurd hn (by decide) | exact absurd (by decide) hn)
    refine go_iload_n 2 d_Mo_work_221 rfl rfl ?_
    refine go_bipush (v := 10) d_Mo_work_222 rfl ?_
    refine go_icmp_ne 269 d_Mo_work_224 rfl (fun _ => ?_) (fun hn => by first | exact absurd hn (by decide) | exact absurd (by decide) hn)
    refine go_iconst (v := 1) d_Mo_work_269 rfl ?_
    exact go_zret d_Mo_work_270 rfl (by first | exact Or.inl rfl | exact Or.inr rfl | assumption) (hQ1 st1 (va_up loc j v) u wd _ (by show some (st1, va_up loc (nI j).toNatClampNeg v, u, wd) = _; rw [nI_clamp (by omega)]) ⟨by simp (disch := omega) only [up2_eq, up2_ne]; exact f1.1, by simp (disch := omega) only [up2_eq, up2_ne]; exact f1.2.1, by simp (disch := omega) only [up2_eq, up2_ne]; exact f1.2.2.1, f1.2.2.2.1, f1.2.2.2.2.1.ptw f1.2.2.2.1 (fun j' hj' => by simp (disch := omega) only [up2_eq, up2_ne]), fun j' hj' => by by_cases he : j' = j; (subst he; simp (disch := omega) only [up2_eq, up2_ne]; show v = va_up loc j' v j'; rw [gw_up_eq]); (simp (disch := omega) only [up2_eq, up2_ne]; show _ = va_up loc j v j'; rw [gw_up_ne he]; exact f1.2.2.2.2.2 j' hj')⟩ (fun i' hi' => (f2 i' hi').trans ⟨by simp (disch := omega) only [up2_eq, up2_ne], by simp (disch := omega) only [up2_eq, up2_ne], by simp (disch := omega) only [up2_eq, up2_ne], fun j' hj' => by simp (disch := omega) only [up2_eq, up2_ne], fun j' hj' => by simp (disch := omega) only [up2_eq, up2_ne]⟩) (hus.kept (by omega) (by simp (disch := omega) only [up2_eq, up2_ne]; rw [f3 _ (by decide)]) (by simp (disch := omega) only [up2_eq, up2_ne]; rw [f3 _ (by decide)]) (by rw [gw_up_ne (by decide), f3 _ (by decide)])) (by simp (disch := omega) only [up2_eq, up2_ne]; rw [f3 _ (by decide)]; exact hwd) (fun j' _ _ => by simp (disch := omega) only [up2_eq, up2_ne]; rw [f3 _ (by decide)]) (fun q _ a b _ => by rw [gw_up_ne b, f3 q a]))
  · obtain ⟨y, x, st1, rfl⟩ := two htk (by decide) (by decide) (by decide)
    refine go_iload_n 2 d_Mo_work_0 rfl rfl ?_
    refine go_if_ne 10 d_Mo_work_1 rfl (fun _ => ?_) (fun hn => by first | exact absurd hn (by decide) | exact absurd (by decide) hn)
    refine go_iload_n 2 d_Mo_work_10 rfl rfl ?_
    refine go_iconst (v := 1) d_Mo_work_11 rfl ?_
    refine go_icmp_ne 30 d_Mo_work_12 rfl (fun _ => ?_) (fun hn => by first | exact absurd hn (by decide) | exact absurd (by decide) hn)
    refine go_iload_n 2 d_Mo_work_30 rfl rfl ?_
    refine go_iconst (v := 2) d_Mo_work_31 rfl ?_
    refine go_icmp_ne 50 d_Mo_work_32 rfl (fun _ => ?_) (fun hn => by first | exact absurd hn (by decide) | exact absurd (by decide) hn)
    refine go_iload_n 2 d_Mo_work_50 rfl rfl ?_
    refine go_bipush (v := 14) d_Mo_work_51 rfl ?_
    refine go_icmp_ne 62 d_Mo_work_53 rfl (fun _ => ?_) (fun hn => by first | exact absurd hn (by decide) | exact absurd (by decide) hn)
    refine go_iload_n 2 d_Mo_work_62 rfl rfl ?_
    refine go_bipush (v := 13) d_Mo_work_63 rfl ?_
    refine go_icmp_ne 107 d_Mo_work_65 rfl (fun _ => ?_) (fun hn => by first | exact absurd hn (by decide) | exact absurd (by decide) hn)
    refine go_iload_n 2 d_Mo_work_107 rfl rfl ?_
    refine go_iconst (v := 3) d_Mo_work_108 rfl ?_
    refine go_icmp_eq 117 d_Mo_work_109 rfl (fun _ => ?_) (fun hn => absurd (by decide) hn)
    refine go_aload_n 0 d_Mo_work_117 rfl rfl ?_
    refine go_iload_n 1 d_Mo_work_118 rfl rfl ?_
    refine go_V1 d_Mo_work_119 k_Mo_267 (by assumption) (Nat.le_of_ble_eq_true rfl) (c_Mo_take hp0 hi hf (fun I1 f1 f2 f3 => ?_))
    refine go_istore d_Mo_work_122 (Nat.le_of_ble_eq_true rfl) ?_
    refine go_aload_n 0 d_Mo_work_124 rfl rfl ?_
    refine go_iload_n 1 d_Mo_work_125 rfl rfl ?_
    refine go_V1 d_Mo_work_126 k_Mo_267 (by assumption) (Nat.le_of_ble_eq_true rfl) (c_Mo_take hp0 hi f1 (fun I2 g1 g2 g3 => ?_))
    refine go_istore d_Mo_work_129 (Nat.le_of_ble_eq_true rfl) ?_
    refine go_iload_n 2 d_Mo_work_131 rfl rfl ?_
    refine go_iconst (v := 3) d_Mo_work_132 rfl ?_
    refine go_icmp_ne 144 d_Mo_work_133 rfl (fun hn => absurd hn (by decide)) (fun _ => ?_)
    refine go_iload d_Mo_work_136 rfl ?_
    refine go_iload d_Mo_work_138 rfl ?_
    refine go_iadd d_Mo_work_140 ?_
    refine go_goto 149 d_Mo_work_141 rfl ?_
    rw [show x + y = y + x from Int32.add_comm x y]
    refine go_istore d_Mo_work_149 (Nat.le_of_ble_eq_true rfl) ?_
    refine go_iload d_Mo_work_151 rfl ?_
    refine go_i2l d_Mo_work_153 (rfl) ?_
    refine go_S1 d_Mo_work_154 k_Mo_283 (Nat.le_of_ble_eq_true rfl) (c_Mo_fits (fun b1 k1 z1 => ?_))
    refine go_if_ne 162 d_Mo_work_157 rfl (fun h157 => ?_) (fun h157 => ?_)
    · refine go_aload_n 0 d_Mo_work_162 rfl rfl ?_
      refine go_iload_n 1 d_Mo_work_163 rfl rfl ?_
      refine go_iload d_Mo_work_164 rfl ?_
      refine go_V2 d_Mo_work_166 k_Mo_280 (by assumption) (Nat.le_of_ble_eq_true rfl) (c_Mo_give hp0 hi g1 (by have : st1.length + 2 ≤ 6 := a4; omega) (fun I3 e1 e2 e3 => ?_))
      refine go_iload_n 2 d_Mo_work_169 rfl rfl ?_
      refine go_iconst (v := 5) d_Mo_work_170 rfl ?_
      refine go_icmp_eq 180 d_Mo_work_171 rfl (fun hn => absurd hn (by decide)) (fun _ => ?_)
      refine go_iload_n 2 d_Mo_work_174 rfl rfl ?_
      refine go_bipush (v := 6) d_Mo_work_175 rfl ?_
      refine go_icmp_ne 221 d_Mo_work_177 rfl (fun _ => ?_) (fun hn => by first | exact absurd hn (by decide) | exact absurd (by decide) hn)
      refine go_iload_n 2 d_Mo_work_221 rfl rfl ?_
      refine go_bipush (v := 10) d_Mo_work_222 rfl ?_
      refine go_icmp_ne 269 d_Mo_work_224 rfl (fun _ => ?_) (fun hn => by first | exact absurd hn (by decide) | exact absurd (by decide) hn)
      refine go_iconst (v := 1) d_Mo_work_269 rfl ?_
      exact go_zret d_Mo_work_270 rfl (by first | exact Or.inl rfl | exact Or.inr rfl | assumption) (hQ1 _ _ _ _ I3 (by show (if rn_val (y + x) = true then _ else _) = _; rw [if_pos (k1.mp h157)]) e1 (fun i' hi' => ((f2 i' hi').trans (g2 i' hi')).trans (e2 i' hi')) (hus.kept (by omega) (by rw [e3 _ (by decide) (by decide), g3 _ (by decide), f3 _ (by decide)]) (by rw [e3 _ (by decide) (by decide), g3 _ (by decide), f3 _ (by decide)]) (by rw [e3 _ (by decide) (by decide), g3 _ (by decide), f3 _ (by decide)])) (by rw [e3 _ (by decide) (by decide), g3 _ (by decide), f3 _ (by decide)]; exact hwd) (fun j _ _ => by rw [e3 _ (by decide) (by decide), g3 _ (by decide), f3 _ (by decide)]) (fun q _ a _ b => by rw [e3 q a b, g3 q a, f3 q a]))
    · refine go_iconst (v := 0) d_Mo_work_160 rfl ?_
      exact go_zret d_Mo_work_161 rfl (by first | exact Or.inl rfl | exact Or.inr rfl | assumption) (hQ0 (by show (if rn_val (y + x) = true then _ else _) = _; rw [if_neg (fun hh => k1.mpr hh h157)]) I2 (fun j _ => by rw [g3 _ (by decide), f3 _ (by decide)]) (fun q _ a _ _ => by rw [g3 q a, f3 q a]))
  · obtain ⟨y, x, st1, rfl⟩ := two htk (by decide) (by decide) (by decide)
    refine go_iload_n 2 d_Mo_work_0 rfl rfl ?_
    refine go_if_ne 10 d_Mo_work_1 rfl (fun _ => ?_) (fun hn => by first | exact absurd hn (by decide) | exact absurd (by decide) hn)
    refine go_iload_n 2 d_Mo_work_10 rfl rfl ?_
    refine go_iconst (v := 1) d_Mo_work_11 rfl ?_
    refine go_icmp_ne 30 d_Mo_work_12 rfl (fun _ => ?_) (fun hn => by first | exact absurd hn (by decide) | exact absurd (by decide) hn)
    refine go_iload_n 2 d_Mo_work_30 rfl rfl ?_
    refine go_iconst (v := 2) d_Mo_work_31 rfl ?_
    refine go_icmp_ne 50 d_Mo_work_32 rfl (fun _ => ?_) (fun hn => by first | exact absurd hn (by decide) | exact absurd (by decide) hn)
    refine go_iload_n 2 d_Mo_work_50 rfl rfl ?_
    refine go_bipush (v := 14) d_Mo_work_51 rfl ?_
    refine go_icmp_ne 62 d_Mo_work_53 rfl (fun _ => ?_) (fun hn => by first | exact absurd hn (by decide) | exact absurd (by decide) hn)
    refine go_iload_n 2 d_Mo_work_62 rfl rfl ?_
    refine go_bipush (v := 13) d_Mo_work_63 rfl ?_
    refine go_icmp_ne 107 d_Mo_work_65 rfl (fun _ => ?_) (fun hn => by first | exact absurd hn (by decide) | exact absurd (by decide) hn)
    refine go_iload_n 2 d_Mo_work_107 rfl rfl ?_
    refine go_iconst (v := 3) d_Mo_work_108 rfl ?_
    refine go_icmp_eq 117 d_Mo_work_109 rfl (fun hn => absurd hn (by decide)) (fun _ => ?_)
    refine go_iload_n 2 d_Mo_work_112 rfl rfl ?_
    refine go_iconst (v := 4) d_Mo_work_113 rfl ?_
    refine go_icmp_ne 169 d_Mo_work_114 rfl (fun hn => absurd hn (by decide)) (fun _ => ?_)
    refine go_aload_n 0 d_Mo_work_117 rfl rfl ?_
    refine go_iload_n 1 d_Mo_work_118 rfl rfl ?_
    refine go_V1 d_Mo_work_119 k_Mo_267 (by assumption) (Nat.le_of_ble_eq_true rfl) (c_Mo_take hp0 hi hf (fun I1 f1 f2 f3 => ?_))
    refine go_istore d_Mo_work_122 (Nat.le_of_ble_eq_true rfl) ?_
    refine go_aload_n 0 d_Mo_work_124 rfl rfl ?_
    refine go_iload_n 1 d_Mo_work_125 rfl rfl ?_
    refine go_V1 d_Mo_work_126 k_Mo_267 (by assumption) (Nat.le_of_ble_eq_true rfl) (c_Mo_take hp0 hi f1 (fun I2 g1 g2 g3 => ?_))
    refine go_istore d_Mo_work_129 (Nat.le_of_ble_eq_true rfl) ?_
    refine go_iload_n 2 d_Mo_work_131 rfl rfl ?_
    refine go_iconst (v := 3) d_Mo_work_132 rfl ?_
    refine go_icmp_ne 144 d_Mo_work_133 rfl (fun _ => ?_) (fun hn => by first | exact absurd hn (by decide) | exact absurd (by decide) hn)
    refine go_iload d_Mo_work_144 rfl ?_
    refine go_iload d_Mo_work_146 rfl ?_
    refine go_isub d_Mo_work_148 ?_
    rw [show x - y = -y + x by rw [Int32.sub_eq_add_neg, Int32.add_comm]]
    refine go_istore d_Mo_work_149 (Nat.le_of_ble_eq_true rfl) ?_
    refine go_iload d_Mo_work_151 rfl ?_
    refine go_i2l d_Mo_work_153 (rfl) ?_
    refine go_S1 d_Mo_work_154 k_Mo_283 (Nat.le_of_ble_eq_true rfl) (c_Mo_fits (fun b1 k1 z1 => ?_))
    refine go_if_ne 162 d_Mo_work_157 rfl (fun h157 => ?_) (fun h157 => ?_)
    · refine go_aload_n 0 d_Mo_work_162 rfl rfl ?_
      refine go_iload_n 1 d_Mo_work_163 rfl rfl ?_
      refine go_iload d_Mo_work_164 rfl ?_
      refine go_V2 d_Mo_work_166 k_Mo_280 (by assumption) (Nat.le_of_ble_eq_true rfl) (c_Mo_give hp0 hi g1 (by have : st1.length + 2 ≤ 6 := a4; omega) (fun I3 e1 e2 e3 => ?_))
      refine go_iload_n 2 d_Mo_work_169 rfl rfl ?_
      refine go_iconst (v := 5) d_Mo_work_170 rfl ?_
      refine go_icmp_eq 180 d_Mo_work_171 rfl (fun hn => absurd hn (by decide)) (fun _ => ?_)
      refine go_iload_n 2 d_Mo_work_174 rfl rfl ?_
      refine go_bipush (v := 6) d_Mo_work_175 rfl ?_
      refine go_icmp_ne 221 d_Mo_work_177 rfl (fun _ => ?_) (fun hn => by first | exact absurd hn (by decide) | exact absurd (by decide) hn)
      refine go_iload_n 2 d_Mo_work_221 rfl rfl ?_
      refine go_bipush (v := 10) d_Mo_work_222 rfl ?_
      refine go_icmp_ne 269 d_Mo_work_224 rfl (fun _ => ?_) (fun hn => by first | exact absurd hn (by decide) | exact absurd (by decide) hn)
      refine go_iconst (v := 1) d_Mo_work_269 rfl ?_
      exact go_zret d_Mo_work_270 rfl (by first | exact Or.inl rfl | exact Or.inr rfl | assumption) (hQ1 _ _ _ _ I3 (by show (if rn_val (-y + x) = true then _ else _) = _; rw [if_pos (k1.mp h157)]) e1 (fun i' hi' => ((f2 i' hi').trans (g2 i' hi')).trans (e2 i' hi')) (hus.kept (by omega) (by rw [e3 _ (by decide) (by decide), g3 _ (by decide), f3 _ (by decide)]) (by rw [e3 _ (by decide) (by decide), g3 _ (by decide), f3 _ (by decide)]) (by rw [e3 _ (by decide) (by decide), g3 _ (by decide), f3 _ (by decide)])) (by rw [e3 _ (by decide) (by decide), g3 _ (by decide), f3 _ (by decide)]; exact hwd) (fun j _ _ => by rw [e3 _ (by decide) (by decide), g3 _ (by decide), f3 _ (by decide)]) (fun q _ a _ b => by rw [e3 q a b, g3 q a, f3 q a]))
    · refine go_iconst (v := 0) d_Mo_work_160 rfl ?_
      exact go_zret d_Mo_work_161 rfl (by first | exact Or.inl rfl | exact Or.inr rfl | assumption) (hQ0 (by show (if rn_val (-y + x) = true then _ else _) = _; rw [if_neg (fun hh => k1.mpr hh h157)]) I2 (fun j _ => by rw [g3 _ (by decide), f3 _ (by decide)]) (fun q _ a _ _ => by rw [g3 q a, f3 q a]))
  · skip
    refine go_iload_n 2 d_Mo_work_0 rfl rfl ?_
    refine go_if_ne 10 d_Mo_work_1 rfl (fun _ => ?_) (fun hn => by first | exact absurd hn (by decide) | exact absurd (by decide) hn)
    refine go_iload_n 2 d_Mo_work_10 rfl rfl ?_
    refine go_iconst (v := 1) d_Mo_work_11 rfl ?_
    refine go_icmp_ne 30 d_Mo_work_12 rfl (fun _ => ?_) (fun hn => by first | exact absurd hn (by decide) | exact absurd (by decide) hn)
    refine go_iload_n 2 d_Mo_work_30 rfl rfl ?_
    refine go_iconst (v := 2) d_Mo_work_31 rfl ?_
    refine go_icmp_ne 50 d_Mo_work_32 rfl (fun _ => ?_) (fun hn => by first | exact absurd hn (by decide) | exact absurd (by decide) hn)
    refine go_iload_n 2 d_Mo_work_50 rfl rfl ?_
    refine go_bipush (v := 14) d_Mo_work_51 rfl ?_
    refine go_icmp_ne 62 d_Mo_work_53 rfl (fun _ => ?_) (fun hn => by first | exact absurd hn (by decide) | exact absurd (by decide) hn)
    refine go_iload_n 2 d_Mo_work_62 rfl rfl ?_
    refine go_bipush (v := 13) d_Mo_work_63 rfl ?_
    refine go_icmp_ne 107 d_Mo_work_65 rfl (fun _ => ?_) (fun hn => by first | exact absurd hn (by decide) | exact absurd (by decide) hn)
    refine go_iload_n 2 d_Mo_work_107 rfl rfl ?_
    refine go_iconst (v := 3) d_Mo_work_108 rfl ?_
    refine go_icmp_eq 117 d_Mo_work_109 rfl (fun hn => absurd hn (by decide)) (fun _ => ?_)
    refine go_iload_n 2 d_Mo_work_112 rfl rfl ?_
    refine go_iconst (v := 4) d_Mo_work_113 rfl ?_
    refine go_icmp_ne 169 d_Mo_work_114 rfl (fun _ => ?_) (fun hn => by first | exact absurd hn (by decide) | exact absurd (by decide) hn)
    refine go_iload_n 2 d_Mo_work_169 rfl rfl ?_
    refine go_iconst (v := 5) d_Mo_work_170 rfl ?_
    refine go_icmp_eq 180 d_Mo_work_171 rfl (fun _ => ?_) (fun hn => absurd (by decide) hn)
    refine go_aload_n 0 d_Mo_work_180 rfl rfl ?_
    refine go_getR d_Mo_work_181 f_Mo_78 (by assumption) (by assumption) ?_
    refine go_iconst (v := 4) d_Mo_work_184 rfl ?_
    refine go_iload_n 1 d_Mo_work_185 rfl rfl ?_
    refine go_imul d_Mo_work_186 ?_
    refine go_iload_n 2 d_Mo_work_187 rfl rfl ?_
    refine go_iadd d_Mo_work_188 ?_
    refine go_iconst (v := 5) d_Mo_work_189 rfl ?_
    refine go_isub d_Mo_work_190 ?_
    refine go_iald (4 * i + 5 - 5) d_Mo_work_191 (by assumption) (by rw [show (4 : Int32) * nI i + nI 5 = nI (4 * i + 5) from ix (a := 4)]; exact pk_sub (a := 4 * i + 5) (b := 5) (by omega)) (by omega) (by decide) ?_
    rw [show 4 * i + 5 - 5 = 4 * i + 0 by omega, a6 0 (by decide)]
    refine go_iload_n 3 d_Mo_work_192 rfl rfl ?_
    refine go_iadd d_Mo_work_193 ?_
    refine go_istore d_Mo_work_194 (Nat.le_of_ble_eq_true rfl) ?_
    refine go_iload d_Mo_work_196 rfl ?_
    refine go_i2l d_Mo_work_198 (rfl) ?_
    refine go_S1 d_Mo_work_199 k_Mo_283 (Nat.le_of_ble_eq_true rfl) (c_Mo_fits (fun b1 k1 z1 => ?_))
    refine go_if_ne 207 d_Mo_work_202 rfl (fun h202 => ?_) (fun h202 => ?_)
    · refine go_aload_n 0 d_Mo_work_207 rfl rfl ?_
      refine go_getR d_Mo_work_208 f_Mo_78 (by assumption) (by assumption) ?_
      refine go_iconst (v := 4) d_Mo_work_211 rfl ?_
      refine go_iload_n 1 d_Mo_work_212 rfl rfl ?_
      refine go_imul d_Mo_work_213 ?_
      refine go_iload_n 2 d_Mo_work_214 rfl rfl ?_
      refine go_iadd d_Mo_work_215 ?_
      refine go_iconst (v := 5) d_Mo_work_216 rfl ?_
      refine go_isub d_Mo_work_217 ?_
      refine go_iload d_Mo_work_218 rfl ?_
      refine go_iast (4 * i + 5 - 5) d_Mo_work_220 (by assumption) (by rw [show (4 : Int32) * nI i + nI 5 = nI (4 * i + 5) from ix (a := 4)]; exact pk_sub (a := 4 * i + 5) (b := 5) (by omega)) (by omega) (by decide) ?_
      rw [show 4 * i + 5 - 5 = 4 * i + 0 by omega]
      refine go_iload_n 2 d_Mo_work_221 rfl rfl ?_
      refine go_bipush (v := 10) d_Mo_work_222 rfl ?_
      refine go_icmp_ne 269 d_Mo_work_224 rfl (fun _ => ?_) (fun hn => by first | exact absurd hn (by decide) | exact absurd (by decide) hn)
      refine go_iconst (v := 1) d_Mo_work_269 rfl ?_
      exact go_zret d_Mo_work_270 rfl (by first | exact Or.inl rfl | exact Or.inr rfl | assumption) (hQ1 _ _ _ _ _ (by show (if rn_val (loc 0 + nn) = true then _ else _) = _; rw [if_pos (k1.mp h202)]) ⟨by simp (disch := omega) only [up2_eq, up2_ne]; exact a1, by simp (disch := omega) only [up2_eq, up2_ne]; exact a2, by simp (disch := omega) only [up2_eq, up2_ne]; exact a3, a4, a5.ptw a4 (fun j' hj' => by simp (disch := omega) only [up2_eq, up2_ne]), fun j' hj' => by by_cases he : j' = 0; (subst he; simp (disch := omega) only [up2_eq, up2_ne]; show _ = va_up loc 0 _ 0; rw [gw_up_eq]); (simp (disch := omega) only [up2_eq, up2_ne]; show _ = va_up loc 0 _ j'; rw [gw_up_ne he]; exact a6 j' hj')⟩ (fun i' hi' => ⟨by simp (disch := omega) only [up2_eq, up2_ne], by simp (disch := omega) only [up2_eq, up2_ne], by simp (disch := omega) only [up2_eq, up2_ne], fun j' hj' => by simp (disch := omega) only [up2_eq, up2_ne], fun j' hj' => by simp (disch := omega) only [up2_eq, up2_ne]⟩) (hus.kept (by omega) (by simp (disch := omega) only [up2_eq, up2_ne]) (by simp (disch := omega) only [up2_eq, up2_ne]) (by rw [gw_up_ne (by decide)])) (by simp (disch := omega) only [up2_eq, up2_ne]; exact hwd) (fun j' _ _ => by simp (disch := omega) only [up2_eq, up2_ne]) (fun q _ _ b _ => by rw [gw_up_ne b]))
    · refine go_iconst (v := 0) d_Mo_work_205 rfl ?_
      exact go_zret d_Mo_work_206 rfl (by first | exact Or.inl rfl | exact Or.inr rfl | assumption) (hQ0 (by show (if rn_val (loc 0 + nn) = true then _ else _) = _; rw [if_neg (fun hh => k1.mpr hh h202)]) I (fun j _ => rfl) (fun q _ _ _ _ => rfl))
  · skip
    refine go_iload_n 2 d_Mo_work_0 rfl rfl ?_
    refine go_if_ne 10 d_Mo_work_1 rfl (fun _ => ?_) (fun hn => by first | exact absurd hn (by decide) | exact absurd (by decide) hn)
    refine go_iload_n 2 d_Mo_work_10 rfl rfl ?_
    refine go_iconst (v := 1) d_Mo_work_11 rfl ?_
    refine go_icmp_ne 30 d_Mo_work_12 rfl (fun _ => ?_) (fun hn => by first | exact absurd hn (by decide) | exact absurd (by decide) hn)
    refine go_iload_n 2 d_Mo_work_30 rfl rfl ?_
    refine go_iconst (v := 2) d_Mo_work_31 rfl ?_
    refine go_icmp_ne 50 d_Mo_work_32 rfl (fun _ => ?_) (fun hn => by first | exact absurd hn (by decide) | exact absurd (by decide) hn)
    refine go_iload_n 2 d_Mo_work_50 rfl rfl ?_
    refine go_bipush (v := 14) d_Mo_work_51 rfl ?_
    refine go_icmp_ne 62 d_Mo_work_53 rfl (fun _ => ?_) (fun hn => by first | exact absurd hn (by decide) | exact absurd (by decide) hn)
    refine go_iload_n 2 d_Mo_work_62 rfl rfl ?_
    refine go_bipush (v := 13) d_Mo_work_63 rfl ?_
    refine go_icmp_ne 107 d_Mo_work_65 rfl (fun _ => ?_) (fun hn => by first | exact absurd hn (by decide) | exact absurd (by decide) hn)
    refine go_iload_n 2 d_Mo_work_107 rfl rfl ?_
    refine go_iconst (v := 3) d_Mo_work_108 rfl ?_
    refine go_icmp_eq 117 d_Mo_work_109 rfl (fun hn => absurd hn (by decide)) (fun _ => ?_)
    refine go_iload_n 2 d_Mo_work_112 rfl rfl ?_
    refine go_iconst (v := 4) d_Mo_work_113 rfl ?_
    refine go_icmp_ne 169 d_Mo_work_114 rfl (fun _ => ?_) (fun hn => by first | exact absurd hn (by decide) | exact absurd (by decide) hn)
    refine go_iload_n 2 d_Mo_work_169 rfl rfl ?_
    refine go_iconst (v := 5) d_Mo_work_170 rfl ?_
    refine go_icmp_eq 180 d_Mo_work_171 rfl (fun hn => absurd hn (by decide)) (fun _ => ?_)
    refine go_iload_n 2 d_Mo_work_174 rfl rfl ?_
    refine go_bipush (v := 6) d_Mo_work_175 rfl ?_
    refine go_icmp_ne 221 d_Mo_work_177 rfl (fun hn => absurd hn (by decide)) (fun _ => ?_)
    refine go_aload_n 0 d_Mo_work_180 rfl rfl ?_
    refine go_getR d_Mo_work_181 f_Mo_78 (by assumption) (by assumption) ?_
    refine go_iconst (v := 4) d_Mo_work_184 rfl ?_
    refine go_iload_n 1 d_Mo_work_185 rfl rfl ?_
    refine go_imul d_Mo_work_186 ?_
    refine go_iload_n 2 d_Mo_work_187 rfl rfl ?_
    refine go_iadd d_Mo_work_188 ?_
    refine go_iconst (v := 5) d_Mo_work_189 rfl ?_
    refine go_isub d_Mo_work_190 ?_
    refine go_iald (4 * i + 6 - 5) d_Mo_work_191 (by assumption) (by rw [show (4 : Int32) * nI i + nI 6 = nI (4 * i + 6) from ix (a := 4)]; exact pk_sub (a := 4 * i + 6) (b := 5) (by omega)) (by omega) (by decide) ?_
    rw [show 4 * i + 6 - 5 = 4 * i + 1 by omega, a6 1 (by decide)]
    refine go_iload_n 3 d_Mo_work_192 rfl rfl ?_
    refine go_iadd d_Mo_work_193 ?_
    refine go_istore d_Mo_work_194 (Nat.le_of_ble_eq_true rfl) ?_
    refine go_iload d_Mo_work_196 rfl ?_
    refine go_i2l d_Mo_work_198 (rfl) ?_
    refine go_S1 d_Mo_work_199 k_Mo_283 (Nat.le_of_ble_eq_true rfl) (c_Mo_fits (fun b1 k1 z1 => ?_))
    refine go_if_ne 207 d_Mo_work_202 rfl (fun h202 => ?_) (fun h202 => ?_)
    · refine go_aload_n 0 d_Mo_work_207 rfl rfl ?_
      refine go_getR d_Mo_work_208 f_Mo_78 (by assumption) (by assumption) ?_
      refine go_iconst (v := 4) d_Mo_work_211 rfl ?_
      refine go_iload_n 1 d_Mo_work_212 rfl rfl ?_
      refine go_imul d_Mo_work_213 ?_
      refine go_iload_n 2 d_Mo_work_214 rfl rfl ?_
      refine go_iadd d_Mo_work_215 ?_
      refine go_iconst (v := 5) d_Mo_work_216 rfl ?_
      refine go_isub d_Mo_work_217 ?_
      refine go_iload d_Mo_work_218 rfl ?_
      refine go_iast (4 * i + 6 - 5) d_Mo_work_220 (by assumption) (by rw [show (4 : Int32) * nI i + nI 6 = nI (4 * i + 6) from ix (a := 4)]; exact pk_sub (a := 4 * i + 6) (b := 5) (by omega)) (by omega) (by decide) ?_
      rw [show 4 * i + 6 - 5 = 4 * i + 1 by omega]
      refine go_iload_n 2 d_Mo_work_221 rfl rfl ?_
      refine go_bipush (v := 10) d_Mo_work_222 rfl ?_
      refine go_icmp_ne 269 d_Mo_work_224 rfl (fun _ => ?_) (fun hn => by first | exact absurd hn (by decide) | exact absurd (by decide) hn)
      refine go_iconst (v := 1) d_Mo_work_269 rfl ?_
      exact go_zret d_Mo_work_270 rfl (by first | exact Or.inl rfl | exact Or.inr rfl | assumption) (hQ1 _ _ _ _ _ (by show (if rn_val (loc 1 + nn) = true then _ else _) = _; rw [if_pos (k1.mp h202)]) ⟨by simp (disch := omega) only [up2_eq, up2_ne]; exact a1, by simp (disch := omega) only [up2_eq, up2_ne]; exact a2, by simp (disch := omega) only [up2_eq, up2_ne]; exact a3, a4, a5.ptw a4 (fun j' hj' => by simp (disch := omega) only [up2_eq, up2_ne]), fun j' hj' => by by_cases he : j' = 1; (subst he; simp (disch := omega) only [up2_eq, up2_ne]; show _ = va_up loc 1 _ 1; rw [gw_up_eq]); (simp (disch := omega) only [up2_eq, up2_ne]; show _ = va_up loc 1 _ j'; rw [gw_up_ne he]; exact a6 j' hj')⟩ (fun i' hi' => ⟨by simp (disch := omega) only [up2_eq, up2_ne], by simp (disch := omega) only [up2_eq, up2_ne], by simp (disch := omega) only [up2_eq, up2_ne], fun j' hj' => by simp (disch := omega) only [up2_eq, up2_ne], fun j' hj' => by simp (disch := omega) only [up2_eq, up2_ne]⟩) (hus.kept (by omega) (by simp (disch := omega) only [up2_eq, up2_ne]) (by simp (disch := omega) only [up2_eq, up2_ne]) (by rw [gw_up_ne (by decide)])) (by simp (disch := omega) only [up2_eq, up2_ne]; exact hwd) (fun j' _ _ => by simp (disch := omega) only [up2_eq, up2_ne]) (fun q _ _ b _ => by rw [gw_up_ne b]))
    · refine go_iconst (v := 0) d_Mo_work_205 rfl ?_
      exact go_zret d_Mo_work_206 rfl (by first | exact Or.inl rfl | exact Or.inr rfl | assumption) (hQ0 (by show (if rn_val (loc 1 + nn) = true then _ else _) = _; rw [if_neg (fun hh => k1.mpr hh h202)]) I (fun j _ => rfl) (fun q _ _ _ _ => rfl))
  · skip
    refine go_iload_n 2 d_Mo_work_0 rfl rfl ?_
    refine go_if_ne 10 d_Mo_work_1 rfl (fun _ => ?_) (fun hn => by first | exact absurd hn (by decide) | exact absurd (by decide) hn)
    refine go_iload_n 2 d_Mo_work_10 rfl rfl ?_
    refine go_iconst (v := 1) d_Mo_work_11 rfl ?_
    refine go_icmp_ne 30 d_Mo_work_12 rfl (fun _ => ?_) (fun hn => by first | exact absurd hn (by decide) | exact absurd (by decide) hn)
    refine go_iload_n 2 d_Mo_work_30 rfl rfl ?_
    refine go_iconst (v := 2) d_Mo_work_31 rfl ?_
    refine go_icmp_ne 50 d_Mo_work_32 rfl (fun _ => ?_) (fun hn => by first | exact absurd hn (by decide) | exact absurd (by decide) hn)
    refine go_iload_n 2 d_Mo_work_50 rfl rfl ?_
    refine go_bipush (v := 14) d_Mo_work_51 rfl ?_
    refine go_icmp_ne 62 d_Mo_work_53 rfl (fun _ => ?_) (fun hn => by first | exact absurd hn (by decide) | exact absurd (by decide) hn)
    refine go_iload_n 2 d_Mo_work_62 rfl rfl ?_
    refine go_bipush (v := 13) d_Mo_work_63 rfl ?_
    refine go_icmp_ne 107 d_Mo_work_65 rfl (fun _ => ?_) (fun hn => by first | exact absurd hn (by decide) | exact absurd (by decide) hn)
    refine go_iload_n 2 d_Mo_work_107 rfl rfl ?_
    refine go_iconst (v := 3) d_Mo_work_108 rfl ?_
    refine go_icmp_eq 117 d_Mo_work_109 rfl (fun hn => absurd hn (by decide)) (fun _ => ?_)
    refine go_iload_n 2 d_Mo_work_112 rfl rfl ?_
    refine go_iconst (v := 4) d_Mo_work_113 rfl ?_
    refine go_icmp_ne 169 d_Mo_work_114 rfl (fun _ => ?_) (fun hn => by first | exact absurd hn (by decide) | exact absurd (by decide) hn)
    refine go_iload_n 2 d_Mo_work_169 rfl rfl ?_
    refine go_iconst (v := 5) d_Mo_work_170 rfl ?_
    refine go_icmp_eq 180 d_Mo_work_171 rfl (fun hn => absurd hn (by decide)) (fun _ => ?_)
    refine go_iload_n 2 d_Mo_work_174 rfl rfl ?_
    refine go_bipush (v := 6) d_Mo_work_175 rfl ?_
    refine go_icmp_ne 221 d_Mo_work_177 rfl (fun _ => ?_) (fun hn => by first | exact absurd hn (by decide) | exact absurd (by decide) hn)
    refine go_iload_n 2 d_Mo_work_221 rfl rfl ?_
    refine go_bipush (v := 10) d_Mo_work_222 rfl ?_
    refine go_icmp_ne 269 d_Mo_work_224 rfl (fun _ => ?_) (fun hn => by first | exact absurd hn (by decide) | exact absurd (by decide) hn)
    refine go_iconst (v := 1) d_Mo_work_269 rfl ?_
    exact go_zret d_Mo_work_270 rfl (by first | exact Or.inl rfl | exact Or.inr rfl | assumption) (hQ1 _ _ _ _ I rfl hf (fun _ _ => mf_eq.refl) (hus.kept (by omega) rfl rfl rfl) hwd (fun _ _ _ => rfl) (fun _ _ _ _ _ => rfl))
  · skip
    refine go_iload_n 2 d_Mo_work_0 rfl rfl ?_
    refine go_if_ne 10 d_Mo_work_1 rfl (fun _ => ?_) (fun hn => by first | exact absurd hn (by decide) | exact absurd (by decide) hn)
    refine go_iload_n 2 d_Mo_work_10 rfl rfl ?_
    refine go_iconst (v := 1) d_Mo_work_11 rfl ?_
    refine go_icmp_ne 30 d_Mo_work_12 rfl (fun _ => ?_) (fun hn => by first | exact absurd hn (by decide) | exact absurd (by decide) hn)
    refine go_iload_n 2 d_Mo_work_30 rfl rfl ?_
    refine go_iconst (v := 2) d_Mo_work_31 rfl ?_
    refine go_icmp_ne 50 d_Mo_work_32 rfl (fun _ => ?_) (fun hn => by first | exact absurd hn (by decide) | exact absurd (by decide) hn)
    refine go_iload_n 2 d_Mo_work_50 rfl rfl ?_
    refine go_bipush (v := 14) d_Mo_work_51 rfl ?_
    refine go_icmp_ne 62 d_Mo_work_53 rfl (fun _ => ?_) (fun hn => by first | exact absurd hn (by decide) | exact absurd (by decide) hn)
    refine go_iload_n 2 d_Mo_work_62 rfl rfl ?_
    refine go_bipush (v := 13) d_Mo_work_63 rfl ?_
    refine go_icmp_ne 107 d_Mo_work_65 rfl (fun _ => ?_) (fun hn => by first | exact absurd hn (by decide) | exact absurd (by decide) hn)
    refine go_iload_n 2 d_Mo_work_107 rfl rfl ?_
    refine go_iconst (v := 3) d_Mo_work_108 rfl ?_
    refine go_icmp_eq 117 d_Mo_work_109 rfl (fun hn => absurd hn (by decide)) (fun _ => ?_)
    refine go_iload_n 2 d_Mo_work_112 rfl rfl ?_
    refine go_iconst (v := 4) d_Mo_work_113 rfl ?_
    refine go_icmp_ne 169 d_Mo_work_114 rfl (fun _ => ?_) (fun hn => by first | exact absurd hn (by decide) | exact absurd (by decide) hn)
    refine go_iload_n 2 d_Mo_work_169 rfl rfl ?_
    refine go_iconst (v := 5) d_Mo_work_170 rfl ?_
    refine go_icmp_eq 180 d_Mo_work_171 rfl (fun hn => absurd hn (by decide)) (fun _ => ?_)
    refine go_iload_n 2 d_Mo_work_174 rfl rfl ?_
    refine go_bipush (v := 6) d_Mo_work_175 rfl ?_
    refine go_icmp_ne 221 d_Mo_work_177 rfl (fun _ => ?_) (fun hn => by first | exact absurd hn (by decide) | exact absurd (by decide) hn)
    refine go_iload_n 2 d_Mo_work_221 rfl rfl ?_
    refine go_bipush (v := 10) d_Mo_work_222 rfl ?_
    refine go_icmp_ne 269 d_Mo_work_224 rfl (fun _ => ?_) (fun hn => by first | exact absurd hn (by decide) | exact absurd (by decide) hn)
    refine go_iconst (v := 1) d_Mo_work_269 rfl ?_
    exact go_zret d_Mo_work_270 rfl (by first | exact Or.inl rfl | exact Or.inr rfl | assumption) (hQ1 _ _ _ _ I rfl hf (fun _ _ => mf_eq.refl) (hus.kept (by omega) rfl rfl rfl) hwd (fun _ _ _ => rfl) (fun _ _ _ _ _ => rfl))
  · skip
    refine go_iload_n 2 d_Mo_work_0 rfl rfl ?_
    refine go_if_ne 10 d_Mo_work_1 rfl (fun _ => ?_) (fun hn => by first | exact absurd hn (by decide) | exact absurd (by decide) hn)
    refine go_iload_n 2 d_Mo_work_10 rfl rfl ?_
    refine go_iconst (v := 1) d_Mo_work_11 rfl ?_
    refine go_icmp_ne 30 d_Mo_work_12 rfl (fun _ => ?_) (fun hn => by first | exact absurd hn (by decide) | exact absurd (by decide) hn)
    refine go_iload_n 2 d_Mo_work_30 rfl rfl ?_
    refine go_iconst (v := 2) d_Mo_work_31 rfl ?_
    refine go_icmp_ne 50 d_Mo_work_32 rfl (fun _ => ?_) (fun hn => by first | exact absurd hn (by decide) | exact absurd (by decide) hn)
    refine go_iload_n 2 d_Mo_work_50 rfl rfl ?_
    refine go_bipush (v := 14) d_Mo_work_51 rfl ?_
    refine go_icmp_ne 62 d_Mo_work_53 rfl (fun _ => ?_) (fun hn => by first | exact absurd hn (by decide) | exact absurd (by decide) hn)
    refine go_iload_n 2 d_Mo_work_62 rfl rfl ?_
    refine go_bipush (v := 13) d_Mo_work_63 rfl ?_
    refine go_icmp_ne 107 d_Mo_work_65 rfl (fun _ => ?_) (fun hn => by first | exact absurd hn (by decide) | exact absurd (by decide) hn)
    refine go_iload_n 2 d_Mo_work_107 rfl rfl ?_
    refine go_iconst (v := 3) d_Mo_work_108 rfl ?_
    refine go_icmp_eq 117 d_Mo_work_109 rfl (fun hn => absurd hn (by decide)) (fun _ => ?_)
    refine go_iload_n 2 d_Mo_work_112 rfl rfl ?_
    refine go_iconst (v := 4) d_Mo_work_113 rfl ?_
    refine go_icmp_ne 169 d_Mo_work_114 rfl (fun _ => ?_) (fun hn => by first | exact absurd hn (by decide) | exact absurd (by decide) hn)
    refine go_iload_n 2 d_Mo_work_169 rfl rfl ?_
    refine go_iconst (v := 5) d_Mo_work_170 rfl ?_
    refine go_icmp_eq 180 d_Mo_work_171 rfl (fun hn => absurd hn (by decide)) (fun _ => ?_)
    refine go_iload_n 2 d_Mo_work_174 rfl rfl ?_
    refine go_bipush (v := 6) d_Mo_work_175 rfl ?_
    refine go_icmp_ne 221 d_Mo_work_177 rfl (fun _ => ?_) (fun hn => by first | exact absurd hn (by decide) | exact absurd (by decide) hn)
    refine go_iload_n 2 d_Mo_work_221 rfl rfl ?_
    refine go_bipush (v := 10) d_Mo_work_222 rfl ?_
    refine go_icmp_ne 269 d_Mo_work_224 rfl (fun _ => ?_) (fun hn => by first | exact absurd hn (by decide) | exact absurd (by decide) hn)
    refine go_iconst (v := 1) d_Mo_work_269 rfl ?_
    exact go_zret d_Mo_work_270 rfl (by first | exact Or.inl rfl | exact Or.inr rfl | assumption) (hQ1 _ _ _ _ I rfl hf (fun _ _ => mf_eq.refl) (hus.kept (by omega) rfl rfl rfl) hwd (fun _ _ _ => rfl) (fun _ _ _ _ _ => rfl))
  · obtain ⟨v, st1, rfl⟩ := one htk (by decide) (by decide) (by decide)
    refine go_iload_n 2 d_Mo_work_0 rfl rfl ?_
    refine go_if_ne 10 d_Mo_work_1 rfl (fun _ => ?_) (fun hn => by first | exact absurd hn (by decide) | exact absurd (by decide) hn)
    refine go_iload_n 2 d_Mo_work_10 rfl rfl ?_
    refine go_iconst (v := 1) d_Mo_work_11 rfl ?_
    refine go_icmp_ne 30 d_Mo_work_12 rfl (fun _ => ?_) (fun hn => by first | exact absurd hn (by decide) | exact absurd (by decide) hn)
    refine go_iload_n 2 d_Mo_work_30 rfl rfl ?_
    refine go_iconst (v := 2) d_Mo_work_31 rfl ?_
    refine go_icmp_ne 50 d_Mo_work_32 rfl (fun _ => ?_) (fun hn => by first | exact absurd hn (by decide) | exact absurd (by decide) hn)
    refine go_iload_n 2 d_Mo_work_50 rfl rfl ?_
    refine go_bipush (v := 14) d_Mo_work_51 rfl ?_
    refine go_icmp_ne 62 d_Mo_work_53 rfl (fun _ => ?_) (fun hn => by first | exact absurd hn (by decide) | exact absurd (by decide) hn)
    refine go_iload_n 2 d_Mo_work_62 rfl rfl ?_
    refine go_bipush (v := 13) d_Mo_work_63 rfl ?_
    refine go_icmp_ne 107 d_Mo_work_65 rfl (fun _ => ?_) (fun hn => by first | exact absurd hn (by decide) | exact absurd (by decide) hn)
    refine go_iload_n 2 d_Mo_work_107 rfl rfl ?_
    refine go_iconst (v := 3) d_Mo_work_108 rfl ?_
    refine go_icmp_eq 117 d_Mo_work_109 rfl (fun hn => absurd hn (by decide)) (fun _ => ?_)
    refine go_iload_n 2 d_Mo_work_112 rfl rfl ?_
    refine go_iconst (v := 4) d_Mo_work_113 rfl ?_
    refine go_icmp_ne 169 d_Mo_work_114 rfl (fun _ => ?_) (fun hn => by first | exact absurd hn (by decide) | exact absurd (by decide) hn)
    refine go_iload_n 2 d_Mo_work_169 rfl rfl ?_
    refine go_iconst (v := 5) d_Mo_work_170 rfl ?_
    refine go_icmp_eq 180 d_Mo_work_171 rfl (fun hn => absurd hn (by decide)) (fun _ => ?_)
    refine go_iload_n 2 d_Mo_work_174 rfl rfl ?_
    refine go_bipush (v := 6) d_Mo_work_175 rfl ?_
    refine go_icmp_ne 221 d_Mo_work_177 rfl (fun _ => ?_) (fun hn => by first | exact absurd hn (by decide) | exact absurd (by decide) hn)
    refine go_iload_n 2 d_Mo_work_221 rfl rfl ?_
    refine go_bipush (v := 10) d_Mo_work_222 rfl ?_
    refine go_icmp_ne 269 d_Mo_work_224 rfl (fun hn => absurd hn (by decide)) (fun _ => ?_)
    refine go_aload_n 0 d_Mo_work_227 rfl rfl ?_
    refine go_iload_n 1 d_Mo_work_228 rfl rfl ?_
    refine go_V1 d_Mo_work_229 k_Mo_267 (by assumption) (Nat.le_of_ble_eq_true rfl) (c_Mo_take hp0 hi hf (fun I1 f1 f2 f3 => ?_))
    refine go_istore d_Mo_work_232 (Nat.le_of_ble_eq_true rfl) ?_
    refine go_iload d_Mo_work_234 rfl ?_
    refine go_if_lt 254 d_Mo_work_236 rfl (fun h236 => ?_) (fun h236 => ?_)
    · refine go_iconst (v := 0) d_Mo_work_254 rfl ?_
      exact go_zret d_Mo_work_255 rfl (by first | exact Or.inl rfl | exact Or.inr rfl | assumption) (hQ0 (by show (if v < 0 ∨ 1000000000 < wd + v + 2 then _ else _) = _; rw [if_pos (by first | exact Or.inl h236 | exact Or.inr (Int32.not_le.mp h251))]) I1 (fun j _ => by rw [f3 _ (by decide)]) (fun q _ a _ _ => f3 q a))
    · refine go_aload_n 0 d_Mo_work_239 rfl rfl ?_
      refine go_getI d_Mo_work_240 f_Mo_253 (by assumption) ?_
      refine go_iload d_Mo_work_243 rfl ?_
      refine go_iadd d_Mo_work_245 ?_
      refine go_iconst (v := 2) d_Mo_work_246 rfl ?_
      refine go_iadd d_Mo_work_247 ?_
      refine go_ldcw d_Mo_work_248 i_Mo_287 ?_
      rw [show I1 533 30 = wd by rw [f3 _ (by decide)]; exact hwd]
      refine go_icmp_le 256 d_Mo_work_251 rfl (fun h251 => ?_) (fun h251 => ?_)
      · refine go_aload_n 0 d_Mo_work_256 rfl rfl ?_
        refine go_dup d_Mo_work_257 rfl ?_
        refine go_getI d_Mo_work_258 f_Mo_253 (by assumption) ?_
        refine go_iload d_Mo_work_261 rfl ?_
        refine go_iconst (v := 2) d_Mo_work_263 rfl ?_
        refine go_iadd d_Mo_work_264 ?_
        rw [show I1 533 30 = wd by rw [f3 _ (by decide)]; exact hwd]
        refine go_iadd d_Mo_work_265 ?_
        refine go_putI d_Mo_work_266 f_Mo_253 (by assumption) ?_
        refine go_iconst (v := 1) d_Mo_work_269 rfl ?_
        exact go_zret d_Mo_work_270 rfl (by first | exact Or.inl rfl | exact Or.inr rfl | assumption) (hQ1 _ _ _ _ _ (by show (if v < 0 ∨ 1000000000 < wd + v + 2 then _ else _) = _; rw [if_neg (fun hh => by rcases hh with hh | hh; exact h236 hh; exact absurd hh (Int32.not_lt.mpr h251))]) (f1.ptw (mf_eq.row (fun q a b => gw_up_ne (by omega)))) (fun i' hi' => (f2 i' hi').trans (mf_eq.row (fun q a b => gw_up_ne (by omega)))) (hus.kept (by omega) (by simp (disch := omega) only [up2_eq, up2_ne]; rw [f3 _ (by decide)]) (by simp (disch := omega) only [up2_eq, up2_ne]; rw [f3 _ (by decide)]) (by rw [gw_up_ne (by decide), f3 _ (by decide)])) (by simp (disch := omega) only [up2_eq, up2_ne]) (fun j _ _ => by simp (disch := omega) only [up2_eq, up2_ne]; rw [f3 _ (by decide)]) (fun q a b _ _ => by rw [gw_up_ne a, f3 q b]))
      · refine go_iconst (v := 0) d_Mo_work_254 rfl ?_
        exact go_zret d_Mo_work_255 rfl (by first | exact Or.inl rfl | exact Or.inr rfl | assumption) (hQ0 (by show (if v < 0 ∨ 1000000000 < wd + v + 2 then _ else _) = _; rw [if_pos (by first | exact Or.inl h236 | exact Or.inr (Int32.not_le.mp h251))]) I1 (fun j _ => by rw [f3 _ (by decide)]) (fun q _ a _ _ => f3 q a))
  · obtain ⟨b1, b2, b3, w, b4, b5, b6, b7⟩ := hus
    rcases Nat.lt_or_ge w inp.length with hw | hw
    · have hwu : w = u := by omega
      obtain ⟨v, hv⟩ : ∃ v, inp[w]? = some v := ⟨_, List.getElem?_eq_getElem hw⟩
      have hvu : inp[u]? = some v := hwu ▸ hv
      refine go_iload_n 2 d_Mo_work_0 rfl rfl ?_
      refine go_if_ne 10 d_Mo_work_1 rfl (fun _ => ?_) (fun hn => by first | exact absurd hn (by decide) | exact absurd (by decide) hn)
      refine go_iload_n 2 d_Mo_work_10 rfl rfl ?_
      refine go_iconst (v := 1) d_Mo_work_11 rfl ?_
      refine go_icmp_ne 30 d_Mo_work_12 rfl (fun _ => ?_) (fun hn => by first | exact absurd hn (by decide) | exact absurd (by decide) hn)
      refine go_iload_n 2 d_Mo_work_30 rfl rfl ?_
      refine go_iconst (v := 2) d_Mo_work_31 rfl ?_
      refine go_icmp_ne 50 d_Mo_work_32 rfl (fun _ => ?_) (fun hn => by first | exact absurd hn (by decide) | exact absurd (by decide) hn)
      refine go_iload_n 2 d_Mo_work_50 rfl rfl ?_
      refine go_bipush (v := 14) d_Mo_work_51 rfl ?_
      refine go_icmp_ne 62 d_Mo_work_53 rfl (fun _ => ?_) (fun hn => by first | exact absurd hn (by decide) | exact absurd (by decide) hn)
      refine go_iload_n 2 d_Mo_work_62 rfl rfl ?_
      refine go_bipush (v := 13) d_Mo_work_63 rfl ?_
      refine go_icmp_ne 107 d_Mo_work_65 rfl (fun hn => absurd hn (by decide)) (fun _ => ?_)
      refine go_aload_n 0 d_Mo_work_68 rfl rfl ?_
      refine go_iload_n 1 d_Mo_work_69 rfl rfl ?_
      refine go_aload_n 0 d_Mo_work_70 rfl rfl ?_
      refine go_getI d_Mo_work_71 f_Mo_247 (by assumption) ?_
      refine go_aload_n 0 d_Mo_work_74 rfl rfl ?_
      refine go_getI d_Mo_work_75 f_Mo_238 (by assumption) ?_
      refine go_icmp_ge 93 d_Mo_work_78 rfl (fun hn => absurd hn (by rw [b1, b4]; exact nI_ge hw (by omega))) (fun _ => ?_)
      refine go_aload_n 0 d_Mo_work_81 rfl rfl ?_
      refine go_getR d_Mo_work_82 f_Mo_66 (by assumption) (by assumption) ?_
      refine go_aload_n 0 d_Mo_work_85 rfl rfl ?_
      refine go_getI d_Mo_work_86 f_Mo_247 (by assumption) ?_
      refine go_iald (w) d_Mo_work_89 (by assumption) (b4) (by omega) (by decide) ?_
      refine go_goto 94 d_Mo_work_90 rfl ?_
      rw [b3 w v hv]
      refine go_V2 d_Mo_work_94 k_Mo_280 (by assumption) (Nat.le_of_ble_eq_true rfl) (c_Mo_give hp0 hi hf (hro (by decide)) (fun I1 f1 f2 f3 => ?_))
      refine go_aload_n 0 d_Mo_work_97 rfl rfl ?_
      refine go_dup d_Mo_work_98 rfl ?_
      refine go_getI d_Mo_work_99 f_Mo_247 (by assumption) ?_
      refine go_iconst (v := 1) d_Mo_work_102 rfl ?_
      refine go_iadd d_Mo_work_103 ?_
      refine go_putI d_Mo_work_104 f_Mo_247 (by assumption) ?_
      refine go_iload_n 2 d_Mo_work_107 rfl rfl ?_
      refine go_iconst (v := 3) d_Mo_work_108 rfl ?_
      refine go_icmp_eq 117 d_Mo_work_109 rfl (fun hn => absurd hn (by decide)) (fun _ => ?_)
      refine go_iload_n 2 d_Mo_work_112 rfl rfl ?_
      refine go_iconst (v := 4) d_Mo_work_113 rfl ?_
      refine go_icmp_ne 169 d_Mo_work_114 rfl (fun _ => ?_) (fun hn => by first | exact absurd hn (by decide) | exact absurd (by decide) hn)
      refine go_iload_n 2 d_Mo_work_169 rfl rfl ?_
      refine go_iconst (v := 5) d_Mo_work_170 rfl ?_
      refine go_icmp_eq 180 d_Mo_work_171 rfl (fun hn => absurd hn (by decide)) (fun _ => ?_)
      refine go_iload_n 2 d_Mo_work_174 rfl rfl ?_
      refine go_bipush (v := 6) d_Mo_work_175 rfl ?_
      refine go_icmp_ne 221 d_Mo_work_177 rfl (fun _ => ?_) (fun hn => by first | exact absurd hn (by decide) | exact absurd (by decide) hn)
      refine go_iload_n 2 d_Mo_work_221 rfl rfl ?_
      refine go_bipush (v := 10) d_Mo_work_222 rfl ?_
      refine go_icmp_ne 269 d_Mo_work_224 rfl (fun _ => ?_) (fun hn => by first | exact absurd hn (by decide) | exact absurd (by decide) hn)
      refine go_iconst (v := 1) d_Mo_work_269 rfl ?_
      exact go_zret d_Mo_work_270 rfl (by first | exact Or.inl rfl | exact Or.inr rfl | assumption) (hQ1 _ _ _ _ _ (by show (match inp[u]? with | none => some (0 :: st, loc, u, wd) | some v => some (v :: st, loc, u + 1, wd)) = _; rw [hvu]) (f1.ptw (mf_eq.row (fun q a b => gw_up_ne (by omega)))) (fun i' hi' => (f2 i' hi').trans (mf_eq.row (fun q a b => gw_up_ne (by omega)))) ⟨by simp (disch := omega) only [up2_eq, up2_ne]; rw [f3 _ (by decide) (by decide)]; exact b1, b2, by rw [gw_up_ne (by decide), f3 _ (by decide) (by decide)]; exact b3, w + 1, by simp (disch := omega) only [up2_eq, up2_ne]; rw [f3 _ (by decide) (by decide), b4, nI_1], by omega, by (have : w = u := by omega); constructor; omega; omega⟩ (by simp (disch := omega) only [up2_eq, up2_ne]; rw [f3 _ (by decide) (by decide)]; exact hwd) (fun j _ _ => by simp (disch := omega) only [up2_eq, up2_ne]; rw [f3 _ (by decide) (by decide)]) (fun q a b _ c => by rw [gw_up_ne a, f3 q b c]))
    · have hul : u = inp.length := by omega
      refine go_iload_n 2 d_Mo_work_0 rfl rfl ?_
      refine go_if_ne 10 d_Mo_work_1 rfl (fun _ => ?_) (fun hn => by first | exact absurd hn (by decide) | exact absurd (by decide) hn)
      refine go_iload_n 2 d_Mo_work_10 rfl rfl ?_
      refine go_iconst (v := 1) d_Mo_work_11 rfl ?_
      refine go_icmp_ne 30 d_Mo_work_12 rfl (fun _ => ?_) (fun hn => by first | exact absurd hn (by decide) | exact absurd (by decide) hn)
      refine go_iload_n 2 d_Mo_work_30 rfl rfl ?_
      refine go_iconst (v := 2) d_Mo_work_31 rfl ?_
      refine go_icmp_ne 50 d_Mo_work_32 rfl (fun _ => ?_) (fun hn => by first | exact absurd hn (by decide) | exact absurd (by decide) hn)
      refine go_iload_n 2 d_Mo_work_50 rfl rfl ?_
      refine go_bipush (v := 14) d_Mo_work_51 rfl ?_
      refine go_icmp_ne 62 d_Mo_work_53 rfl (fun _ => ?_) (fun hn => by first | exact absurd hn (by decide) | exact absurd (by decide) hn)
      refine go_iload_n 2 d_Mo_work_62 rfl rfl ?_
      refine go_bipush (v := 13) d_Mo_work_63 rfl ?_
      refine go_icmp_ne 107 d_Mo_work_65 rfl (fun hn => absurd hn (by decide)) (fun _ => ?_)
      refine go_aload_n 0 d_Mo_work_68 rfl rfl ?_
      refine go_iload_n 1 d_Mo_work_69 rfl rfl ?_
      refine go_aload_n 0 d_Mo_work_70 rfl rfl ?_
      refine go_getI d_Mo_work_71 f_Mo_247 (by assumption) ?_
      refine go_aload_n 0 d_Mo_work_74 rfl rfl ?_
      refine go_getI d_Mo_work_75 f_Mo_238 (by assumption) ?_
      refine go_icmp_ge 93 d_Mo_work_78 rfl (fun _ => ?_) (fun hn => absurd (by rw [b1, b4]; exact (nI_leI (by omega) (by omega)).mpr hw) hn)
      refine go_iconst (v := 0) d_Mo_work_93 rfl ?_
      refine go_V2 d_Mo_work_94 k_Mo_280 (by assumption) (Nat.le_of_ble_eq_true rfl) (c_Mo_give hp0 hi hf (hro (by decide)) (fun I1 f1 f2 f3 => ?_))
      refine go_aload_n 0 d_Mo_work_97 rfl rfl ?_
      refine go_dup d_Mo_work_98 rfl ?_
      refine go_getI d_Mo_work_99 f_Mo_247 (by assumption) ?_
      refine go_iconst (v := 1) d_Mo_work_102 rfl ?_
      refine go_iadd d_Mo_work_103 ?_
      refine go_putI d_Mo_work_104 f_Mo_247 (by assumption) ?_
      refine go_iload_n 2 d_Mo_work_107 rfl rfl ?_
      refine go_iconst (v := 3) d_Mo_work_108 rfl ?_
      refine go_icmp_eq 117 d_Mo_work_109 rfl (fun hn => absurd hn (by decide)) (fun _ => ?_)
      refine go_iload_n 2 d_Mo_work_112 rfl rfl ?_
      refine go_iconst (v := 4) d_Mo_work_113 rfl ?_
      refine go_icmp_ne 169 d_Mo_work_114 rfl (fun _ => ?_) (fun hn => by first | exact absurd hn (by decide) | exact absurd (by decide) hn)
      refine go_iload_n 2 d_Mo_work_169 rfl rfl ?_
      refine go_iconst (v := 5) d_Mo_work_170 rfl ?_
      refine go_icmp_eq 180 d_Mo_work_171 rfl (fun hn => absurd hn (by decide)) (fun _ => ?_)
      refine go_iload_n 2 d_Mo_work_174 rfl rfl ?_
      refine go_bipush (v := 6) d_Mo_work_175 rfl ?_
      refine go_icmp_ne 221 d_Mo_work_177 rfl (fun _ => ?_) (fun hn => by first | exact absurd hn (by decide) | exact absurd (by decide) hn)
      refine go_iload_n 2 d_Mo_work_221 rfl rfl ?_
      refine go_bipush (v := 10) d_Mo_work_222 rfl ?_
      refine go_icmp_ne 269 d_Mo_work_224 rfl (fun _ => ?_) (fun hn => by first | exact absurd hn (by decide) | exact absurd (by decide) hn)
      refine go_iconst (v := 1) d_Mo_work_269 rfl ?_
      exact go_zret d_Mo_work_270 rfl (by first | exact Or.inl rfl | exact Or.inr rfl | assumption) (hQ1 _ _ _ _ _ (by show (match inp[u]? with | none => some (0 :: st, loc, u, wd) | some v => some (v :: st, loc, u + 1, wd)) = _; rw [List.getElem?_eq_none (by omega)]) (f1.ptw (mf_eq.row (fun q a b => gw_up_ne (by omega)))) (fun i' hi' => (f2 i' hi').trans (mf_eq.row (fun q a b => gw_up_ne (by omega)))) ⟨by simp (disch := omega) only [up2_eq, up2_ne]; rw [f3 _ (by decide) (by decide)]; exact b1, b2, by rw [gw_up_ne (by decide), f3 _ (by decide) (by decide)]; exact b3, w + 1, by simp (disch := omega) only [up2_eq, up2_ne]; rw [f3 _ (by decide) (by decide), b4, nI_1], by omega, by constructor; omega; omega⟩ (by simp (disch := omega) only [up2_eq, up2_ne]; rw [f3 _ (by decide) (by decide)]; exact hwd) (fun j _ _ => by simp (disch := omega) only [up2_eq, up2_ne]; rw [f3 _ (by decide) (by decide)]) (fun q a b _ c => by rw [gw_up_ne a, f3 q b c]))
  · obtain ⟨v, st1, rfl⟩ := one htk (by decide) (by decide) (by decide)
    refine go_iload_n 2 d_Mo_work_0 rfl rfl ?_
    refine go_if_ne 10 d_Mo_work_1 rfl (fun _ => ?_) (fun hn => by first | exact absurd hn (by decide) | exact absurd (by decide) hn)
    refine go_iload_n 2 d_Mo_work_10 rfl rfl ?_
    refine go_iconst (v := 1) d_Mo_work_11 rfl ?_
    refine go_icmp_ne 30 d_Mo_work_12 rfl (fun _ => ?_) (fun hn => by first | exact absurd hn (by decide) | exact absurd (by decide) hn)
    refine go_iload_n 2 d_Mo_work_30 rfl rfl ?_
    refine go_iconst (v := 2) d_Mo_work_31 rfl ?_
    refine go_icmp_ne 50 d_Mo_work_32 rfl (fun _ => ?_) (fun hn => by first | exact absurd hn (by decide) | exact absurd (by decide) hn)
    refine go_iload_n 2 d_Mo_work_50 rfl rfl ?_
    refine go_bipush (v := 14) d_Mo_work_51 rfl ?_
    refine go_icmp_ne 62 d_Mo_work_53 rfl (fun hn => absurd hn (by decide)) (fun _ => ?_)
    refine go_aload_n 0 d_Mo_work_56 rfl rfl ?_
    refine go_iload_n 1 d_Mo_work_57 rfl rfl ?_
    refine go_V1 d_Mo_work_58 k_Mo_267 (by assumption) (Nat.le_of_ble_eq_true rfl) (c_Mo_take hp0 hi hf (fun I1 f1 f2 f3 => ?_))
    refine go_pop d_Mo_work_61 rfl ?_
    refine go_iload_n 2 d_Mo_work_62 rfl rfl ?_
    refine go_bipush (v := 13) d_Mo_work_63 rfl ?_
    refine go_icmp_ne 107 d_Mo_work_65 rfl (fun _ => ?_) (fun hn => by first | exact absurd hn (by decide) | exact absurd (by decide) hn)
    refine go_iload_n 2 d_Mo_work_107 rfl rfl ?_
    refine go_iconst (v := 3) d_Mo_work_108 rfl ?_
    refine go_icmp_eq 117 d_Mo_work_109 rfl (fun hn => absurd hn (by decide)) (fun _ => ?_)
    refine go_iload_n 2 d_Mo_work_112 rfl rfl ?_
    refine go_iconst (v := 4) d_Mo_work_113 rfl ?_
    refine go_icmp_ne 169 d_Mo_work_114 rfl (fun _ => ?_) (fun hn => by first | exact absurd hn (by decide) | exact absurd (by decide) hn)
    refine go_iload_n 2 d_Mo_work_169 rfl rfl ?_
    refine go_iconst (v := 5) d_Mo_work_170 rfl ?_
    refine go_icmp_eq 180 d_Mo_work_171 rfl (fun hn => absurd hn (by decide)) (fun _ => ?_)
    refine go_iload_n 2 d_Mo_work_174 rfl rfl ?_
    refine go_bipush (v := 6) d_Mo_work_175 rfl ?_
    refine go_icmp_ne 221 d_Mo_work_177 rfl (fun _ => ?_) (fun hn => by first | exact absurd hn (by decide) | exact absurd (by decide) hn)
    refine go_iload_n 2 d_Mo_work_221 rfl rfl ?_
    refine go_bipush (v := 10) d_Mo_work_222 rfl ?_
    refine go_icmp_ne 269 d_Mo_work_224 rfl (fun _ => ?_) (fun hn => by first | exact absurd hn (by decide) | exact absurd (by decide) hn)
    refine go_iconst (v := 1) d_Mo_work_269 rfl ?_
    exact go_zret d_Mo_work_270 rfl (by first | exact Or.inl rfl | exact Or.inr rfl | assumption) (hQ1 _ _ _ _ I1 rfl f1 f2 (hus.kept (by omega) (by rw [f3 _ (by decide)]) (by rw [f3 _ (by decide)]) (f3 _ (by decide))) (by rw [f3 _ (by decide)]; exact hwd) (fun j _ _ => by rw [f3 _ (by decide)]) (fun q _ a _ _ => f3 q a))
end MO
