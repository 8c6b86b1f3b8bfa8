/-! constructors: those that hold arrays alone -/
/-- below a cell nothing has changed -/
def mk_fr (o : Nat) (sh sh' : Nat → Nat × Nat) (R R' : Nat → Nat → Option Nat) (I I' : Nat → Nat → Int32) (L L' : Nat → Nat → Int64) : Prop := ∀ q, q < o → sh' q = sh q ∧ R' q = R q ∧ I' q = I q ∧ L' q = L q
section MK
variable {d : Nat} {sh : Nat → Nat × Nat} {X : Nat × (Nat → Int32)} {R : Nat → Nat → Option Nat} {I : Nat → Nat → Int32} {L : Nat → Nat → Int64} {Q : Option Value → gw_Mem → Prop}
theorem c_Po_init {o : Nat} (s0 : sh o = (0, 3)) (hI : I o = fun _ => 0) (hm : o < 1000000) (hQ : ∀ sh' R' I' L', pt_Po sh' R' o → po_at I' o (0, []) → mk_fr o sh sh' R R' I I' L L' → Q none (o + 4, sh', X, R', I', L')) : gw_Call y_Po_init (d + 1) 3 9 [.ref o] (o + 1, sh, X, R, I, L) Q := by
  refine gw_call o_Po_init (Nat.le_of_ble_eq_true rfl) ?_
  have t1 : va_up sh (o + 1) (1, 3) o = (0, 3) := by simp (disch := omega) only [Nat.add_assoc, Nat.reduceAdd, gw_up_eq, gw_up_ne, ne_eq, not_false_eq_true]; exact s0
  have t2 : va_up (va_up sh (o + 1) (1, 3)) (o + 1 + 1) (1, 3) o = (0, 3) := by simp (disch := omega) only [Nat.add_assoc, Nat.reduceAdd, gw_up_eq, gw_up_ne, ne_eq, not_false_eq_true]; exact s0
  have t3 : va_up (va_up (va_up sh (o + 1) (1, 3)) (o + 1 + 1) (1, 3)) (o + 1 + 1 + 1) (1, 3) o = (0, 3) := by simp (disch := omega) only [Nat.add_assoc, Nat.reduceAdd, gw_up_eq, gw_up_ne, ne_eq, not_false_eq_true]; exact s0
  refine go_aload_n 0 d_Po_init_0 rfl rfl ?_
  refine go_obj d_Po_init_1 j_Po_3 gw_jo1 gw_jo2 (Nat.le_of_ble_eq_true rfl) ?_
  refine go_aload_n 0 d_Po_init_4 rfl rfl ?_
  refine go_iconst (v := 3) d_Po_init_5 rfl ?_
  refine go_newI (len := 3) d_Po_init_6 gw_aI rfl (by decide) (by omega) ?_
  refine go_putFR d_Po_init_8 f_Po_9 rfl rfl (by assumption) ?_
  refine go_aload_n 0 d_Po_init_11 rfl rfl ?_
  refine go_iconst (v := 3) d_Po_init_12 rfl ?_
  refine go_newI (len := 3) d_Po_init_13 gw_aI rfl (by decide) (by omega) ?_
  refine go_putFR d_Po_init_15 f_Po_15 rfl rfl (by assumption) ?_
  refine go_aload_n 0 d_Po_init_18 rfl rfl ?_
  refine go_iconst (v := 3) d_Po_init_19 rfl ?_
  refine go_newI (len := 3) d_Po_init_20 gw_aI rfl (by decide) (by omega) ?_
  refine go_putFR d_Po_init_22 f_Po_18 rfl rfl (by assumption) ?_
  exact go_vret d_Po_init_25 rfl (hQ _ _ _ _ ⟨t3, by simp (disch := omega) only [Nat.add_assoc, Nat.reduceAdd, gw_up_eq, gw_up_ne, ne_eq, not_false_eq_true], by simp (disch := omega) only [Nat.add_assoc, Nat.reduceAdd, gw_up_eq, gw_up_ne, ne_eq, not_false_eq_true], by simp (disch := omega) only [Nat.add_assoc, Nat.reduceAdd, gw_up_eq, gw_up_ne, ne_eq, not_false_eq_true], by simp (disch := omega) only [Nat.add_assoc, Nat.reduceAdd, gw_up_eq, gw_up_ne, ne_eq, not_false_eq_true], by simp (disch := omega) only [Nat.add_assoc, Nat.reduceAdd, gw_up_eq, gw_up_ne, ne_eq, not_false_eq_true], by simp (disch := omega) only [Nat.add_assoc, Nat.reduceAdd, gw_up_eq, gw_up_ne, ne_eq, not_false_eq_true]⟩ ⟨by simp (disch := omega) only [Nat.add_assoc, Nat.reduceAdd, gw_up_eq, gw_up_ne, ne_eq, not_false_eq_true]; rw [hI], by simp (disch := omega) only [Nat.add_assoc, Nat.reduceAdd, gw_up_eq, gw_up_ne, ne_eq, not_false_eq_true]; rw [hI]; rfl, by simp, fun j t ht => by cases ht⟩ (fun q hq => ⟨by simp (disch := omega) only [Nat.add_assoc, Nat.reduceAdd, gw_up_eq, gw_up_ne, ne_eq, not_false_eq_true], by simp (disch := omega) only [Nat.add_assoc, Nat.reduceAdd, gw_up_eq, gw_up_ne, ne_eq, not_false_eq_true], by simp (disch := omega) only [Nat.add_assoc, Nat.reduceAdd, gw_up_eq, gw_up_ne, ne_eq, not_false_eq_true], by simp (disch := omega) only [Nat.add_assoc, Nat.reduceAdd, gw_up_eq, gw_up_ne, ne_eq, not_false_eq_true]⟩))
theorem c_Fr_init {o : Nat} (s0 : sh o = (0, 5)) (hm : o < 1000000) (hQ : ∀ sh' R' I' L', pt_Fr sh' R' o → mk_fr o sh sh' R R' I I' L L' → Q none (o + 3, sh', X, R', I', L')) : gw_Call y_Fr_init (d + 1) 2 10 [.ref o] (o + 1, sh, X, R, I, L) Q := by
  refine gw_call o_Fr_init (Nat.le_of_ble_eq_true rfl) ?_
  have t1 : va_up sh (o + 1) (1, 4) o = (0, 5) := by simp (disch := omega) only [Nat.add_assoc, Nat.reduceAdd, gw_up_eq, gw_up_ne, ne_eq, not_false_eq_true]; exact s0
  have t2 : va_up (va_up sh (o + 1) (1, 4)) (o + 1 + 1) (1, 6) o = (0, 5) := by simp (disch := omega) only [Nat.add_assoc, Nat.reduceAdd, gw_up_eq, gw_up_ne, ne_eq, not_false_eq_true]; exact s0
  refine go_aload_n 0 d_Fr_init_0 rfl rfl ?_
  refine go_obj d_Fr_init_1 j_Fr_3 gw_jo1 gw_jo2 (Nat.le_of_ble_eq_true rfl) ?_
  refine go_aload_n 0 d_Fr_init_4 rfl rfl ?_
  refine go_iconst (v := 4) d_Fr_init_5 rfl ?_
  refine go_newI (len := 4) d_Fr_init_6 gw_aI rfl (by decide) (by omega) ?_
  refine go_putFR d_Fr_init_8 f_Fr_9 rfl rfl (by assumption) ?_
  refine go_aload_n 0 d_Fr_init_11 rfl rfl ?_
  refine go_bipush (v := 6) d_Fr_init_12 rfl ?_
  refine go_newI (len := 6) d_Fr_init_14 gw_aI rfl (by decide) (by omega) ?_
  refine go_putFR d_Fr_init_16 f_Fr_15 rfl rfl (by assumption) ?_
  exact go_vret d_Fr_init_19 rfl (hQ _ _ _ _ ⟨t2, by simp (disch := omega) only [Nat.add_assoc, Nat.reduceAdd, gw_up_eq, gw_up_ne, ne_eq, not_false_eq_true], by simp (disch := omega) only [Nat.add_assoc, Nat.reduceAdd, gw_up_eq, gw_up_ne, ne_eq, not_false_eq_true], by simp (disch := omega) only [Nat.add_assoc, Nat.reduceAdd, gw_up_eq, gw_up_ne, ne_eq, not_false_eq_true], by simp (disch := omega) only [Nat.add_assoc, Nat.reduceAdd, gw_up_eq, gw_up_ne, ne_eq, not_false_eq_true]⟩ (fun q hq => ⟨by simp (disch := omega) only [Nat.add_assoc, Nat.reduceAdd, gw_up_eq, gw_up_ne, ne_eq, not_false_eq_true], by simp (disch := omega) only [Nat.add_assoc, Nat.reduceAdd, gw_up_eq, gw_up_ne, ne_eq, not_false_eq_true], by simp (disch := omega) only [Nat.add_assoc, Nat.reduceAdd, gw_up_eq, gw_up_ne, ne_eq, not_false_eq_true], by simp (disch := omega) only [Nat.add_assoc, Nat.reduceAdd, gw_up_eq, gw_up_ne, ne_eq, not_false_eq_true]⟩))
theorem c_Sy_init {o : Nat} (s0 : sh o = (0, 8)) (hm : o < 1000000) (hQ : ∀ sh' R' I' L', pt_Sy sh' R' o → mk_fr o sh sh' R R' I I' L L' → Q none (o + 3, sh', X, R', I', L')) : gw_Call y_Sy_init (d + 1) 2 10 [.ref o] (o + 1, sh, X, R, I, L) Q := by
  refine gw_call o_Sy_init (Nat.le_of_ble_eq_true rfl) ?_
  have t1 : va_up sh (o + 1) (1, 5) o = (0, 8) := by simp (disch := omega) only [Nat.add_assoc, Nat.reduceAdd, gw_up_eq, gw_up_ne, ne_eq, not_false_eq_true]; exact s0
  have t2 : va_up (va_up sh (o + 1) (1, 5)) (o + 1 + 1) (2, 5) o = (0, 8) := by simp (disch := omega) only [Nat.add_assoc, Nat.reduceAdd, gw_up_eq, gw_up_ne, ne_eq, not_false_eq_true]; exact s0
  refine go_aload_n 0 d_Sy_init_0 rfl rfl ?_
  refine go_obj d_Sy_init_1 j_Sy_3 gw_jo1 gw_jo2 (Nat.le_of_ble_eq_true rfl) ?_
  refine go_aload_n 0 d_Sy_init_4 rfl rfl ?_
  refine go_iconst (v := 5) d_Sy_init_5 rfl ?_
  refine go_newI (len := 5) d_Sy_init_6 gw_aI rfl (by decide) (by omega) ?_
  refine go_putFR d_Sy_init_8 f_Sy_9 rfl rfl (by assumption) ?_
  refine go_aload_n 0 d_Sy_init_11 rfl rfl ?_
  refine go_iconst (v := 5) d_Sy_init_12 rfl ?_
  refine go_newL (len := 5) d_Sy_init_13 gw_aL rfl (by decide) (by omega) ?_
  refine go_putFR d_Sy_init_15 f_Sy_15 rfl rfl (by assumption) ?_
  exact go_vret d_Sy_init_18 rfl (hQ _ _ _ _ ⟨t2, by simp (disch := omega) only [Nat.add_assoc, Nat.reduceAdd, gw_up_eq, gw_up_ne, ne_eq, not_false_eq_true], by simp (disch := omega) only [Nat.add_assoc, Nat.reduceAdd, gw_up_eq, gw_up_ne, ne_eq, not_false_eq_true], by simp (disch := omega) only [Nat.add_assoc, Nat.reduceAdd, gw_up_eq, gw_up_ne, ne_eq, not_false_eq_true], by simp (disch := omega) only [Nat.add_assoc, Nat.reduceAdd, gw_up_eq, gw_up_ne, ne_eq, not_false_eq_true]⟩ (fun q hq => ⟨by simp (disch := omega) only [Nat.add_assoc, Nat.reduceAdd, gw_up_eq, gw_up_ne, ne_eq, not_false_eq_true], by simp (disch := omega) only [Nat.add_assoc, Nat.reduceAdd, gw_up_eq, gw_up_ne, ne_eq, not_false_eq_true], by simp (disch := omega) only [Nat.add_assoc, Nat.reduceAdd, gw_up_eq, gw_up_ne, ne_eq, not_false_eq_true], by simp (disch := omega) only [Nat.add_assoc, Nat.reduceAdd, gw_up_eq, gw_up_ne, ne_eq, not_false_eq_true]⟩))
theorem c_Kn_init {o : Nat} (s0 : sh o = (0, 9)) (hm : o < 1000000) (hQ : ∀ sh' R' I' L', pt_Kn sh' R' o → mk_fr o sh sh' R R' I I' L L' → Q none (o + 2, sh', X, R', I', L')) : gw_Call y_Kn_init (d + 1) 1 25 [.ref o] (o + 1, sh, X, R, I, L) Q := by
  refine gw_call o_Kn_init (Nat.le_of_ble_eq_true rfl) ?_
  have t1 : va_up sh (o + 1) (2, 25) o = (0, 9) := by simp (disch := omega) only [Nat.add_assoc, Nat.reduceAdd, gw_up_eq, gw_up_ne, ne_eq, not_false_eq_true]; exact s0
  refine go_aload_n 0 d_Kn_init_0 rfl rfl ?_
  refine go_obj d_Kn_init_1 j_Kn_3 gw_jo1 gw_jo2 (Nat.le_of_ble_eq_true rfl) ?_
  refine go_aload_n 0 d_Kn_init_4 rfl rfl ?_
  refine go_bipush (v := 25) d_Kn_init_5 rfl ?_
  refine go_newL (len := 25) d_Kn_init_7 gw_aL rfl (by decide) (by omega) ?_
  refine go_putFR d_Kn_init_9 f_Kn_9 rfl rfl (by assumption) ?_
  exact go_vret d_Kn_init_12 rfl (hQ _ _ _ _ ⟨t1, by simp (disch := omega) only [Nat.add_assoc, Nat.reduceAdd, gw_up_eq, gw_up_ne, ne_eq, not_false_eq_true], by simp (disch := omega) only [Nat.add_assoc, Nat.reduceAdd, gw_up_eq, gw_up_ne, ne_eq, not_false_eq_true]⟩ (fun q hq => ⟨by simp (disch := omega) only [Nat.add_assoc, Nat.reduceAdd, gw_up_eq, gw_up_ne, ne_eq, not_false_eq_true], by simp (disch := omega) only [Nat.add_assoc, Nat.reduceAdd, gw_up_eq, gw_up_ne, ne_eq, not_false_eq_true], by simp (disch := omega) only [Nat.add_assoc, Nat.reduceAdd, gw_up_eq, gw_up_ne, ne_eq, not_false_eq_true], by simp (disch := omega) only [Nat.add_assoc, Nat.reduceAdd, gw_up_eq, gw_up_ne, ne_eq, not_false_eq_true]⟩))
theorem c_Ba_init {o : Nat} (s0 : sh o = (0, 10)) (hm : o < 1000000) (hQ : ∀ sh' R' I' L', pt_Ba sh' R' o → mk_fr o sh sh' R R' I I' L L' → Q none (o + 2, sh', X, R', I', L')) : gw_Call y_Ba_init (d + 1) 1 25 [.ref o] (o + 1, sh, X, R, I, L) Q := by
  refine gw_call o_Ba_init (Nat.le_of_ble_eq_true rfl) ?_
  have t1 : va_up sh (o + 1) (2, 25) o = (0, 10) := by simp (disch := omega) only [Nat.add_assoc, Nat.reduceAdd, gw_up_eq, gw_up_ne, ne_eq, not_false_eq_true]; exact s0
  refine go_aload_n 0 d_Ba_init_0 rfl rfl ?_
  refine go_obj d_Ba_init_1 j_Ba_3 gw_jo1 gw_jo2 (Nat.le_of_ble_eq_true rfl) ?_
  refine go_aload_n 0 d_Ba_init_4 rfl rfl ?_
  refine go_bipush (v := 25) d_Ba_init_5 rfl ?_
  refine go_newL (len := 25) d_Ba_init_7 gw_aL rfl (by decide) (by omega) ?_
  refine go_putFR d_Ba_init_9 f_Ba_9 rfl rfl (by assumption) ?_
  exact go_vret d_Ba_init_12 rfl (hQ _ _ _ _ ⟨t1, by simp (disch := omega) only [Nat.add_assoc, Nat.reduceAdd, gw_up_eq, gw_up_ne, ne_eq, not_false_eq_true], by simp (disch := omega) only [Nat.add_assoc, Nat.reduceAdd, gw_up_eq, gw_up_ne, ne_eq, not_false_eq_true]⟩ (fun q hq => ⟨by simp (disch := omega) only [Nat.add_assoc, Nat.reduceAdd, gw_up_eq, gw_up_ne, ne_eq, not_false_eq_true], by simp (disch := omega) only [Nat.add_assoc, Nat.reduceAdd, gw_up_eq, gw_up_ne, ne_eq, not_false_eq_true], by simp (disch := omega) only [Nat.add_assoc, Nat.reduceAdd, gw_up_eq, gw_up_ne, ne_eq, not_false_eq_true], by simp (disch := omega) only [Nat.add_assoc, Nat.reduceAdd, gw_up_eq, gw_up_ne, ne_eq, not_false_eq_true]⟩))
end MK
