/-! Machine: one instruction -/
/-- frames (the top first), inputs read, words, the most that ran at once -/
abbrev rn_S : Type := List ab_Fr × Nat × Int32 × Int32
/-- how it went (0: on), the state, what was returned -/
abbrev rn_R : Type := Int32 × rn_S × Int32
def rn_val (x : Int32) : Bool := decide (-1000000 ≤ x) && decide (x ≤ 1000000)
theorem rn_val_iff {x : Int32} : rn_val x = true ↔ -1000000 ≤ x ∧ x ≤ 1000000 := by unfold rn_val; rw [Bool.and_eq_true, decide_eq_true_iff, decide_eq_true_iff]
def rn_tk (k : Nat) : Nat := match k with | 2 => 1 | 3 => 2 | 4 => 2 | 8 => 2 | 9 => 2 | 10 => 1 | 11 => 3 | 12 => 1 | 14 => 1 | _ => 0
def rn_pu (k : Nat) : Nat := match k with | 0 => 1 | 1 => 1 | 3 => 1 | 4 => 1 | 11 => 1 | 13 => 1 | _ => 0
/-- an instruction that cramps nothing, its place being left behind already -/
def rn_do (inp : List Int32) (k : Nat) (nn : Int32) (m : Nat) (p : Int32) (st : List Int32) (loc : Nat → Int32) (rest : List ab_Fr) (u : Nat) (wd dp : Int32) : rn_R := match k, st with
  | 0, st => (0, ((m, p, nn :: st, loc) :: rest, u, wd, dp), 0)
  | 1, st => (0, ((m, p, loc nn.toNatClampNeg :: st, loc) :: rest, u, wd, dp), 0)
  | 2, v :: st => (0, ((m, p, st, va_up loc nn.toNatClampNeg v) :: rest, u, wd, dp), 0)
  | 3, y :: x :: st => if rn_val (y + x) then (0, ((m, p, (y + x) :: st, loc) :: rest, u, wd, dp), 0) else (2, ([], u, wd, dp), 0)
  | 4, y :: x :: st => if rn_val (-y + x) then (0, ((m, p, (-y + x) :: st, loc) :: rest, u, wd, dp), 0) else (2, ([], u, wd, dp), 0)
  | 5, st => if rn_val (loc 0 + nn) then (0, ((m, p, st, va_up loc 0 (loc 0 + nn)) :: rest, u, wd, dp), 0) else (2, ([], u, wd, dp), 0)
  | 6, st => if rn_val (loc 1 + nn) then (0, ((m, p, st, va_up loc 1 (loc 1 + nn)) :: rest, u, wd, dp), 0) else (2, ([], u, wd, dp), 0)
  | 7, st => (0, ((m, nn, st, loc) :: rest, u, wd, dp), 0)
  | 8, y :: x :: st => (0, ((m, if decide (x < y) = true then nn else p, st, loc) :: rest, u, wd, dp), 0)
  | 9, y :: x :: st => (0, ((m, if decide (x < y) = false then nn else p, st, loc) :: rest, u, wd, dp), 0)
  | 10, v :: st => if v < 0 ∨ 1000000000 < wd + v + 2 then (2, ([], u, wd, dp), 0) else (0, ((m, p, st, loc) :: rest, u, wd + (v + 2), dp), 0)
  | 11, z :: y :: x :: st => (0, ((nn.toNatClampNeg, 0, [], ar_v x y z) :: (m, p, st, loc) :: rest, u, wd, if dp < nI (rest.length + 2) then nI (rest.length + 2) else dp), 0)
  | 12, v :: _ => (match rest with
    | [] => (1, ([], u, wd, dp), v)
    | (m2, p2, st2, loc2) :: r2 => (0, ((m2, p2, v :: st2, loc2) :: r2, u, wd, dp), 0))
  | 13, st => (match inp[u]? with
    | none => (0, ((m, p, 0 :: st, loc) :: rest, u, wd, dp), 0)
    | some v => (0, ((m, p, v :: st, loc) :: rest, u + 1, wd, dp), 0))
  | 14, _ :: st => (0, ((m, p, st, loc) :: rest, u, wd, dp), 0)
  | _, _ => (2, ([], u, wd, dp), 0)
def fs_at (I : Nat → Nat → Int32) : List ab_Fr → Prop
  | [] => True
  | f :: fs => fr_at I (333 + 3 * fs.length) f ∧ fs_at I fs
theorem fs_at.kept {I I' : Nat → Nat → Int32} : ∀ {fs : List ab_Fr}, fs_at I fs → (∀ q, 333 ≤ q → q < 333 + 3 * fs.length → I' q = I q) → fs_at I' fs
  | [], _, _ => trivial
  | f :: fs, h, hq => ⟨h.1.kept (hq _ (by omega) (by rw [List.length_cons]; omega)) (hq _ (by omega) (by rw [List.length_cons]; omega)) (hq _ (by omega) (by rw [List.length_cons]; omega)), h.2.kept (fun q a b => hq q a (by rw [List.length_cons]; omega))⟩
def rn_post (I I' : Nat → Nat → Int32) (r : rn_R) : Prop := (r.1 = 0 → fs_at I' r.2.1.1 ∧ I' 330 2 = nI (r.2.1.1.length - 1) ∧ I' 330 5 = nI r.2.1.2.1) ∧ I' 330 7 = r.2.1.2.2.1 ∧ I' 330 8 = r.2.1.2.2.2 ∧ (r.1 = 1 → I' 330 9 = r.2.2) ∧ (r.1 ≠ 1 → I' 330 9 = I 330 9) ∧ I' 330 4 = I 330 4 ∧ I' 330 6 = I 330 6 ∧ ∀ q, q < 330 ∨ q = 331 ∨ q = 332 ∨ 345 ≤ q → I' q = I q
theorem i_01 : ¬ (0 : Int32) = 1 := by decide
theorem i_10 : ¬ (1 : Int32) = 0 := by decide
theorem i_20 : ¬ (2 : Int32) = 0 := by decide
theorem i_21 : ¬ (2 : Int32) = 1 := by decide
section MA
variable {d n : Nat} {sh : Nat → Nat × Nat} {X : Nat × (Nat → Int32)} {R : Nat → Nat → Option Nat} {I : Nat → Nat → Int32} {L : Nat → Nat → Int64} {Q : Option Value → gw_Mem → Prop}
theorem c_Ma_takeWords {v wd : Int32} (hp : pt_Ma sh R) (ha : I 330 7 = wd) (hf : (v < 0 ∨ 1000000000 < wd + v + 2) → Q (some (.int 2)) (n, sh, X, R, I, L)) (hQ : ¬ (v < 0 ∨ 1000000000 < wd + v + 2) → Q (some (.int 0)) (n, sh, X, R, va_up I 330 (va_up (I 330) 7 (wd + (v + 2))), L)) : gw_Call y_Ma_takeWords d 0 0 [.ref 330, .int v] (n, sh, X, R, I, L) Q := by
  have s0 := hp.1
  refine gw_call o_Ma_takeWords (Nat.le_of_ble_eq_true rfl) ?_
  refine go_iload_n 1 d_Ma_takeWords_0 rfl rfl ?_
  refine go_if_lt 17 d_Ma_takeWords_1 rfl (fun h1 => ?_) (fun h1 => ?_)
  · refine go_iconst (v := 2) d_Ma_takeWords_17 rfl ?_
    first | exact go_iret d_Ma_takeWords_18 rfl (hf (Or.inl h1)) | exact go_iret d_Ma_takeWords_18 rfl (hf (Or.inr (Int32.not_le.mp h14)))
  · refine go_aload_n 0 d_Ma_takeWords_4 rfl rfl ?_
    refine go_getI d_Ma_takeWords_5 f_Ma_33 (by assumption) ?_
    refine go_iload_n 1 d_Ma_takeWords_8 rfl rfl ?_
    refine go_iadd d_Ma_takeWords_9 ?_
    refine go_iconst (v := 2) d_Ma_takeWords_10 rfl ?_
    refine go_iadd d_Ma_takeWords_11 ?_
    refine go_ldc d_Ma_takeWords_12 i_Ma_122 ?_
    rw [ha]
    refine go_icmp_le 19 d_Ma_takeWords_14 rfl (fun h14 => ?_) (fun h14 => ?_)
    · refine go_aload_n 0 d_Ma_takeWords_19 rfl rfl ?_
      refine go_dup d_Ma_takeWords_20 rfl ?_
      refine go_getI d_Ma_takeWords_21 f_Ma_33 (by assumption) ?_
      refine go_iload_n 1 d_Ma_takeWords_24 rfl rfl ?_
      refine go_iconst (v := 2) d_Ma_takeWords_25 rfl ?_
      refine go_iadd d_Ma_takeWords_26 ?_
      refine go_iadd d_Ma_takeWords_27 ?_
      rw [ha]
      refine go_putI d_Ma_takeWords_28 f_Ma_33 (by assumption) ?_
      refine go_iconst (v := 0) d_Ma_takeWords_31 rfl ?_
      exact go_iret d_Ma_takeWords_32 rfl (hQ (fun h => h.elim h1 (fun h => absurd h14 (Int32.not_le.mpr h))))
    · refine go_iconst (v := 2) d_Ma_takeWords_17 rfl ?_
      first | exact go_iret d_Ma_takeWords_18 rfl (hf (Or.inl h1)) | exact go_iret d_Ma_takeWords_18 rfl (hf (Or.inr (Int32.not_le.mp h14)))
theorem c_Ma_nextInput {u : Nat} {inp : List Int32} (hp : pt_Ma sh R) (h5 : I 330 5 = nI u) (hu : u ≤ inp.length) (h4 : I 330 4 = nI inp.length) (h12 : inp.length ≤ 12) (hi : ∀ (j : Nat) (v : Int32), inp[j]? = some v → I 332 j = v) (hN : inp[u]? = none → Q (some (.int 0)) (n, sh, X, R, I, L)) (hS : ∀ v, inp[u]? = some v → Q (some (.int v)) (n, sh, X, R, va_up I 330 (va_up (I 330) 5 (nI (u + 1))), L)) : gw_Call y_Ma_nextInput d 0 0 [.ref 330] (n, sh, X, R, I, L) Q := by
  obtain ⟨s0, s1, s2, r0, r1, r3, hfr⟩ := hp
  refine gw_call o_Ma_nextInput (Nat.le_of_ble_eq_true rfl) ?_
  refine go_aload_n 0 d_Ma_nextInput_0 rfl rfl ?_
  refine go_getI d_Ma_nextInput_1 f_Ma_42 (by assumption) ?_
  refine go_aload_n 0 d_Ma_nextInput_4 rfl rfl ?_
  refine go_getI d_Ma_nextInput_5 f_Ma_26 (by assumption) ?_
  refine go_icmp_lt 13 d_Ma_nextInput_8 rfl (fun h8 => ?_) (fun h8 => ?_)
  · have hlt : u < inp.length := by rw [h5, h4] at h8; exact (nI_ltI (by omega) (by omega)).mp h8
    refine go_aload_n 0 d_Ma_nextInput_13 rfl rfl ?_
    refine go_dup d_Ma_nextInput_14 rfl ?_
    refine go_getI d_Ma_nextInput_15 f_Ma_42 (by assumption) ?_
    refine go_iconst (v := 1) d_Ma_nextInput_18 rfl ?_
    refine go_iadd d_Ma_nextInput_19 ?_
    rw [show I 330 5 + 1 = nI (u + 1) by rw [h5, nI_succ]]
    refine go_putI d_Ma_nextInput_20 f_Ma_42 (by assumption) ?_
    refine go_aload_n 0 d_Ma_nextInput_23 rfl rfl ?_
    refine go_getR d_Ma_nextInput_24 f_Ma_17 (by assumption) (by assumption) ?_
    refine go_aload_n 0 d_Ma_nextInput_27 rfl rfl ?_
    refine go_getI d_Ma_nextInput_28 f_Ma_42 (by assumption) ?_
    refine go_iconst (v := 1) d_Ma_nextInput_31 rfl ?_
    refine go_isub d_Ma_nextInput_32 ?_
    refine go_iald (u) d_Ma_nextInput_33 (by assumption) (by simp [va_up]; exact nI_pred u) (by omega) (by decide) ?_
    have hv : inp[u]? = some inp[u] := List.getElem?_eq_getElem hlt
    rw [show va_up I 330 (va_up (I 330) 5 (nI (u + 1))) 332 u = inp[u] by rw [gw_up_ne (by decide)]; exact hi u _ hv]
    exact go_iret d_Ma_nextInput_34 rfl (hS _ hv)
  · refine go_iconst (v := 0) d_Ma_nextInput_11 rfl ?_
    exact go_iret d_Ma_nextInput_12 rfl (hN (List.getElem?_eq_none (Nat.not_lt.mp (fun hh => h8 (by rw [h5, h4]; exact nI_lt hh (by omega))))))
theorem c_Ma_enterCalled {m j : Nat} {p x y z dp : Int32} {st : List Int32} {loc : Nat → Int32} {rest : List ab_Fr} (hp : pt_Ma sh R) (ha : fr_at I (333 + 3 * rest.length) (m, p, z :: y :: x :: st, loc)) (hl : rest.length < 3) (h2 : I 330 2 = nI rest.length) (h8 : I 330 8 = dp) (hQ : ∀ I', fr_at I' (333 + 3 * rest.length) (m, p, st, loc) → fr_at I' (333 + 3 * (rest.length + 1)) (j, 0, [], ar_v x y z) → I' 330 2 = nI (rest.length + 1) → I' 330 8 = (if dp < nI (rest.length + 2) then nI (rest.length + 2) else dp) → (∀ i, i ≠ 2 → i ≠ 8 → I' 330 i = I 330 i) → (∀ q, q ≠ 330 → q ≠ 333 + 3 * rest.length → q ≠ 333 + 3 * (rest.length + 1) → q ≠ 333 + 3 * (rest.length + 1) + 1 → I' q = I q) → Q none (n, sh, X, R, I', L)) : gw_Call y_Ma_enterCalled (d + 1) 0 0 [.ref 330, .ref (333 + 3 * rest.length), .int (nI j)] (n, sh, X, R, I, L) Q := by
  have hp0 := hp
  obtain ⟨s0, s1, s2, r0, r1, r3, hfr⟩ := hp
  have hfo := hp0.fr (i := rest.length) (by omega)
  have so := hfo.1
  have hfn := hp0.fr (i := rest.length + 1) (by omega)
  have sn := hfn.1
  have hrn := (hfr (rest.length + 1) (by omega)).1
  refine gw_call o_Ma_enterCalled (Nat.le_of_ble_eq_true rfl) ?_
  refine go_aload_n 1 d_Ma_enterCalled_0 rfl rfl ?_
  refine go_V0 d_Ma_enterCalled_1 k_Ma_92 (by assumption) (Nat.le_of_ble_eq_true rfl) (c_Fr_pop hfo ha (fun I1 c1 c2 => ?_))
  refine go_istore_n 3 d_Ma_enterCalled_4 rfl (Nat.le_of_ble_eq_true rfl) ?_
  refine go_aload_n 1 d_Ma_enterCalled_5 rfl rfl ?_
  refine go_V0 d_Ma_enterCalled_6 k_Ma_92 (by assumption) (Nat.le_of_ble_eq_true rfl) (c_Fr_pop hfo c1 (fun I2 c3 c4 => ?_))
  refine go_istore d_Ma_enterCalled_9 (Nat.le_of_ble_eq_true rfl) ?_
  refine go_aload_n 1 d_Ma_enterCalled_11 rfl rfl ?_
  refine go_V0 d_Ma_enterCalled_12 k_Ma_92 (by assumption) (Nat.le_of_ble_eq_true rfl) (c_Fr_pop hfo c3 (fun I3 c5 c6 => ?_))
  refine go_istore d_Ma_enterCalled_15 (Nat.le_of_ble_eq_true rfl) ?_
  have k3 : ∀ q, q ≠ 333 + 3 * rest.length → I3 q = I q := fun q hq => by rw [c6 q hq, c4 q hq, c2 q hq]
  have e330 : I3 330 = I 330 := k3 330 (by omega)
  refine go_aload_n 0 d_Ma_enterCalled_17 rfl rfl ?_
  refine go_getI d_Ma_enterCalled_18 f_Ma_45 (by assumption) ?_
  refine go_iconst (v := 3) d_Ma_enterCalled_21 rfl ?_
  refine go_icmp_ge 70 d_Ma_enterCalled_22 rfl (fun hn => absurd hn (by rw [e330, h2]; exact nI_ge (b := 3) hl (by decide))) (fun _ => ?_)
  refine go_aload_n 0 d_Ma_enterCalled_25 rfl rfl ?_
  refine go_dup d_Ma_enterCalled_26 rfl ?_
  refine go_getI d_Ma_enterCalled_27 f_Ma_45 (by assumption) ?_
  refine go_iconst (v := 1) d_Ma_enterCalled_30 rfl ?_
  refine go_iadd d_Ma_enterCalled_31 ?_
  rw [show I3 330 2 + 1 = nI (rest.length + 1) by rw [e330, h2, nI_succ]]
  refine go_putI d_Ma_enterCalled_32 f_Ma_45 (by assumption) ?_
  refine go_aload_n 0 d_Ma_enterCalled_35 rfl rfl ?_
  refine go_getR d_Ma_enterCalled_36 f_Ma_11 (by assumption) (by assumption) ?_
  refine go_aload_n 0 d_Ma_enterCalled_39 rfl rfl ?_
  refine go_getI d_Ma_enterCalled_40 f_Ma_45 (by assumption) ?_
  refine go_aald (t := 3) (rest.length + 1) d_Ma_enterCalled_43 (by assumption) (by decide) (by simp [va_up]) (by omega) (by decide) (by assumption) ?_
  refine go_iload_n 2 d_Ma_enterCalled_44 rfl rfl ?_
  refine go_iload d_Ma_enterCalled_45 rfl ?_
  refine go_iload d_Ma_enterCalled_47 rfl ?_
  refine go_iload_n 3 d_Ma_enterCalled_49 rfl rfl ?_
  refine go_V4 d_Ma_enterCalled_50 k_Ma_48 (by assumption) (Nat.le_of_ble_eq_true rfl) (c_Fr_enter (m := j) hfn (fun I4 c7 c8 => ?_))
  have e4 : I4 330 = va_up (I 330) 2 (nI (rest.length + 1)) := by rw [c8 330 (by omega) (by omega), gw_up_eq, e330]
  refine go_aload_n 0 d_Ma_enterCalled_53 rfl rfl ?_
  refine go_aload_n 0 d_Ma_enterCalled_54 rfl rfl ?_
  refine go_getI d_Ma_enterCalled_55 f_Ma_36 (by assumption) ?_
  refine go_aload_n 0 d_Ma_enterCalled_58 rfl rfl ?_
  refine go_getI d_Ma_enterCalled_59 f_Ma_45 (by assumption) ?_
  refine go_iconst (v := 1) d_Ma_enterCalled_62 rfl ?_
  refine go_iadd d_Ma_enterCalled_63 ?_
  rw [show I4 330 2 + 1 = nI (rest.length + 2) by rw [e4, gw_up_eq]; exact (nI_succ _).symm, show I4 330 8 = dp by rw [e4, gw_up_ne (by decide), h8]]
  refine go_max d_Ma_enterCalled_64 j_Ma_123 gw_jm1 gw_jm2 gw_jm3 (Nat.le_of_ble_eq_true rfl) ?_
  refine go_putI d_Ma_enterCalled_67 f_Ma_36 (by assumption) ?_
  exact go_vret d_Ma_enterCalled_70 rfl (hQ _ (c5.kept (by rw [gw_up_ne (by omega), c8 _ (by omega) (by omega), gw_up_ne (by omega)]) (by rw [gw_up_ne (by omega), c8 _ (by omega) (by omega), gw_up_ne (by omega)]) (by rw [gw_up_ne (by omega), c8 _ (by omega) (by omega), gw_up_ne (by omega)])) (c7.kept (gw_up_ne (by omega)) (gw_up_ne (by omega)) (gw_up_ne (by omega))) (by rw [gw_up_eq, gw_up_ne (by decide), e4, gw_up_eq]) (by rw [gw_up_eq, gw_up_eq]) (fun i a b => by rw [gw_up_eq, gw_up_ne b, e4, gw_up_ne a]) (fun q a b c e => by rw [gw_up_ne a, c8 q c e, gw_up_ne a, k3 q b]))
theorem c_Ma_leave0 {v : Int32} (hp : pt_Ma sh R) (h2 : I 330 2 = nI 0) (hQ : Q (some (.int 1)) (n, sh, X, R, va_up I 330 (va_up (I 330) 9 v), L)) : gw_Call y_Ma_leave d 0 0 [.ref 330, .int v] (n, sh, X, R, I, L) Q := by
  have s0 := hp.1
  refine gw_call o_Ma_leave (Nat.le_of_ble_eq_true rfl) ?_
  refine go_aload_n 0 d_Ma_leave_0 rfl rfl ?_
  refine go_getI d_Ma_leave_1 f_Ma_45 (by assumption) ?_
  refine go_if_ne 14 d_Ma_leave_4 rfl (fun hn => absurd hn (fun h => h (by rw [h2]; rfl))) (fun _ => ?_)
  refine go_aload_n 0 d_Ma_leave_7 rfl rfl ?_
  refine go_iload_n 1 d_Ma_leave_8 rfl rfl ?_
  refine go_putI d_Ma_leave_9 f_Ma_39 (by assumption) ?_
  refine go_iconst (v := 1) d_Ma_leave_12 rfl ?_
  exact go_iret d_Ma_leave_13 rfl (hQ)
theorem c_Ma_leave1 {v : Int32} {m2 : Nat} {p2 : Int32} {st2 : List Int32} {loc2 : Nat → Int32} {r2 : List ab_Fr} (hp : pt_Ma sh R) (h2 : I 330 2 = nI (r2.length + 1)) (hl : r2.length < 3) (ha : fr_at I (333 + 3 * r2.length) (m2, p2, st2, loc2)) (h6 : st2.length < 6) (hQ : ∀ I', fr_at I' (333 + 3 * r2.length) (m2, p2, v :: st2, loc2) → I' 330 2 = nI r2.length → (∀ i, i ≠ 2 → I' 330 i = I 330 i) → (∀ q, q ≠ 330 → q ≠ 333 + 3 * r2.length → q ≠ 333 + 3 * r2.length + 2 → I' q = I q) → Q (some (.int 0)) (n, sh, X, R, I', L)) : gw_Call y_Ma_leave (d + 1) 0 0 [.ref 330, .int v] (n, sh, X, R, I, L) Q := by
  have hp0 := hp
  obtain ⟨s0, s1, s2, r0, r1, r3, hfr⟩ := hp
  have hfo := hp0.fr (i := r2.length) (by omega)
  have so := hfo.1
  have hro := (hfr r2.length (by omega)).1
  refine gw_call o_Ma_leave (Nat.le_of_ble_eq_true rfl) ?_
  refine go_aload_n 0 d_Ma_leave_0 rfl rfl ?_
  refine go_getI d_Ma_leave_1 f_Ma_45 (by assumption) ?_
  refine go_if_ne 14 d_Ma_leave_4 rfl (fun _ => ?_) (fun hn => by first | exact absurd hn (by rw [h2]; exact nI_ne0 (by omega) (by omega)) | exact absurd (by rw [h2]; exact nI_ne0 (by omega) (by omega)) hn)
  refine go_aload_n 0 d_Ma_leave_14 rfl rfl ?_
  refine go_dup d_Ma_leave_15 rfl ?_
  refine go_getI d_Ma_leave_16 f_Ma_45 (by assumption) ?_
  refine go_iconst (v := 1) d_Ma_leave_19 rfl ?_
  refine go_isub d_Ma_leave_20 ?_
  rw [show I 330 2 - 1 = nI r2.length by rw [h2]; exact nI_pred _]
  refine go_putI d_Ma_leave_21 f_Ma_45 (by assumption) ?_
  refine go_aload_n 0 d_Ma_leave_24 rfl rfl ?_
  refine go_getR d_Ma_leave_25 f_Ma_11 (by assumption) (by assumption) ?_
  refine go_aload_n 0 d_Ma_leave_28 rfl rfl ?_
  refine go_getI d_Ma_leave_29 f_Ma_45 (by assumption) ?_
  refine go_aald (t := 3) (r2.length) d_Ma_leave_32 (by assumption) (by decide) (by simp [va_up]) (by omega) (by decide) (by assumption) ?_
  refine go_iload_n 1 d_Ma_leave_33 rfl rfl ?_
  refine go_V1 d_Ma_leave_34 k_Ma_85 (by assumption) (Nat.le_of_ble_eq_true rfl) (c_Fr_push hfo (ha.kept (gw_up_ne (by omega)) (gw_up_ne (by omega)) (gw_up_ne (by omega))) h6 (fun I1 c1 c2 => ?_))
  refine go_iconst (v := 0) d_Ma_leave_37 rfl ?_
  exact go_iret d_Ma_leave_38 rfl (hQ I1 c1 (by rw [c2 330 (by omega) (by omega), gw_up_eq, gw_up_eq]) (fun i hi => by rw [c2 330 (by omega) (by omega), gw_up_eq, gw_up_ne hi]) (fun q a b c => by rw [c2 q b c, gw_up_ne a]))

/-- what an instruction may count on when it cramps nothing -/
def rn_pre (k : Nat) (nn : Int32) (m : Nat) (st : List Int32) (rest : List ab_Fr) : Prop := k < 15 ∧ rn_tk k ≤ st.length ∧ st.length - rn_tk k + rn_pu k ≤ 6 ∧ ((k = 1 ∨ k = 2) → ∃ j, j < 4 ∧ nn = nI j) ∧ (k = 11 → (∃ j, j < m ∧ nn = nI j) ∧ rest.length < 3) ∧ m < 4 ∧ rest.length < 4 ∧ ∀ f ∈ rest, f.2.2.1.length < 6

theorem c_Ma_perform {inp : List Int32} {k m u : Nat} {nn p wd dp : Int32} {st : List Int32} {loc : Nat → Int32} {rest : List ab_Fr} (hp : pt_Ma sh R) (hpre : rn_pre k nn m st rest) (hfs : fs_at I ((m, p, st, loc) :: rest)) (h2 : I 330 2 = nI rest.length) (h5 : I 330 5 = nI u) (hu : u ≤ inp.length) (h4 : I 330 4 = nI inp.length) (h12 : inp.length ≤ 12) (hi : ∀ (j : Nat) (v : Int32), inp[j]? = some v → I 332 j = v) (h7 : I 330 7 = wd) (h8 : I 330 8 = dp) (hQ : ∀ I', rn_post I I' (rn_do inp k nn m p st loc rest u wd dp) → Q (some (.int (rn_do inp k nn m p st loc rest u wd dp).1)) (n, sh, X, R, I', L)) : gw_Call y_Ma_perform (d + 3) 0 0 [.ref 330, .ref (333 + 3 * rest.length), .int (nI k), .int nn] (n, sh, X, R, I, L) Q := by
  have hp0 := hp
  obtain ⟨s0, s1, s2, r0, r1, r3, hfr⟩ := hp
  obtain ⟨q1, q2, q3, q4, q5, qm, q6, q7⟩ := hpre
  obtain ⟨hf, hr⟩ := hfs
  have hfo := hp0.fr (i := rest.length) q6
  have hfo0 := hfo
  obtain ⟨so, so1, so2, ro0, ro1⟩ := hfo
  have hst6 := hf.2.1
  -- what stays when frame and machine alone are written
  have keep : ∀ (I' : Nat → Nat → Int32), (∀ q, q ≠ 330 → q ≠ 333 + 3 * rest.length → q ≠ 333 + 3 * rest.length + 1 → q ≠ 333 + 3 * rest.length + 2 → I' q = I q) → fs_at I' rest ∧ ∀ q, q < 330 ∨ q = 331 ∨ q = 332 ∨ 345 ≤ q → I' q = I q := fun I' hk => ⟨hr.kept (fun q a b => hk q (by omega) (by omega) (by omega) (by omega)), fun q hq => hk q (by omega) (by omega) (by omega) (by omega)⟩
  have post0 : ∀ (I' : Nat → Nat → Int32) (f' : ab_Fr), (∀ q, q ≠ 333 + 3 * rest.length → q ≠ 333 + 3 * rest.length + 1 → q ≠ 333 + 3 * rest.length + 2 → I' q = I q) → fr_at I' (333 + 3 * rest.length) f' → rn_post I I' (0, (f' :: rest, u, wd, dp), 0) := fun I' f' hk hf' => by
    obtain ⟨k1, k2⟩ := keep I' (fun q _ a b c => hk q a b c)
    have e := hk 330 (by omega) (by omega) (by omega)
    exact ⟨fun _ => ⟨⟨hf', k1⟩, by rw [e]; exact h2, by rw [e]; exact h5⟩, by rw [e]; exact h7, by rw [e]; exact h8, fun h => absurd h i_01, fun _ => by rw [e], by rw [e], by rw [e], k2⟩
  have post2 : ∀ (I' : Nat → Nat → Int32), (∀ q, q ≠ 333 + 3 * rest.length → q ≠ 333 + 3 * rest.length + 1 → q ≠ 333 + 3 * rest.length + 2 → I' q = I q) → rn_post I I' (2, ([], u, wd, dp), 0) := fun I' hk => by
    obtain ⟨k1, k2⟩ := keep I' (fun q _ a b c => hk q a b c)
    have e := hk 330 (by omega) (by omega) (by omega)
    exact ⟨fun h => absurd h i_20, by rw [e]; exact h7, by rw [e]; exact h8, fun h => absurd h i_21, fun _ => by rw [e], by rw [e], by rw [e], k2⟩
  refine gw_call o_Ma_perform (Nat.le_of_ble_eq_true rfl) ?_
  refine go_iload_n 2 d_Ma_perform_0 rfl rfl ?_
  rcases (show k = 0 ∨ k = 1 ∨ k = 2 ∨ k = 3 ∨ k = 4 ∨ k = 5 ∨ k = 6 ∨ k = 7 ∨ k = 8 ∨ k = 9 ∨ k = 10 ∨ k = 11 ∨ k = 12 ∨ k = 13 ∨ k = 14 by omega) with rfl | rfl | rfl | rfl | rfl | rfl | rfl | rfl | rfl | rfl | rfl | rfl | rfl | rfl | rfl
  · refine go_tableIn 76 d_Ma_perform_1 (by decide) (by decide) rfl rfl ?_
    have hl6 : st.length < 6 := by simp only [rn_tk, rn_pu] at q3; omega
    refine go_aload_n 1 d_Ma_perform_76 rfl rfl ?_
    refine go_iload_n 3 d_Ma_perform_77 rfl rfl ?_
    refine go_V1 d_Ma_perform_78 k_Ma_85 (by assumption) (Nat.le_of_ble_eq_true rfl) (c_Fr_push hfo0 hf hl6 (fun I1 c1 c2 => ?_))
    refine go_iconst (v := 0) d_Ma_perform_81 rfl ?_
    exact go_iret d_Ma_perform_82 rfl (hQ I1 (post0 I1 _ (fun q a b c => c2 q a c) c1))
  · refine go_tableIn 83 d_Ma_perform_1 (by decide) (by decide) rfl rfl ?_
    have hl6 : st.length < 6 := by simp only [rn_tk, rn_pu] at q3; omega
    obtain ⟨j, hj, rfl⟩ := q4 (Or.inl rfl)
    have hlj := hf.2.2.2.2.2 j hj
    refine go_aload_n 1 d_Ma_perform_83 rfl rfl ?_
    refine go_aload_n 1 d_Ma_perform_84 rfl rfl ?_
    refine go_getR d_Ma_perform_85 f_Ma_89 (by assumption) (by assumption) ?_
    refine go_iload_n 3 d_Ma_perform_88 rfl rfl ?_
    refine go_iald (j) d_Ma_perform_89 (by assumption) (rfl) (hj) (by decide) ?_
    rw [hlj]
    refine go_V1 d_Ma_perform_90 k_Ma_85 (by assumption) (Nat.le_of_ble_eq_true rfl) (c_Fr_push hfo0 hf hl6 (fun I1 c1 c2 => ?_))
    refine go_iconst (v := 0) d_Ma_perform_93 rfl ?_
    exact go_iret d_Ma_perform_94 rfl (hQ I1 (post0 I1 _ (fun q a b c => c2 q a c) (by rw [nI_clamp (by omega)]; exact c1)))
  · refine go_tableIn 95 d_Ma_perform_1 (by decide) (by decide) rfl rfl ?_
    obtain ⟨v, st, rfl⟩ : ∃ v s, st = v :: s := by cases st with | nil => exact absurd q2 (by decide) | cons v s => exact ⟨v, s, rfl⟩
    have hl6 : st.length + 1 ≤ 6 := hst6
    obtain ⟨j, hj, rfl⟩ := q4 (Or.inr rfl)
    refine go_aload_n 1 d_Ma_perform_95 rfl rfl ?_
    refine go_getR d_Ma_perform_96 f_Ma_89 (by assumption) (by assumption) ?_
    refine go_iload_n 3 d_Ma_perform_99 rfl rfl ?_
    refine go_aload_n 1 d_Ma_perform_100 rfl rfl ?_
    refine go_V0 d_Ma_perform_101 k_Ma_92 (by assumption) (Nat.le_of_ble_eq_true rfl) (c_Fr_pop hfo0 hf (fun I1 c1 c2 => ?_))
    refine go_iast (j) d_Ma_perform_104 (by assumption) (rfl) (hj) (by decide) ?_
    refine go_iconst (v := 0) d_Ma_perform_105 rfl ?_
    exact go_iret d_Ma_perform_106 rfl (hQ _ (post0 _ _ (fun q a b c => by rw [gw_up_ne b]; exact c2 q a) (by rw [nI_clamp (by omega)]; obtain ⟨e1, e2, e3, e4, e5, e6⟩ := c1; exact ⟨by rw [gw_up_ne (by omega)]; exact e1, e2, by rw [gw_up_ne (by omega)]; exact e3, by rw [gw_up_ne (by omega)]; exact e4, by rw [gw_up_ne (by omega)]; exact e5, fun i hi9 => by rw [gw_up_eq]; by_cases he : i = j; (subst he; simp [va_up]); (rw [gw_up_ne he]; show _ = va_up loc j v i; rw [gw_up_ne he]; exact e6 i hi9)⟩)))
  · refine go_tableIn 107 d_Ma_perform_1 (by decide) (by decide) rfl rfl ?_
    obtain ⟨y, x, st, rfl⟩ : ∃ y x s, st = y :: x :: s := by cases st with | nil => exact absurd q2 (by decide) | cons y s => cases s with | nil => exact absurd q2 (by simp [rn_tk]) | cons x s => exact ⟨y, x, s, rfl⟩
    have hl6 : st.length + 2 ≤ 6 := hst6
    refine go_aload_n 1 d_Ma_perform_107 rfl rfl ?_
    refine go_aload_n 1 d_Ma_perform_108 rfl rfl ?_
    refine go_V0 d_Ma_perform_109 k_Ma_92 (by assumption) (Nat.le_of_ble_eq_true rfl) (c_Fr_pop hfo0 hf (fun I1 c1 c2 => ?_))
    refine go_aload_n 1 d_Ma_perform_112 rfl rfl ?_
    refine go_V0 d_Ma_perform_113 k_Ma_92 (by assumption) (Nat.le_of_ble_eq_true rfl) (c_Fr_pop hfo0 c1 (fun I2 c3 c4 => ?_))
    refine go_S3 d_Ma_perform_116 k_Ma_95 (Nat.le_of_ble_eq_true rfl) (c_Ma_pushSum hfo0 c3 (by omega) (fun hv => ?_) (fun hv I3 c5 c6 => ?_))
    · have e : rn_do inp 3 nn m p (y :: x :: st) loc rest u wd dp = (2, ([], u, wd, dp), 0) := by simp only [rn_do]; rw [if_neg (fun h => hv (rn_val_iff.mp h))]
      rw [e] at hQ
      exact go_iret d_Ma_perform_119 rfl (hQ I2 (post2 I2 (fun q a b c => by rw [c4 q a, c2 q a])))
    · have e : rn_do inp 3 nn m p (y :: x :: st) loc rest u wd dp = (0, ((m, p, (y + x) :: st, loc) :: rest, u, wd, dp), 0) := by simp only [rn_do]; rw [if_pos (rn_val_iff.mpr hv)]
      rw [e] at hQ
      exact go_iret d_Ma_perform_119 rfl (hQ I3 (post0 I3 _ (fun q a b c => by rw [c6 q a c, c4 q a, c2 q a]) c5))
  · refine go_tableIn 120 d_Ma_perform_1 (by decide) (by decide) rfl rfl ?_
    obtain ⟨y, x, st, rfl⟩ : ∃ y x s, st = y :: x :: s := by cases st with | nil => exact absurd q2 (by decide) | cons y s => cases s with | nil => exact absurd q2 (by simp [rn_tk]) | cons x s => exact ⟨y, x, s, rfl⟩
    have hl6 : st.length + 2 ≤ 6 := hst6
    refine go_aload_n 1 d_Ma_perform_120 rfl rfl ?_
    refine go_aload_n 1 d_Ma_perform_121 rfl rfl ?_
    refine go_V0 d_Ma_perform_122 k_Ma_92 (by assumption) (Nat.le_of_ble_eq_true rfl) (c_Fr_pop hfo0 hf (fun I1 c1 c2 => ?_))
    refine go_ineg d_Ma_perform_125 ?_
    refine go_aload_n 1 d_Ma_perform_126 rfl rfl ?_
    refine go_V0 d_Ma_perform_127 k_Ma_92 (by assumption) (Nat.le_of_ble_eq_true rfl) (c_Fr_pop hfo0 c1 (fun I2 c3 c4 => ?_))
    refine go_S3 d_Ma_perform_130 k_Ma_95 (Nat.le_of_ble_eq_true rfl) (c_Ma_pushSum hfo0 c3 (by omega) (fun hv => ?_) (fun hv I3 c5 c6 => ?_))
    · have e : rn_do inp 4 nn m p (y :: x :: st) loc rest u wd dp = (2, ([], u, wd, dp), 0) := by simp only [rn_do]; rw [if_neg (fun h => hv (rn_val_iff.mp h))]
      rw [e] at hQ
      exact go_iret d_Ma_perform_133 rfl (hQ I2 (post2 I2 (fun q a b c => by rw [c4 q a, c2 q a])))
    · have e : rn_do inp 4 nn m p (y :: x :: st) loc rest u wd dp = (0, ((m, p, (-y + x) :: st, loc) :: rest, u, wd, dp), 0) := by simp only [rn_do]; rw [if_pos (rn_val_iff.mpr hv)]
      rw [e] at hQ
      exact go_iret d_Ma_perform_133 rfl (hQ I3 (post0 I3 _ (fun q a b c => by rw [c6 q a c, c4 q a, c2 q a]) c5))
  · refine go_tableIn 134 d_Ma_perform_1 (by decide) (by decide) rfl rfl ?_
    refine go_aload_n 1 d_Ma_perform_134 rfl rfl ?_
    refine go_iconst (v := 0) d_Ma_perform_135 rfl ?_
    refine go_iload_n 3 d_Ma_perform_136 rfl rfl ?_
    refine go_S3 d_Ma_perform_137 k_Ma_98 (Nat.le_of_ble_eq_true rfl) (c_Ma_growLocal (j := 0) hfo0 hf (by decide) (fun hv => ?_) (fun hv I3 c5 c6 => ?_))
    · have e : rn_do inp 5 nn m p st loc rest u wd dp = (2, ([], u, wd, dp), 0) := by simp only [rn_do]; rw [if_neg (fun h => hv (rn_val_iff.mp h))]
      rw [e] at hQ
      exact go_iret d_Ma_perform_140 rfl (hQ I (post2 I (fun q a b c => rfl)))
    · have e : rn_do inp 5 nn m p st loc rest u wd dp = (0, ((m, p, st, va_up loc 0 (loc 0 + nn)) :: rest, u, wd, dp), 0) := by simp only [rn_do]; rw [if_pos (rn_val_iff.mpr hv)]
      rw [e] at hQ
      exact go_iret d_Ma_perform_140 rfl (hQ I3 (post0 I3 _ (fun q a b c => c6 q b) c5))
  · refine go_tableIn 141 d_Ma_perform_1 (by decide) (by decide) rfl rfl ?_
    refine go_aload_n 1 d_Ma_perform_141 rfl rfl ?_
    refine go_iconst (v := 1) d_Ma_perform_142 rfl ?_
    refine go_iload_n 3 d_Ma_perform_143 rfl rfl ?_
    refine go_S3 d_Ma_perform_144 k_Ma_98 (Nat.le_of_ble_eq_true rfl) (c_Ma_growLocal (j := 1) hfo0 hf (by decide) (fun hv => ?_) (fun hv I3 c5 c6 => ?_))
    · have e : rn_do inp 6 nn m p st loc rest u wd dp = (2, ([], u, wd, dp), 0) := by simp only [rn_do]; rw [if_neg (fun h => hv (rn_val_iff.mp h))]
      rw [e] at hQ
      exact go_iret d_Ma_perform_147 rfl (hQ I (post2 I (fun q a b c => rfl)))
    · have e : rn_do inp 6 nn m p st loc rest u wd dp = (0, ((m, p, st, va_up loc 1 (loc 1 + nn)) :: rest, u, wd, dp), 0) := by simp only [rn_do]; rw [if_pos (rn_val_iff.mpr hv)]
      rw [e] at hQ
      exact go_iret d_Ma_perform_147 rfl (hQ I3 (post0 I3 _ (fun q a b c => c6 q b) c5))
  · refine go_tableIn 148 d_Ma_perform_1 (by decide) (by decide) rfl rfl ?_
    refine go_aload_n 1 d_Ma_perform_148 rfl rfl ?_
    refine go_iload_n 3 d_Ma_perform_149 rfl rfl ?_
    refine go_putI d_Ma_perform_150 f_Ma_59 (by assumption) ?_
    refine go_iconst (v := 0) d_Ma_perform_153 rfl ?_
    exact go_iret d_Ma_perform_154 rfl (hQ _ (post0 _ _ (fun q a b c => gw_up_ne a) (by obtain ⟨e1, e2, e3, e4, e5, e6⟩ := hf; exact ⟨by simp [va_up]; exact e1, e2, by simp [va_up]; exact e3, by simp [va_up], by rw [gw_up_ne (by omega)]; exact e5, fun i hi9 => by rw [gw_up_ne (by omega)]; exact e6 i hi9⟩)))
  · refine go_tableIn 155 d_Ma_perform_1 (by decide) (by decide) rfl rfl ?_
    obtain ⟨y, x, st, rfl⟩ : ∃ y x s, st = y :: x :: s := by cases st with | nil => exact absurd q2 (by decide) | cons y s => cases s with | nil => exact absurd q2 (by simp [rn_tk]) | cons x s => exact ⟨y, x, s, rfl⟩
    have hl6 : st.length + 2 ≤ 6 := hst6
    refine go_aload_n 1 d_Ma_perform_155 rfl rfl ?_
    refine go_iload_n 2 d_Ma_perform_156 rfl rfl ?_
    refine go_bipush (v := 8) d_Ma_perform_157 rfl ?_
    refine go_icmp_ne 166 d_Ma_perform_159 rfl (fun hn => absurd hn (by decide)) (fun _ => ?_)
    refine go_iconst (v := 1) d_Ma_perform_162 rfl ?_
    refine go_goto 167 d_Ma_perform_163 rfl ?_
    refine go_iload_n 3 d_Ma_perform_167 rfl rfl ?_
    refine go_S3 d_Ma_perform_168 k_Ma_101 (Nat.le_of_ble_eq_true rfl) (c_Ma_goIf (b := true) hfo0 hf (fun I1 c1 c2 => ?_))
    refine go_iconst (v := 0) d_Ma_perform_171 rfl ?_
    exact go_iret d_Ma_perform_172 rfl (hQ I1 (post0 I1 _ (fun q a b c => c2 q a) c1))
  · refine go_tableIn 155 d_Ma_perform_1 (by decide) (by decide) rfl rfl ?_
    obtain ⟨y, x, st, rfl⟩ : ∃ y x s, st = y :: x :: s := by cases st with | nil => exact absurd q2 (by decide) | cons y s => cases s with | nil => exact absurd q2 (by simp [rn_tk]) | cons x s => exact ⟨y, x, s, rfl⟩
    have hl6 : st.length + 2 ≤ 6 := hst6
    refine go_aload_n 1 d_Ma_perform_155 rfl rfl ?_
    refine go_iload_n 2 d_Ma_perform_156 rfl rfl ?_
    refine go_bipush (v := 8) d_Ma_perform_157 rfl ?_
    refine go_icmp_ne 166 d_Ma_perform_159 rfl (fun _ => ?_) (fun hn => by first | exact absurd hn (by decide) | exact absurd (by decide) hn)
    refine go_iconst (v := 0) d_Ma_perform_166 rfl ?_
    refine go_iload_n 3 d_Ma_perform_167 rfl rfl ?_
    refine go_S3 d_Ma_perform_168 k_Ma_101 (Nat.le_of_ble_eq_true rfl) (c_Ma_goIf (b := false) hfo0 hf (fun I1 c1 c2 => ?_))
    refine go_iconst (v := 0) d_Ma_perform_171 rfl ?_
    exact go_iret d_Ma_perform_172 rfl (hQ I1 (post0 I1 _ (fun q a b c => c2 q a) c1))
  · refine go_tableIn 173 d_Ma_perform_1 (by decide) (by decide) rfl rfl ?_
    obtain ⟨v, st, rfl⟩ : ∃ v s, st = v :: s := by cases st with | nil => exact absurd q2 (by decide) | cons v s => exact ⟨v, s, rfl⟩
    have hl6 : st.length + 1 ≤ 6 := hst6
    refine go_aload_n 0 d_Ma_perform_173 rfl rfl ?_
    refine go_aload_n 1 d_Ma_perform_174 rfl rfl ?_
    refine go_V0 d_Ma_perform_175 k_Ma_92 (by assumption) (Nat.le_of_ble_eq_true rfl) (c_Fr_pop hfo0 hf (fun I1 c1 c2 => ?_))
    refine go_V1 d_Ma_perform_178 k_Ma_105 (by assumption) (Nat.le_of_ble_eq_true rfl) (c_Ma_takeWords (wd := wd) hp0 (by rw [c2 330 (by omega)]; exact h7) (fun hv => ?_) (fun hv => ?_))
    · have e : rn_do inp 10 nn m p (v :: st) loc rest u wd dp = (2, ([], u, wd, dp), 0) := by simp only [rn_do]; rw [if_pos hv]
      rw [e] at hQ
      exact go_iret d_Ma_perform_181 rfl (hQ I1 (post2 I1 (fun q a b c => c2 q a)))
    · have e : rn_do inp 10 nn m p (v :: st) loc rest u wd dp = (0, ((m, p, st, loc) :: rest, u, wd + (v + 2), dp), 0) := by simp only [rn_do]; rw [if_neg hv]
      rw [e] at hQ
      have e330 : I1 330 = I 330 := c2 330 (by omega)
      obtain ⟨k1, k2⟩ := keep (va_up I1 330 (va_up (I1 330) 7 (wd + (v + 2)))) (fun q a b c e => by rw [gw_up_ne a]; exact c2 q b)
      exact go_iret d_Ma_perform_181 rfl (hQ _ ⟨fun _ => ⟨⟨c1.kept (gw_up_ne (by omega)) (gw_up_ne (by omega)) (gw_up_ne (by omega)), k1⟩, by rw [gw_up_eq, gw_up_ne (by decide), e330]; exact h2, by rw [gw_up_eq, gw_up_ne (by decide), e330]; exact h5⟩, by rw [gw_up_eq, gw_up_eq], by rw [gw_up_eq, gw_up_ne (by decide), e330]; exact h8, fun h => absurd h i_01, fun _ => by rw [gw_up_eq, gw_up_ne (by decide), e330], by rw [gw_up_eq, gw_up_ne (by decide), e330], by rw [gw_up_eq, gw_up_ne (by decide), e330], k2⟩)
  · refine go_tableIn 182 d_Ma_perform_1 (by decide) (by decide) rfl rfl ?_
    obtain ⟨z, y, x, st, rfl⟩ : ∃ z y x s, st = z :: y :: x :: s := by cases st with | nil => exact absurd q2 (by decide) | cons z s => cases s with | nil => exact absurd q2 (by simp [rn_tk]) | cons y s => cases s with | nil => exact absurd q2 (by simp [rn_tk]) | cons x s => exact ⟨z, y, x, s, rfl⟩
    have hl6 : st.length + 3 ≤ 6 := hst6
    obtain ⟨⟨j, hjm, rfl⟩, hr3⟩ := q5 rfl
    refine go_aload_n 0 d_Ma_perform_182 rfl rfl ?_
    refine go_aload_n 1 d_Ma_perform_183 rfl rfl ?_
    refine go_iload_n 3 d_Ma_perform_184 rfl rfl ?_
    refine go_V2 d_Ma_perform_185 k_Ma_109 (by assumption) (Nat.le_of_ble_eq_true rfl) (c_Ma_enterCalled (j := j) hp0 hf hr3 h2 h8 (fun I1 c1 c2 c3 c4 c5 c6 => ?_))
    refine go_iconst (v := 0) d_Ma_perform_188 rfl ?_
    have ej : (nI j).toNatClampNeg = j := nI_clamp (by omega)
    have e : rn_do inp 11 (nI j) m p (z :: y :: x :: st) loc rest u wd dp = (0, ((j, 0, [], ar_v x y z) :: (m, p, st, loc) :: rest, u, wd, if dp < nI (rest.length + 2) then nI (rest.length + 2) else dp), 0) := by simp only [rn_do, ej]
    rw [e] at hQ
    exact go_iret d_Ma_perform_189 rfl (hQ I1 ⟨fun _ => ⟨⟨c2, c1, hr.kept (fun q a b => c6 q (by omega) (by omega) (by omega) (by omega))⟩, c3, by rw [c5 5 (by decide) (by decide)]; exact h5⟩, by rw [c5 7 (by decide) (by decide)]; exact h7, c4, fun h => absurd h i_01, fun _ => c5 9 (by decide) (by decide), c5 4 (by decide) (by decide), c5 6 (by decide) (by decide), fun q hq => c6 q (by omega) (by omega) (by omega) (by omega)⟩)
  · refine go_tableIn 190 d_Ma_perform_1 (by decide) (by decide) rfl rfl ?_
    obtain ⟨v, st, rfl⟩ : ∃ v s, st = v :: s := by cases st with | nil => exact absurd q2 (by decide) | cons v s => exact ⟨v, s, rfl⟩
    have hl6 : st.length + 1 ≤ 6 := hst6
    cases rest with
    | nil =>
      refine go_aload_n 0 d_Ma_perform_190 rfl rfl ?_
      refine go_aload_n 1 d_Ma_perform_191 rfl rfl ?_
      refine go_V0 d_Ma_perform_192 k_Ma_92 (by assumption) (Nat.le_of_ble_eq_true rfl) (c_Fr_pop hfo0 hf (fun I1 c1 c2 => ?_))
      refine go_V1 d_Ma_perform_195 k_Ma_113 (by assumption) (Nat.le_of_ble_eq_true rfl) (c_Ma_leave0 hp0 (by rw [c2 330 (by decide)]; exact h2) ?_)
      have e330 : I1 330 = I 330 := c2 330 (by decide)
      obtain ⟨k1, k2⟩ := keep (va_up I1 330 (va_up (I1 330) 9 v)) (fun q a b c e => by rw [gw_up_ne a]; exact c2 q b)
      exact go_iret d_Ma_perform_198 rfl (hQ _ ⟨fun h => absurd h i_10, by rw [gw_up_eq, gw_up_ne (by decide), e330]; exact h7, by rw [gw_up_eq, gw_up_ne (by decide), e330]; exact h8, fun _ => by rw [gw_up_eq, gw_up_eq]; rfl, fun h => absurd rfl h, by rw [gw_up_eq, gw_up_ne (by decide), e330], by rw [gw_up_eq, gw_up_ne (by decide), e330], k2⟩)
    | cons f2 r2 =>
      obtain ⟨m2, p2, st2, loc2⟩ := f2
      have hl2 : r2.length + 1 < 4 := q6
      have h62 : st2.length < 6 := q7 _ List.mem_cons_self
      refine go_aload_n 0 d_Ma_perform_190 rfl rfl ?_
      refine go_aload_n 1 d_Ma_perform_191 rfl rfl ?_
      refine go_V0 d_Ma_perform_192 k_Ma_92 (by assumption) (Nat.le_of_ble_eq_true rfl) (c_Fr_pop hfo0 hf (fun I1 c1 c2 => ?_))
      refine go_V1 d_Ma_perform_195 k_Ma_113 (by assumption) (Nat.le_of_ble_eq_true rfl) (c_Ma_leave1 (r2 := r2) hp0 (by rw [c2 330 (by omega)]; exact h2) (by omega) (hr.1.kept (c2 _ (by rw [List.length_cons]; omega)) (c2 _ (by rw [List.length_cons]; omega)) (c2 _ (by rw [List.length_cons]; omega))) h62 (fun I2 c3 c4 c5 c6 => ?_))
      have ex : ∀ q, q < 333 + 3 * r2.length ∨ 333 + 3 * r2.length + 6 ≤ q → q ≠ 330 → I2 q = I q := fun q a b => by rw [c6 q b (by omega) (by omega), c2 q (by simp; omega)]
      have e330 : ∀ i, i ≠ 2 → I2 330 i = I 330 i := fun i hi9 => by rw [c5 i hi9, c2 330 (by omega)]
      exact go_iret d_Ma_perform_198 rfl (hQ I2 ⟨fun _ => ⟨⟨c3, hr.2.kept (fun q a b => ex q (by omega) (by omega))⟩, c4, by rw [e330 5 (by decide)]; exact h5⟩, by rw [e330 7 (by decide)]; exact h7, by rw [e330 8 (by decide)]; exact h8, fun h => absurd h i_01, fun _ => e330 9 (by decide), e330 4 (by decide), e330 6 (by decide), fun q hq => ex q (by omega) (by omega)⟩)
  · refine go_tableIn 199 d_Ma_perform_1 (by decide) (by decide) rfl rfl ?_
    have hl6 : st.length < 6 := by simp only [rn_tk, rn_pu] at q3; omega
    refine go_aload_n 1 d_Ma_perform_199 rfl rfl ?_
    refine go_aload_n 0 d_Ma_perform_200 rfl rfl ?_
    refine go_V0 d_Ma_perform_201 k_Ma_116 (by assumption) (Nat.le_of_ble_eq_true rfl) (c_Ma_nextInput hp0 h5 hu h4 h12 hi (fun hv => ?_) (fun v hv => ?_))
    · have e : rn_do inp 13 nn m p st loc rest u wd dp = (0, ((m, p, 0 :: st, loc) :: rest, u, wd, dp), 0) := by simp only [rn_do, hv]
      rw [e] at hQ
      refine go_V1 d_Ma_perform_204 k_Ma_85 (by assumption) (Nat.le_of_ble_eq_true rfl) (c_Fr_push hfo0 hf hl6 (fun I1 c1 c2 => ?_))
      refine go_iconst (v := 0) d_Ma_perform_207 rfl ?_
      exact go_iret d_Ma_perform_208 rfl (hQ I1 (post0 I1 _ (fun q a b c => c2 q a c) c1))
    · have e : rn_do inp 13 nn m p st loc rest u wd dp = (0, ((m, p, v :: st, loc) :: rest, u + 1, wd, dp), 0) := by simp only [rn_do, hv]
      rw [e] at hQ
      refine go_V1 d_Ma_perform_204 k_Ma_85 (by assumption) (Nat.le_of_ble_eq_true rfl) (c_Fr_push hfo0 (hf.kept (gw_up_ne (by omega)) (gw_up_ne (by omega)) (gw_up_ne (by omega))) hl6 (fun I1 c1 c2 => ?_))
      refine go_iconst (v := 0) d_Ma_perform_207 rfl ?_
      have e330 : I1 330 = va_up (I 330) 5 (nI (u + 1)) := by rw [c2 330 (by omega) (by omega), gw_up_eq]
      obtain ⟨k1, k2⟩ := keep I1 (fun q a b c e => by rw [c2 q b e, gw_up_ne a])
      exact go_iret d_Ma_perform_208 rfl (hQ I1 ⟨fun _ => ⟨⟨c1, k1⟩, by rw [e330, gw_up_ne (by decide)]; exact h2, by rw [e330, gw_up_eq]⟩, by rw [e330, gw_up_ne (by decide)]; exact h7, by rw [e330, gw_up_ne (by decide)]; exact h8, fun h => absurd h i_01, fun _ => by rw [e330, gw_up_ne (by decide)], by rw [e330, gw_up_ne (by decide)], by rw [e330, gw_up_ne (by decide)], k2⟩)
  · refine go_tableIn 209 d_Ma_perform_1 (by decide) (by decide) rfl rfl ?_
    obtain ⟨v, st, rfl⟩ : ∃ v s, st = v :: s := by cases st with | nil => exact absurd q2 (by decide) | cons v s => exact ⟨v, s, rfl⟩
    have hl6 : st.length + 1 ≤ 6 := hst6
    refine go_aload_n 1 d_Ma_perform_209 rfl rfl ?_
    refine go_V0 d_Ma_perform_210 k_Ma_92 (by assumption) (Nat.le_of_ble_eq_true rfl) (c_Fr_pop hfo0 hf (fun I1 c1 c2 => ?_))
    refine go_pop d_Ma_perform_213 rfl ?_
    refine go_iconst (v := 0) d_Ma_perform_214 rfl ?_
    exact go_iret d_Ma_perform_215 rfl (hQ I1 (post0 I1 _ (fun q a b c => c2 q a) c1))
end MA
