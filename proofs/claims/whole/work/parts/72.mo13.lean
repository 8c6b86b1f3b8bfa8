/-! the reference: combine, simple, learn -/
theorem ms_up {s x : Int64} {v : ab_Sy} {nn : Int32} (h : ms_at s x v) : ms_at s (x + nn.toInt64) (sy_up nn v) := by
  cases v with
  | none => exact h
  | some q => exact ⟨h.1, h.2.1, by rw [h.2.2]⟩
section MO
variable {d n : Nat} {sh : Nat → Nat × Nat} {X : Nat × (Nat → Int32)} {R : Nat → Nat → Option Nat} {I : Nat → Nat → Int32} {L : Nat → Nat → Int64} {Q : Option Value → gw_Mem → Prop}
theorem c_Mo_combine {r md : Nat} {p : Int32} {st : List ab_Sy} {lo : Nat → ab_Sy} {E : sp_E} {b0 b1 : ab_Ba} {s x t y : Int64} {a b : ab_Sy} (adds : Bool) (hp : pt_Mo sh R) (hr : r < 42) (h : rw_at (L 549) (104 * r) p md st lo E b0 b1) (hl : st.length < 6) (ha : ms_at s x a) (hb : ms_at t y b) (hQ : ∀ L', rw_at (L' 549) (104 * r) p md ((if adds then sy_sum a b else sy_dif a b) :: st) lo E b0 b1 → (∀ i, i < 104 * r ∨ 104 * r + 104 ≤ i → L' 549 i = L 549 i) → (∀ q, q ≠ 549 → L' q = L q) → Q none (n, sh, X, R, I, L')) : gw_Call y_Mo_combine (d + 1) 0 0 [.ref 533, .int (nI r), .int (bI adds), .long s, .long x, .long t, .long y] (n, sh, X, R, I, L) Q := by
  have hp0 := hp
  obtain ⟨s533, s534, s535, s536, s537, s538, s539, s540, s541, s542, s543, s544, s545, s546, s547, s548, s549, s550, s551, s552, s553, s554, s555, s556, s557, r534, r535, r536, r537, r538, r539, r540, r541, r542, r543, r544, r545, r546, r547, r548, r549, r550, r551, r552, r553, r554, r555, r556, r557⟩ := hp
  refine gw_call o_Mo_combine (Nat.le_of_ble_eq_true rfl) ?_
  have pushN : ∀ L1 : Nat → Nat → Int64, True := fun _ => trivial
  clear pushN
  cases a with
  | none =>
    have hs : s < 0 := (ms_neg ha).mpr rfl
    have hv : (if adds then sy_sum none b else sy_dif none b) = none := by cases adds <;> rfl
    rw [hv] at hQ
    refine go_lload_n 3 d_Mo_combine_0 rfl rfl ?_
    refine go_lconst (v := 0) d_Mo_combine_1 rfl ?_
    refine go_lcmp_lt 13 d_Mo_combine_2 d_Mo_combine_3 rfl (fun _ => ?_) (fun hn => by first | exact absurd hn (hs) | exact absurd (hs) hn)
    refine go_aload_n 0 d_Mo_combine_13 rfl rfl ?_
    refine go_iload_n 1 d_Mo_combine_14 rfl rfl ?_
    refine go_ldc2 d_Mo_combine_15 i_Mo_187 ?_
    refine go_lconst (v := 0) d_Mo_combine_18 rfl ?_
    refine go_V3 d_Mo_combine_19 k_Mo_183 (by assumption) (Nat.le_of_ble_eq_true rfl) (c_Mo_push (v := none) hp0 hr h hl rfl (fun L1 f1 f2 f3 => ?_))
    refine go_goto 136 d_Mo_combine_22 rfl ?_
    exact go_vret d_Mo_combine_136 rfl (hQ L1 f1 f2 f3)
  | some q =>
    obtain ⟨hs, hq5, hx⟩ := ha
    have hsn : ¬ s < 0 := by rw [hs]; exact fun h2 => absurd ((lN_lt (b := 0) (by omega) (by decide)).mp h2) (by omega)
    cases b with
    | none =>
      have ht : t < 0 := (ms_neg hb).mpr rfl
      have hv : (if adds then sy_sum (some q) none else sy_dif (some q) none) = none := by cases adds <;> rfl
      rw [hv] at hQ
      refine go_lload_n 3 d_Mo_combine_0 rfl rfl ?_
      refine go_lconst (v := 0) d_Mo_combine_1 rfl ?_
      refine go_lcmp_lt 13 d_Mo_combine_2 d_Mo_combine_3 rfl (fun hn => absurd hn (hsn)) (fun _ => ?_)
      refine go_lload d_Mo_combine_6 rfl ?_
      refine go_lconst (v := 0) d_Mo_combine_8 rfl ?_
      refine go_lcmp_ge 25 d_Mo_combine_9 d_Mo_combine_10 rfl (fun hn => absurd hn ((fun hh => hh ht))) (fun _ => ?_)
      refine go_aload_n 0 d_Mo_combine_13 rfl rfl ?_
      refine go_iload_n 1 d_Mo_combine_14 rfl rfl ?_
      refine go_ldc2 d_Mo_combine_15 i_Mo_187 ?_
      refine go_lconst (v := 0) d_Mo_combine_18 rfl ?_
      refine go_V3 d_Mo_combine_19 k_Mo_183 (by assumption) (Nat.le_of_ble_eq_true rfl) (c_Mo_push (v := none) hp0 hr h hl rfl (fun L1 f1 f2 f3 => ?_))
      refine go_goto 136 d_Mo_combine_22 rfl ?_
      exact go_vret d_Mo_combine_136 rfl (hQ L1 f1 f2 f3)
    | some u =>
      obtain ⟨ht, hu5, hy⟩ := hb
      have htn : ¬ t < 0 := by rw [ht]; exact fun h2 => absurd ((lN_lt (b := 0) (by omega) (by decide)).mp h2) (by omega)
      have s4 : s = 4 ↔ q.1 = 4 := by rw [hs]; exact lN_eq (b := 4) (by omega) (by decide)
      have t4 : t = 4 ↔ u.1 = 4 := by rw [ht]; exact lN_eq (b := 4) (by omega) (by decide)
      have st4 : s = t ↔ q.1 = u.1 := by rw [hs, ht]; exact lN_eq (by omega) (by omega)
      cases adds with
      | true =>
        have hv : (if true = true then sy_sum (some q) (some u) else sy_dif (some q) (some u)) = (if u.1 = 4 then some (q.1, q.2 + u.2) else if q.1 = 4 then some (u.1, q.2 + u.2) else none) := rfl
        rw [hv] at hQ
        by_cases h4 : q.1 = 4
        · have hv2 : (if u.1 = 4 then some (q.1, q.2 + u.2) else if q.1 = 4 then some (u.1, q.2 + u.2) else none) = some (u.1, q.2 + u.2) := by
            by_cases hu4 : u.1 = 4
            · rw [if_pos hu4, h4, hu4]
            · rw [if_neg hu4, if_pos h4]
          rw [hv2] at hQ
          refine go_lload_n 3 d_Mo_combine_0 rfl rfl ?_
          refine go_lconst (v := 0) d_Mo_combine_1 rfl ?_
          refine go_lcmp_lt 13 d_Mo_combine_2 d_Mo_combine_3 rfl (fun hn => absurd hn (hsn)) (fun _ => ?_)
          refine go_lload d_Mo_combine_6 rfl ?_
          refine go_lconst (v := 0) d_Mo_combine_8 rfl ?_
          refine go_lcmp_ge 25 d_Mo_combine_9 d_Mo_combine_10 rfl (fun _ => ?_) (fun hn => by first | exact absurd hn (htn) | exact absurd (htn) hn)
          refine go_iload_n 2 d_Mo_combine_25 rfl rfl ?_
          refine go_if_eq 73 d_Mo_combine_26 rfl (fun hn => absurd hn (by decide)) (fun _ => ?_)
          refine go_lload_n 3 d_Mo_combine_29 rfl rfl ?_
          refine go_ldc2 d_Mo_combine_30 i_Mo_110 ?_
          refine go_lcmp_eq 46 d_Mo_combine_33 d_Mo_combine_34 rfl (fun _ => ?_) (fun hn => by first | exact absurd hn (s4.mpr h4) | exact absurd (s4.mpr h4) hn)
          refine go_aload_n 0 d_Mo_combine_46 rfl rfl ?_
          refine go_iload_n 1 d_Mo_combine_47 rfl rfl ?_
          refine go_lload_n 3 d_Mo_combine_48 rfl rfl ?_
          refine go_ldc2 d_Mo_combine_49 i_Mo_110 ?_
          refine go_lcmp_ne 61 d_Mo_combine_52 d_Mo_combine_53 rfl (fun hn => absurd hn ((fun hh => hh (s4.mpr h4)))) (fun _ => ?_)
          refine go_lload d_Mo_combine_56 rfl ?_
          refine go_goto 62 d_Mo_combine_58 rfl ?_
          refine go_lload d_Mo_combine_62 rfl ?_
          refine go_lload d_Mo_combine_64 rfl ?_
          refine go_ladd d_Mo_combine_66 ?_
          refine go_V3 d_Mo_combine_67 k_Mo_183 (by assumption) (Nat.le_of_ble_eq_true rfl) (c_Mo_push (v := some (u.1, q.2 + u.2)) hp0 hr h hl ⟨ht, hu5, by rw [hx, hy]⟩ (fun L1 f1 f2 f3 => ?_))
          refine go_goto 136 d_Mo_combine_70 rfl ?_
          exact go_vret d_Mo_combine_136 rfl (hQ L1 f1 f2 f3)
        · by_cases hu4 : u.1 = 4
          · rw [if_pos hu4] at hQ
            refine go_lload_n 3 d_Mo_combine_0 rfl rfl ?_
            refine go_lconst (v := 0) d_Mo_combine_1 rfl ?_
            refine go_lcmp_lt 13 d_Mo_combine_2 d_Mo_combine_3 rfl (fun hn => absurd hn (hsn)) (fun _ => ?_)
            refine go_lload d_Mo_combine_6 rfl ?_
            refine go_lconst (v := 0) d_Mo_combine_8 rfl ?_
            refine go_lcmp_ge 25 d_Mo_combine_9 d_Mo_combine_10 rfl (fun _ => ?_) (fun hn => by first | exact absurd hn (htn) | exact absurd (htn) hn)
            refine go_iload_n 2 d_Mo_combine_25 rfl rfl ?_
            refine go_if_eq 73 d_Mo_combine_26 rfl (fun hn => absurd hn (by decide)) (fun _ => ?_)
            refine go_lload_n 3 d_Mo_combine_29 rfl rfl ?_
            refine go_ldc2 d_Mo_combine_30 i_Mo_110 ?_
            refine go_lcmp_eq 46 d_Mo_combine_33 d_Mo_combine_34 rfl (fun hn => absurd hn ((fun hh => h4 (s4.mp hh)))) (fun _ => ?_)
            refine go_lload d_Mo_combine_37 rfl ?_
            refine go_ldc2 d_Mo_combine_39 i_Mo_110 ?_
            refine go_lcmp_ne 73 d_Mo_combine_42 d_Mo_combine_43 rfl (fun hn => absurd hn ((fun hh => hh (t4.mpr hu4)))) (fun _ => ?_)
            refine go_aload_n 0 d_Mo_combine_46 rfl rfl ?_
            refine go_iload_n 1 d_Mo_combine_47 rfl rfl ?_
            refine go_lload_n 3 d_Mo_combine_48 rfl rfl ?_
            refine go_ldc2 d_Mo_combine_49 i_Mo_110 ?_
            refine go_lcmp_ne 61 d_Mo_combine_52 d_Mo_combine_53 rfl (fun _ => ?_) (fun hn => by first | exact absurd hn ((fun hh => h4 (s4.mp hh))) | exact absurd ((fun hh => h4 (s4.mp hh))) hn)
            refine go_lload_n 3 d_Mo_combine_61 rfl rfl ?_
            refine go_lload d_Mo_combine_62 rfl ?_
            refine go_lload d_Mo_combine_64 rfl ?_
            refine go_ladd d_Mo_combine_66 ?_
            refine go_V3 d_Mo_combine_67 k_Mo_183 (by assumption) (Nat.le_of_ble_eq_true rfl) (c_Mo_push (v := some (q.1, q.2 + u.2)) hp0 hr h hl ⟨hs, hq5, by rw [hx, hy]⟩ (fun L1 f1 f2 f3 => ?_))
            refine go_goto 136 d_Mo_combine_70 rfl ?_
            exact go_vret d_Mo_combine_136 rfl (hQ L1 f1 f2 f3)
          · rw [if_neg hu4, if_neg h4] at hQ
            refine go_lload_n 3 d_Mo_combine_0 rfl rfl ?_
            refine go_lconst (v := 0) d_Mo_combine_1 rfl ?_
            refine go_lcmp_lt 13 d_Mo_combine_2 d_Mo_combine_3 rfl (fun hn => absurd hn (hsn)) (fun _ => ?_)
            refine go_lload d_Mo_combine_6 rfl ?_
            refine go_lconst (v := 0) d_Mo_combine_8 rfl ?_
            refine go_lcmp_ge 25 d_Mo_combine_9 d_Mo_combine_10 rfl (fun _ => ?_) (fun hn => by first | exact absurd hn (htn) | exact absurd (htn) hn)
            refine go_iload_n 2 d_Mo_combine_25 rfl rfl ?_
            refine go_if_eq 73 d_Mo_combine_26 rfl (fun hn => absurd hn (by decide)) (fun _ => ?_)
            refine go_lload_n 3 d_Mo_combine_29 rfl rfl ?_
            refine go_ldc2 d_Mo_combine_30 i_Mo_110 ?_
            refine go_lcmp_eq 46 d_Mo_combine_33 d_Mo_combine_34 rfl (fun hn => absurd hn ((fun hh => h4 (s4.mp hh)))) (fun _ => ?_)
            refine go_lload d_Mo_combine_37 rfl ?_
            refine go_ldc2 d_Mo_combine_39 i_Mo_110 ?_
            refine go_lcmp_ne 73 d_Mo_combine_42 d_Mo_combine_43 rfl (fun _ => ?_) (fun hn => by first | exact absurd hn ((fun hh => hu4 (t4.mp hh))) | exact absurd ((fun hh => hu4 (t4.mp hh))) hn)
            refine go_iload_n 2 d_Mo_combine_73 rfl rfl ?_
            refine go_if_ne 100 d_Mo_combine_74 rfl (fun _ => ?_) (fun hn => by first | exact absurd hn (by decide) | exact absurd (by decide) hn)
            refine go_iload_n 2 d_Mo_combine_100 rfl rfl ?_
            refine go_if_ne 127 d_Mo_combine_101 rfl (fun _ => ?_) (fun hn => by first | exact absurd hn (by decide) | exact absurd (by decide) hn)
            refine go_aload_n 0 d_Mo_combine_127 rfl rfl ?_
            refine go_iload_n 1 d_Mo_combine_128 rfl rfl ?_
            refine go_ldc2 d_Mo_combine_129 i_Mo_187 ?_
            refine go_lconst (v := 0) d_Mo_combine_132 rfl ?_
            refine go_V3 d_Mo_combine_133 k_Mo_183 (by assumption) (Nat.le_of_ble_eq_true rfl) (c_Mo_push (v := none) hp0 hr h hl rfl (fun L1 f1 f2 f3 => ?_))
            exact go_vret d_Mo_combine_136 rfl (hQ L1 f1 f2 f3)
      | false =>
        have hv : (if false = true then sy_sum (some q) (some u) else sy_dif (some q) (some u)) = (if u.1 = 4 then some (q.1, q.2 - u.2) else if q.1 = u.1 then some (4, q.2 - u.2) else none) := rfl
        rw [hv] at hQ
        by_cases hqu : q.1 = u.1
        · have hv2 : (if u.1 = 4 then some (q.1, q.2 - u.2) else if q.1 = u.1 then some (4, q.2 - u.2) else none) = some (4, q.2 - u.2) := by
            by_cases hu4 : u.1 = 4
            · rw [if_pos hu4, hqu, hu4]
            · rw [if_neg hu4, if_pos hqu]
          rw [hv2] at hQ
          refine go_lload_n 3 d_Mo_combine_0 rfl rfl ?_
          refine go_lconst (v := 0) d_Mo_combine_1 rfl ?_
          refine go_lcmp_lt 13 d_Mo_combine_2 d_Mo_combine_3 rfl (fun hn => absurd hn (hsn)) (fun _ => ?_)
          refine go_lload d_Mo_combine_6 rfl ?_
          refine go_lconst (v := 0) d_Mo_combine_8 rfl ?_
          refine go_lcmp_ge 25 d_Mo_combine_9 d_Mo_combine_10 rfl (fun _ => ?_) (fun hn => by first | exact absurd hn (htn) | exact absurd (htn) hn)
          refine go_iload_n 2 d_Mo_combine_25 rfl rfl ?_
          refine go_if_eq 73 d_Mo_combine_26 rfl (fun _ => ?_) (fun hn => absurd (by decide) hn)
          refine go_iload_n 2 d_Mo_combine_73 rfl rfl ?_
          refine go_if_ne 100 d_Mo_combine_74 rfl (fun hn => absurd hn (by decide)) (fun _ => ?_)
          refine go_lload_n 3 d_Mo_combine_77 rfl rfl ?_
          refine go_lload d_Mo_combine_78 rfl ?_
          refine go_lcmp_ne 100 d_Mo_combine_80 d_Mo_combine_81 rfl (fun hn => absurd hn ((fun hh => hh (st4.mpr hqu)))) (fun _ => ?_)
          refine go_aload_n 0 d_Mo_combine_84 rfl rfl ?_
          refine go_iload_n 1 d_Mo_combine_85 rfl rfl ?_
          refine go_ldc2 d_Mo_combine_86 i_Mo_110 ?_
          refine go_lload d_Mo_combine_89 rfl ?_
          refine go_lload d_Mo_combine_91 rfl ?_
          refine go_lsub d_Mo_combine_93 ?_
          refine go_V3 d_Mo_combine_94 k_Mo_183 (by assumption) (Nat.le_of_ble_eq_true rfl) (c_Mo_push (v := some (4, q.2 - u.2)) hp0 hr h hl ⟨rfl, (by show (4 : Nat) < 5; decide), by rw [hx, hy]⟩ (fun L1 f1 f2 f3 => ?_))
          refine go_goto 136 d_Mo_combine_97 rfl ?_
          exact go_vret d_Mo_combine_136 rfl (hQ L1 f1 f2 f3)
        · by_cases hu4 : u.1 = 4
          · rw [if_pos hu4] at hQ
            refine go_lload_n 3 d_Mo_combine_0 rfl rfl ?_
            refine go_lconst (v := 0) d_Mo_combine_1 rfl ?_
            refine go_lcmp_lt 13 d_Mo_combine_2 d_Mo_combine_3 rfl (fun hn => absurd hn (hsn)) (fun _ => ?_)
            refine go_lload d_Mo_combine_6 rfl ?_
            refine go_lconst (v := 0) d_Mo_combine_8 rfl ?_
            refine go_lcmp_ge 25 d_Mo_combine_9 d_Mo_combine_10 rfl (fun _ => ?_) (fun hn => by first | exact absurd hn (htn) | exact absurd (htn) hn)
            refine go_iload_n 2 d_Mo_combine_25 rfl rfl ?_
            refine go_if_eq 73 d_Mo_combine_26 rfl (fun _ => ?_) (fun hn => absurd (by decide) hn)
            refine go_iload_n 2 d_Mo_combine_73 rfl rfl ?_
            refine go_if_ne 100 d_Mo_combine_74 rfl (fun hn => absurd hn (by decide)) (fun _ => ?_)
            refine go_lload_n 3 d_Mo_combine_77 rfl rfl ?_
            refine go_lload d_Mo_combine_78 rfl ?_
            refine go_lcmp_ne 100 d_Mo_combine_80 d_Mo_combine_81 rfl (fun _ => ?_) (fun hn => by first | exact absurd hn ((fun hh => hqu (st4.mp hh))) | exact absurd ((fun hh => hqu (st4.mp hh))) hn)
            refine go_iload_n 2 d_Mo_combine_100 rfl rfl ?_
            refine go_if_ne 127 d_Mo_combine_101 rfl (fun hn => absurd hn (by decide)) (fun _ => ?_)
            refine go_lload d_Mo_combine_104 rfl ?_
            refine go_ldc2 d_Mo_combine_106 i_Mo_110 ?_
            refine go_lcmp_ne 127 d_Mo_combine_109 d_Mo_combine_110 rfl (fun hn => absurd hn ((fun hh => hh (t4.mpr hu4)))) (fun _ => ?_)
            refine go_aload_n 0 d_Mo_combine_113 rfl rfl ?_
            refine go_iload_n 1 d_Mo_combine_114 rfl rfl ?_
            refine go_lload_n 3 d_Mo_combine_115 rfl rfl ?_
            refine go_lload d_Mo_combine_116 rfl ?_
            refine go_lload d_Mo_combine_118 rfl ?_
            refine go_lsub d_Mo_combine_120 ?_
            refine go_V3 d_Mo_combine_121 k_Mo_183 (by assumption) (Nat.le_of_ble_eq_true rfl) (c_Mo_push (v := some (q.1, q.2 - u.2)) hp0 hr h hl ⟨hs, hq5, by rw [hx, hy]⟩ (fun L1 f1 f2 f3 => ?_))
            refine go_goto 136 d_Mo_combine_124 rfl ?_
            exact go_vret d_Mo_combine_136 rfl (hQ L1 f1 f2 f3)
          · rw [if_neg hu4, if_neg hqu] at hQ
            refine go_lload_n 3 d_Mo_combine_0 rfl rfl ?_
            refine go_lconst (v := 0) d_Mo_combine_1 rfl ?_
            refine go_lcmp_lt 13 d_Mo_combine_2 d_Mo_combine_3 rfl (fun hn => absurd hn (hsn)) (fun _ => ?_)
            refine go_lload d_Mo_combine_6 rfl ?_
            refine go_lconst (v := 0) d_Mo_combine_8 rfl ?_
            refine go_lcmp_ge 25 d_Mo_combine_9 d_Mo_combine_10 rfl (fun _ => ?_) (fun hn => by first | exact absurd hn (htn) | exact absurd (htn) hn)
            refine go_iload_n 2 d_Mo_combine_25 rfl rfl ?_
            refine go_if_eq 73 d_Mo_combine_26 rfl (fun _ => ?_) (fun hn => absurd (by decide) hn)
            refine go_iload_n 2 d_Mo_combine_73 rfl rfl ?_
            refine go_if_ne 100 d_Mo_combine_74 rfl (fun hn => absurd hn (by decide)) (fun _ => ?_)
            refine go_lload_n 3 d_Mo_combine_77 rfl rfl ?_
            refine go_lload d_Mo_combine_78 rfl ?_
            refine go_lcmp_ne 100 d_Mo_combine_80 d_Mo_combine_81 rfl (fun _ => ?_) (fun hn => by first | exact absurd hn ((fun hh => hqu (st4.mp hh))) | exact absurd ((fun hh => hqu (st4.mp hh))) hn)
            refine go_iload_n 2 d_Mo_combine_100 rfl rfl ?_
            refine go_if_ne 127 d_Mo_combine_101 rfl (fun hn => absurd hn (by decide)) (fun _ => ?_)
            refine go_lload d_Mo_combine_104 rfl ?_
            refine go_ldc2 d_Mo_combine_106 i_Mo_110 ?_
            refine go_lcmp_ne 127 d_Mo_combine_109 d_Mo_combine_110 rfl (fun _ => ?_) (fun hn => by first | exact absurd hn ((fun hh => hu4 (t4.mp hh))) | exact absurd ((fun hh => hu4 (t4.mp hh))) hn)
            refine go_aload_n 0 d_Mo_combine_127 rfl rfl ?_
            refine go_iload_n 1 d_Mo_combine_128 rfl rfl ?_
            refine go_ldc2 d_Mo_combine_129 i_Mo_187 ?_
            refine go_lconst (v := 0) d_Mo_combine_132 rfl ?_
            refine go_V3 d_Mo_combine_133 k_Mo_183 (by assumption) (Nat.le_of_ble_eq_true rfl) (c_Mo_push (v := none) hp0 hr h hl rfl (fun L1 f1 f2 f3 => ?_))
            exact go_vret d_Mo_combine_136 rfl (hQ L1 f1 f2 f3)
theorem c_Mo_simple {k : Nat} {nn : Int32} {r md : Nat} {p : Int32} {st : List ab_Sy} {lo : Nat → ab_Sy} {E : sp_E} {b0 b1 : ab_Ba} (hp : pt_Mo sh R) (hr : r < 42) (hk : k < 8 ∨ k = 13 ∨ k = 14) (htk : rn_tk k ≤ st.length) (hro : (k = 0 ∨ k = 1 ∨ k = 13) → st.length < 6) (h12 : (k = 1 ∨ k = 2) → ∃ j, j < 4 ∧ nn = nI j) (h : rw_at (L 549) (104 * r) p md st lo E b0 b1) (hQ : ∀ L', rw_at (L' 549) (104 * r) p md (pa_do k nn p st lo).2.1 (pa_do k nn p st lo).2.2 E b0 b1 → (∀ i, i < 104 * r ∨ 104 * r + 104 ≤ i → L' 549 i = L 549 i) → (∀ q, q ≠ 549 → L' q = L q) → Q none (n, sh, X, R, I, L')) : gw_Call y_Mo_simple (d + 2) 0 0 [.ref 533, .int (nI r), .int (nI k), .int nn] (n, sh, X, R, I, L) Q := by
  have hp0 := hp
  obtain ⟨s533, s534, s535, s536, s537, s538, s539, s540, s541, s542, s543, s544, s545, s546, s547, s548, s549, s550, s551, s552, s553, s554, s555, s556, s557, r534, r535, r536, r537, r538, r539, r540, r541, r542, r543, r544, r545, r546, r547, r548, r549, r550, r551, r552, r553, r554, r555, r556, r557⟩ := hp
  obtain ⟨a1, a2, a3, a4, a5, a6, a7, a8, a9, a10⟩ := id h
  have one : 1 ≤ st.length → ∃ v s, st = v :: s := fun h => by cases st with | nil => exact absurd h (by decide) | cons v s => exact ⟨v, s, rfl⟩
  have two : 2 ≤ st.length → ∃ y x s, st = y :: x :: s := fun h => by cases st with | nil => exact absurd h (by decide) | cons y s => cases s with | nil => exact absurd h (by simp) | cons x s => exact ⟨y, x, s, rfl⟩
  refine gw_call o_Mo_simple (Nat.le_of_ble_eq_true rfl) ?_
  rcases (show k = 0 ∨ k = 1 ∨ k = 2 ∨ k = 3 ∨ k = 4 ∨ k = 5 ∨ k = 6 ∨ k = 7 ∨ k = 13 ∨ k = 14 by clear htk hro h12 hQ one two h; omega) with rfl | rfl | rfl | rfl | rfl | rfl | rfl | rfl | rfl | rfl
  · skip
    refine go_bipush (v := 104) d_Mo_simple_0 rfl ?_
    refine go_iload_n 1 d_Mo_simple_2 rfl rfl ?_
    refine go_imul d_Mo_simple_3 ?_
    rw [show (104 : Int32) * nI r = nI (104 * r) from nI_mul 104 r]
    refine go_istore d_Mo_simple_4 (Nat.le_of_ble_eq_true rfl) ?_
    refine go_iload_n 2 d_Mo_simple_6 rfl rfl ?_
    refine go_if_ne 20 d_Mo_simple_7 rfl (fun hn => absurd hn (by decide)) (fun _ => ?_)
    refine go_aload_n 0 d_Mo_simple_10 rfl rfl ?_
    refine go_iload_n 1 d_Mo_simple_11 rfl rfl ?_
    refine go_ldc2 d_Mo_simple_12 i_Mo_110 ?_
    refine go_iload_n 3 d_Mo_simple_15 rfl rfl ?_
    refine go_i2l d_Mo_simple_16 (rfl) ?_
    refine go_V3 d_Mo_simple_17 k_Mo_183 (by assumption) (Nat.le_of_ble_eq_true rfl) (c_Mo_push (v := some (4, nn.toInt64)) hp0 hr h (hro (by decide)) ⟨rfl, (by show (4 : Nat) < 5; decide), rfl⟩ (fun L1 f1 f2 f3 => ?_))
    refine go_iload_n 2 d_Mo_simple_20 rfl rfl ?_
    refine go_iconst (v := 1) d_Mo_simple_21 rfl ?_
    refine go_icmp_ne 56 d_Mo_simple_22 rfl (fun _ => ?_) (fun hn => by first | exact absurd hn (by decide) | exact absurd (by decide) hn)
    refine go_iload_n 2 d_Mo_simple_56 rfl rfl ?_
    refine go_bipush (v := 13) d_Mo_simple_57 rfl ?_
    refine go_icmp_ne 71 d_Mo_simple_59 rfl (fun _ => ?_) (fun hn => by first | exact absurd hn (by decide) | exact absurd (by decide) hn)
    refine go_iload_n 2 d_Mo_simple_71 rfl rfl ?_
    refine go_iconst (v := 5) d_Mo_simple_72 rfl ?_
    refine go_icmp_eq 82 d_Mo_simple_73 rfl (fun hn => absurd hn (by decide)) (fun _ => ?_)
    refine go_iload_n 2 d_Mo_simple_76 rfl rfl ?_
    refine go_bipush (v := 6) d_Mo_simple_77 rfl ?_
    refine go_icmp_ne 102 d_Mo_simple_79 rfl (fun _ => ?_) (fun hn => by first | exact absurd hn (by decide) | exact absurd (by decide) hn)
    refine go_iload_n 2 d_Mo_simple_102 rfl rfl ?_
    refine go_bipush (v := 14) d_Mo_simple_103 rfl ?_
    refine go_icmp_ne 114 d_Mo_simple_105 rfl (fun _ => ?_) (fun hn => by first | exact absurd hn (by decide) | exact absurd (by decide) hn)
    refine go_iload_n 2 d_Mo_simple_114 rfl rfl ?_
    refine go_iconst (v := 2) d_Mo_simple_115 rfl ?_
    refine go_icmp_ne 168 d_Mo_simple_116 rfl (fun _ => ?_) (fun hn => by first | exact absurd hn (by decide) | exact absurd (by decide) hn)
    refine go_iload_n 2 d_Mo_simple_168 rfl rfl ?_
    refine go_iconst (v := 3) d_Mo_simple_169 rfl ?_
    refine go_icmp_eq 178 d_Mo_simple_170 rfl (fun hn => absurd hn (by decide)) (fun _ => ?_)
    refine go_iload_n 2 d_Mo_simple_173 rfl rfl ?_
    refine go_iconst (v := 4) d_Mo_simple_174 rfl ?_
    refine go_icmp_ne 239 d_Mo_simple_175 rfl (fun _ => ?_) (fun hn => by first | exact absurd hn (by decide) | exact absurd (by decide) hn)
    exact go_vret d_Mo_simple_239 rfl (hQ L1 f1 f2 f3)
  · obtain ⟨j, hj, rfl⟩ := h12 (Or.inl rfl)
    have hq' := hQ
    rw [show (pa_do 1 (nI j) p st lo).2.1 = lo j :: st by show lo (nI j).toNatClampNeg :: st = _; rw [nI_clamp (by omega)]] at hQ
    refine go_bipush (v := 104) d_Mo_simple_0 rfl ?_
    refine go_iload_n 1 d_Mo_simple_2 rfl rfl ?_
    refine go_imul d_Mo_simple_3 ?_
    rw [show (104 : Int32) * nI r = nI (104 * r) from nI_mul 104 r]
    refine go_istore d_Mo_simple_4 (Nat.le_of_ble_eq_true rfl) ?_
    refine go_iload_n 2 d_Mo_simple_6 rfl rfl ?_
    refine go_if_ne 20 d_Mo_simple_7 rfl (fun _ => ?_) (fun hn => by first | exact absurd hn (by decide) | exact absurd (by decide) hn)
    refine go_iload_n 2 d_Mo_simple_20 rfl rfl ?_
    refine go_iconst (v := 1) d_Mo_simple_21 rfl ?_
    refine go_icmp_ne 56 d_Mo_simple_22 rfl (fun hn => absurd hn (by decide)) (fun _ => ?_)
    refine go_aload_n 0 d_Mo_simple_25 rfl rfl ?_
    refine go_iload_n 1 d_Mo_simple_26 rfl rfl ?_
    refine go_aload_n 0 d_Mo_simple_27 rfl rfl ?_
    refine go_getR d_Mo_simple_28 f_Mo_56 (by assumption) (by assumption) ?_
    refine go_iload d_Mo_simple_31 rfl ?_
    refine go_iconst (v := 4) d_Mo_simple_33 rfl ?_
    refine go_iadd d_Mo_simple_34 ?_
    refine go_iconst (v := 2) d_Mo_simple_35 rfl ?_
    refine go_iload_n 3 d_Mo_simple_36 rfl rfl ?_
    refine go_imul d_Mo_simple_37 ?_
    refine go_iadd d_Mo_simple_38 ?_
    refine go_lald (104 * r + 4 + 2 * j) d_Mo_simple_39 (by assumption) (by rw [show nI (104 * r) + 4 = nI (104 * r + 4) from nI_add _ 4, show (2 : Int32) * nI j = nI (2 * j) from nI_mul 2 j, nI_add]) (by omega) (by decide) ?_
    refine go_aload_n 0 d_Mo_simple_40 rfl rfl ?_
    refine go_getR d_Mo_simple_41 f_Mo_56 (by assumption) (by assumption) ?_
    refine go_iload d_Mo_simple_44 rfl ?_
    refine go_iconst (v := 5) d_Mo_simple_46 rfl ?_
    refine go_iadd d_Mo_simple_47 ?_
    refine go_iconst (v := 2) d_Mo_simple_48 rfl ?_
    refine go_iload_n 3 d_Mo_simple_49 rfl rfl ?_
    refine go_imul d_Mo_simple_50 ?_
    refine go_iadd d_Mo_simple_51 ?_
    refine go_lald (104 * r + 5 + 2 * j) d_Mo_simple_52 (by assumption) (by rw [show nI (104 * r) + 5 = nI (104 * r + 5) from nI_add _ 5, show (2 : Int32) * nI j = nI (2 * j) from nI_mul 2 j, nI_add]) (by omega) (by decide) ?_
    refine go_V3 d_Mo_simple_53 k_Mo_183 (by assumption) (Nat.le_of_ble_eq_true rfl) (c_Mo_push (v := lo j) hp0 hr h (hro (by decide)) (a6 j hj) (fun L1 f1 f2 f3 => ?_))
    refine go_iload_n 2 d_Mo_simple_56 rfl rfl ?_
    refine go_bipush (v := 13) d_Mo_simple_57 rfl ?_
    refine go_icmp_ne 71 d_Mo_simple_59 rfl (fun _ => ?_) (fun hn => by first | exact absurd hn (by decide) | exact absurd (by decide) hn)
    refine go_iload_n 2 d_Mo_simple_71 rfl rfl ?_
    refine go_iconst (v := 5) d_Mo_simple_72 rfl ?_
    refine go_icmp_eq 82 d_Mo_simple_73 rfl (fun hn => absurd hn (by decide)) (fun _ => ?_)
    refine go_iload_n 2 d_Mo_simple_76 rfl rfl ?_
    refine go_bipush (v := 6) d_Mo_simple_77 rfl ?_
    refine go_icmp_ne 102 d_Mo_simple_79 rfl (fun _ => ?_) (fun hn => by first | exact absurd hn (by decide) | exact absurd (by decide) hn)
    refine go_iload_n 2 d_Mo_simple_102 rfl rfl ?_
    refine go_bipush (v := 14) d_Mo_simple_103 rfl ?_
    refine go_icmp_ne 114 d_Mo_simple_105 rfl (fun _ => ?_) (fun hn => by first | exact absurd hn (by decide) | exact absurd (by decide) hn)
    refine go_iload_n 2 d_Mo_simple_114 rfl rfl ?_
    refine go_iconst (v := 2) d_Mo_simple_115 rfl ?_
    refine go_icmp_ne 168 d_Mo_simple_116 rfl (fun _ => ?_) (fun hn => by first | exact absurd hn (by decide) | exact absurd (by decide) hn)
    refine go_iload_n 2 d_Mo_simple_168 rfl rfl ?_
    refine go_iconst (v := 3) d_Mo_simple_169 rfl ?_
    refine go_icmp_eq 178 d_Mo_simple_170 rfl (fun hn => absurd hn (by decide)) (fun _ => ?_)
    refine go_iload_n 2 d_Mo_simple_173 rfl rfl ?_
    refine go_iconst (v := 4) d_Mo_simple_174 rfl ?_
    refine go_icmp_ne 239 d_Mo_simple_175 rfl (fun _ => ?_) (fun hn => by first | exact absurd hn (by decide) | exact absurd (by decide) hn)
    exact go_vret d_Mo_simple_239 rfl (hQ L1 f1 f2 f3)
  · obtain ⟨j, hj, rfl⟩ := h12 (Or.inr rfl)
    obtain ⟨v, s1, rfl⟩ := one htk
    have hs6 : s1.length + 1 ≤ 6 := a4
    have hv2 : va_up lo (nI j).toNatClampNeg v j = v := by rw [nI_clamp (by omega), gw_up_eq]
    have hv3 : ∀ j', j' ≠ j → va_up lo (nI j).toNatClampNeg v j' = lo j' := fun j' he => by rw [nI_clamp (by omega), gw_up_ne he]
    refine go_bipush (v := 104) d_Mo_simple_0 rfl ?_
    refine go_iload_n 1 d_Mo_simple_2 rfl rfl ?_
    refine go_imul d_Mo_simple_3 ?_
    rw [show (104 : Int32) * nI r = nI (104 * r) from nI_mul 104 r]
    refine go_istore d_Mo_simple_4 (Nat.le_of_ble_eq_true rfl) ?_
    refine go_iload_n 2 d_Mo_simple_6 rfl rfl ?_
    refine go_if_ne 20 d_Mo_simple_7 rfl (fun _ => ?_) (fun hn => by first | exact absurd hn (by decide) | exact absurd (by decide) hn)
    refine go_iload_n 2 d_Mo_simple_20 rfl rfl ?_
    refine go_iconst (v := 1) d_Mo_simple_21 rfl ?_
    refine go_icmp_ne 56 d_Mo_simple_22 rfl (fun _ => ?_) (fun hn => by first | exact absurd hn (by decide) | exact absurd (by decide) hn)
    refine go_iload_n 2 d_Mo_simple_56 rfl rfl ?_
    refine go_bipush (v := 13) d_Mo_simple_57 rfl ?_
    refine go_icmp_ne 71 d_Mo_simple_59 rfl (fun _ => ?_) (fun hn => by first | exact absurd hn (by decide) | exact absurd (by decide) hn)
    refine go_iload_n 2 d_Mo_simple_71 rfl rfl ?_
    refine go_iconst (v := 5) d_Mo_simple_72 rfl ?_
    refine go_icmp_eq 82 d_Mo_simple_73 rfl (fun hn => absurd hn (by decide)) (fun _ => ?_)
    refine go_iload_n 2 d_Mo_simple_76 rfl rfl ?_
    refine go_bipush (v := 6) d_Mo_simple_77 rfl ?_
    refine go_icmp_ne 102 d_Mo_simple_79 rfl (fun _ => ?_) (fun hn => by first | exact absurd hn (by decide) | exact absurd (by decide) hn)
    refine go_iload_n 2 d_Mo_simple_102 rfl rfl ?_
    refine go_bipush (v := 14) d_Mo_simple_103 rfl ?_
    refine go_icmp_ne 114 d_Mo_simple_105 rfl (fun _ => ?_) (fun hn => by first | exact absurd hn (by decide) | exact absurd (by decide) hn)
    refine go_iload_n 2 d_Mo_simple_114 rfl rfl ?_
    refine go_iconst (v := 2) d_Mo_simple_115 rfl ?_
    refine go_icmp_ne 168 d_Mo_simple_116 rfl (fun hn => absurd hn (by decide)) (fun _ => ?_)
    refine go_aload_n 0 d_Mo_simple_119 rfl rfl ?_
    refine go_iload_n 1 d_Mo_simple_120 rfl rfl ?_
    refine go_V1 d_Mo_simple_121 k_Mo_189 (by assumption) (Nat.le_of_ble_eq_true rfl) (c_Mo_pop hp0 hr h (fun L1 f1 f2 f3 f4 => ?_))
    refine go_istore d_Mo_simple_124 (Nat.le_of_ble_eq_true rfl) ?_
    refine go_aload_n 0 d_Mo_simple_126 rfl rfl ?_
    refine go_getR d_Mo_simple_127 f_Mo_56 (by assumption) (by assumption) ?_
    refine go_iload d_Mo_simple_130 rfl ?_
    refine go_iconst (v := 4) d_Mo_simple_132 rfl ?_
    refine go_iadd d_Mo_simple_133 ?_
    refine go_iconst (v := 2) d_Mo_simple_134 rfl ?_
    refine go_iload_n 3 d_Mo_simple_135 rfl rfl ?_
    refine go_imul d_Mo_simple_136 ?_
    refine go_iadd d_Mo_simple_137 ?_
    refine go_aload_n 0 d_Mo_simple_138 rfl rfl ?_
    refine go_getR d_Mo_simple_139 f_Mo_56 (by assumption) (by assumption) ?_
    refine go_iload d_Mo_simple_142 rfl ?_
    refine go_lald (104 * r + 12 + 2 * s1.length) d_Mo_simple_144 (by assumption) (rfl) (by omega) (by decide) ?_
    refine go_last (104 * r + 4 + 2 * j) d_Mo_simple_145 (by assumption) (by rw [show nI (104 * r) + 4 = nI (104 * r + 4) from nI_add _ 4, show (2 : Int32) * nI j = nI (2 * j) from nI_mul 2 j, nI_add]) (by omega) (by decide) ?_
    refine go_aload_n 0 d_Mo_simple_146 rfl rfl ?_
    refine go_getR d_Mo_simple_147 f_Mo_56 (by assumption) (by assumption) ?_
    refine go_iload d_Mo_simple_150 rfl ?_
    refine go_iconst (v := 5) d_Mo_simple_152 rfl ?_
    refine go_iadd d_Mo_simple_153 ?_
    refine go_iconst (v := 2) d_Mo_simple_154 rfl ?_
    refine go_iload_n 3 d_Mo_simple_155 rfl rfl ?_
    refine go_imul d_Mo_simple_156 ?_
    refine go_iadd d_Mo_simple_157 ?_
    refine go_aload_n 0 d_Mo_simple_158 rfl rfl ?_
    refine go_getR d_Mo_simple_159 f_Mo_56 (by assumption) (by assumption) ?_
    refine go_iload d_Mo_simple_162 rfl ?_
    refine go_iconst (v := 1) d_Mo_simple_164 rfl ?_
    refine go_iadd d_Mo_simple_165 ?_
    refine go_lald (104 * r + 13 + 2 * s1.length) d_Mo_simple_166 (by assumption) ((nI_add _ 1).trans (congrArg nI (by omega))) (by omega) (by decide) ?_
    refine go_last (104 * r + 5 + 2 * j) d_Mo_simple_167 (by assumption) (by rw [show nI (104 * r) + 5 = nI (104 * r + 5) from nI_add _ 5, show (2 : Int32) * nI j = nI (2 * j) from nI_mul 2 j, nI_add]) (by omega) (by decide) ?_
    refine go_iload_n 2 d_Mo_simple_168 rfl rfl ?_
    refine go_iconst (v := 3) d_Mo_simple_169 rfl ?_
    refine go_icmp_eq 178 d_Mo_simple_170 rfl (fun hn => absurd hn (by decide)) (fun _ => ?_)
    refine go_iload_n 2 d_Mo_simple_173 rfl rfl ?_
    refine go_iconst (v := 4) d_Mo_simple_174 rfl ?_
    refine go_icmp_ne 239 d_Mo_simple_175 rfl (fun _ => ?_) (fun hn => by first | exact absurd hn (by decide) | exact absurd (by decide) hn)
    exact go_vret d_Mo_simple_239 rfl (by (obtain ⟨c1, c2, c3, c4, c5, c6, c7, c8, c9, c10⟩ := f1; exact hQ _ ⟨by simp (disch := omega) only [up2_eq, up2_ne]; exact c1, by simp (disch := omega) only [up2_eq, up2_ne]; exact c2, by simp (disch := omega) only [up2_eq, up2_ne]; exact c3, c4, c5.cpy (fun x x' ⟨j', h1, h2, h3, h4⟩ => by rw [h3, h4]; simp (disch := omega) only [up2_eq, up2_ne]), fun j' hj' => (by by_cases he : j' = j; (subst he; rw [show (pa_do 2 (nI j') p (v :: s1) lo).2.2 j' = v from hv2]; simp (disch := omega) only [up2_eq, up2_ne]; exact f2); (rw [show (pa_do 2 (nI j) p (v :: s1) lo).2.2 j' = lo j' from hv3 j' he]; simp (disch := omega) only [up2_eq, up2_ne]; exact c6 j' hj')), ((hv3 4 (by omega)).trans c7), c8.cpy (fun j' hj' => by simp (disch := omega) only [up2_eq, up2_ne]), c9.cpy (fun j' hj' => by simp (disch := omega) only [up2_eq, up2_ne]) (by simp (disch := omega) only [up2_eq, up2_ne]), c10.cpy (fun j' hj' => by simp (disch := omega) only [up2_eq, up2_ne]) (by simp (disch := omega) only [up2_eq, up2_ne])⟩ (fun i hi => by simp (disch := omega) only [up2_eq, up2_ne]; exact f3 i (by omega)) (fun q hq => by rw [gw_up_ne hq, gw_up_ne hq]; exact f4 q hq)))
  · obtain ⟨y, x, s1, rfl⟩ := two htk
    have hs6 : s1.length + 2 ≤ 6 := a4
    refine go_bipush (v := 104) d_Mo_simple_0 rfl ?_
    refine go_iload_n 1 d_Mo_simple_2 rfl rfl ?_
    refine go_imul d_Mo_simple_3 ?_
    rw [show (104 : Int32) * nI r = nI (104 * r) from nI_mul 104 r]
    refine go_istore d_Mo_simple_4 (Nat.le_of_ble_eq_true rfl) ?_
    refine go_iload_n 2 d_Mo_simple_6 rfl rfl ?_
    refine go_if_ne 20 d_Mo_simple_7 rfl (fun _ => ?_) (fun hn => by first | exact absurd hn (by decide) | exact absurd (by decide) hn)
    refine go_iload_n 2 d_Mo_simple_20 rfl rfl ?_
    refine go_iconst (v := 1) d_Mo_simple_21 rfl ?_
    refine go_icmp_ne 56 d_Mo_simple_22 rfl (fun _ => ?_) (fun hn => by first | exact absurd hn (by decide) | exact absurd (by decide) hn)
    refine go_iload_n 2 d_Mo_simple_56 rfl rfl ?_
    refine go_bipush (v := 13) d_Mo_simple_57 rfl ?_
    refine go_icmp_ne 71 d_Mo_simple_59 rfl (fun _ => ?_) (fun hn => by first | exact absurd hn (by decide) | exact absurd (by decide) hn)
    refine go_iload_n 2 d_Mo_simple_71 rfl rfl ?_
    refine go_iconst (v := 5) d_Mo_simple_72 rfl ?_
    refine go_icmp_eq 82 d_Mo_simple_73 rfl (fun hn => absurd hn (by decide)) (fun _ => ?_)
    refine go_iload_n 2 d_Mo_simple_76 rfl rfl ?_
    refine go_bipush (v := 6) d_Mo_simple_77 rfl ?_
    refine go_icmp_ne 102 d_Mo_simple_79 rfl (fun _ => ?_) (fun hn => by first | exact absurd hn (by decide) | exact absurd (by decide) hn)
    refine go_iload_n 2 d_Mo_simple_102 rfl rfl ?_
    refine go_bipush (v := 14) d_Mo_simple_103 rfl ?_
    refine go_icmp_ne 114 d_Mo_simple_105 rfl (fun _ => ?_) (fun hn => by first | exact absurd hn (by decide) | exact absurd (by decide) hn)
    refine go_iload_n 2 d_Mo_simple_114 rfl rfl ?_
    refine go_iconst (v := 2) d_Mo_simple_115 rfl ?_
    refine go_icmp_ne 168 d_Mo_simple_116 rfl (fun _ => ?_) (fun hn => by first | exact absurd hn (by decide) | exact absurd (by decide) hn)
    refine go_iload_n 2 d_Mo_simple_168 rfl rfl ?_
    refine go_iconst (v := 3) d_Mo_simple_169 rfl ?_
    refine go_icmp_eq 178 d_Mo_simple_170 rfl (fun _ => ?_) (fun hn => absurd (by decide) hn)
    refine go_aload_n 0 d_Mo_simple_178 rfl rfl ?_
    refine go_iload_n 1 d_Mo_simple_179 rfl rfl ?_
    refine go_V1 d_Mo_simple_180 k_Mo_189 (by assumption) (Nat.le_of_ble_eq_true rfl) (c_Mo_pop hp0 hr h (fun L1 f1 f2 f3 f4 => ?_))
    refine go_istore d_Mo_simple_183 (Nat.le_of_ble_eq_true rfl) ?_
    refine go_aload_n 0 d_Mo_simple_185 rfl rfl ?_
    refine go_iload_n 1 d_Mo_simple_186 rfl rfl ?_
    refine go_V1 d_Mo_simple_187 k_Mo_189 (by assumption) (Nat.le_of_ble_eq_true rfl) (c_Mo_pop hp0 hr f1 (fun L2 g1 g2 g3 g4 => ?_))
    refine go_istore d_Mo_simple_190 (Nat.le_of_ble_eq_true rfl) ?_
    refine go_aload_n 0 d_Mo_simple_192 rfl rfl ?_
    refine go_iload_n 1 d_Mo_simple_193 rfl rfl ?_
    refine go_iload_n 2 d_Mo_simple_194 rfl rfl ?_
    refine go_iconst (v := 3) d_Mo_simple_195 rfl ?_
    refine go_icmp_ne 203 d_Mo_simple_196 rfl (fun hn => absurd hn (by decide)) (fun _ => ?_)
    refine go_iconst (v := 1) d_Mo_simple_199 rfl ?_
    refine go_goto 204 d_Mo_simple_200 rfl ?_
    have f2' : ms_at (L2 549 (104 * r + 14 + 2 * s1.length)) (L2 549 (104 * r + 15 + 2 * s1.length)) y := by rw [g3 _ (by omega), g3 _ (by omega)]; have e1 : 104 * r + 12 + 2 * (x :: s1).length = 104 * r + 14 + 2 * s1.length := (by rw [List.length_cons]; omega); have e2 : 104 * r + 13 + 2 * (x :: s1).length = 104 * r + 15 + 2 * s1.length := (by rw [List.length_cons]; omega); rw [e1, e2] at f2; exact f2
    refine go_aload_n 0 d_Mo_simple_204 rfl rfl ?_
    refine go_getR d_Mo_simple_205 f_Mo_56 (by assumption) (by assumption) ?_
    refine go_iload d_Mo_simple_208 rfl ?_
    refine go_lald (104 * r + 12 + 2 * s1.length) d_Mo_simple_210 (by assumption) (rfl) (by omega) (by decide) ?_
    refine go_aload_n 0 d_Mo_simple_211 rfl rfl ?_
    refine go_getR d_Mo_simple_212 f_Mo_56 (by assumption) (by assumption) ?_
    refine go_iload d_Mo_simple_215 rfl ?_
    refine go_iconst (v := 1) d_Mo_simple_217 rfl ?_
    refine go_iadd d_Mo_simple_218 ?_
    refine go_lald (104 * r + 13 + 2 * s1.length) d_Mo_simple_219 (by assumption) ((nI_add _ 1).trans (congrArg nI (by omega))) (by omega) (by decide) ?_
    refine go_aload_n 0 d_Mo_simple_220 rfl rfl ?_
    refine go_getR d_Mo_simple_221 f_Mo_56 (by assumption) (by assumption) ?_
    refine go_iload d_Mo_simple_224 rfl ?_
    refine go_lald (104 * r + 14 + 2 * s1.length) d_Mo_simple_226 (by assumption) (congrArg nI (by rw [List.length_cons]; omega)) (by omega) (by decide) ?_
    refine go_aload_n 0 d_Mo_simple_227 rfl rfl ?_
    refine go_getR d_Mo_simple_228 f_Mo_56 (by assumption) (by assumption) ?_
    refine go_iload d_Mo_simple_231 rfl ?_
    refine go_iconst (v := 1) d_Mo_simple_233 rfl ?_
    refine go_iadd d_Mo_simple_234 ?_
    refine go_lald (104 * r + 15 + 2 * s1.length) d_Mo_simple_235 (by assumption) ((nI_add _ 1).trans (congrArg nI (by rw [List.length_cons]; omega))) (by omega) (by decide) ?_
    refine go_V6 d_Mo_simple_236 k_Mo_192 (by assumption) (Nat.le_of_ble_eq_true rfl) (c_Mo_combine true hp0 hr g1 (by omega) g2 f2' (fun L3 e1 e2 e3 => ?_))
    exact go_vret d_Mo_simple_239 rfl (hQ L3 e1 (fun i hi => by rw [e2 i hi, g3 i (by omega), f3 i (by omega)]) (fun q hq => by rw [e3 q hq, g4 q hq, f4 q hq]))
  · obtain ⟨y, x, s1, rfl⟩ := two htk
    have hs6 : s1.length + 2 ≤ 6 := a4
    refine go_bipush (v := 104) d_Mo_simple_0 rfl ?_
    refine go_iload_n 1 d_Mo_simple_2 rfl rfl ?_
    refine go_imul d_Mo_simple_3 ?_
    rw [show (104 : Int32) * nI r = nI (104 * r) from nI_mul 104 r]
    refine go_istore d_Mo_simple_4 (Nat.le_of_ble_eq_true rfl) ?_
    refine go_iload_n 2 d_Mo_simple_6 rfl rfl ?_
    refine go_if_ne 20 d_Mo_simple_7 rfl (fun _ => ?_) (fun hn => by first | exact absurd hn (by decide) | exact absurd (by decide) hn)
    refine go_iload_n 2 d_Mo_simple_20 rfl rfl ?_
    refine go_iconst (v := 1) d_Mo_simple_21 rfl ?_
    refine go_icmp_ne 56 d_Mo_simple_22 rfl (fun _ => ?_) (fun hn => by first | exact absurd hn (by decide) | exact absurd (by decide) hn)
    refine go_iload_n 2 d_Mo_simple_56 rfl rfl ?_
    refine go_bipush (v := 13) d_Mo_simple_57 rfl ?_
    refine go_icmp_ne 71 d_Mo_simple_59 rfl (fun _ => ?_) (fun hn => by first | exact absurd hn (by decide) | exact absurd (by decide) hn)
    refine go_iload_n 2 d_Mo_simple_71 rfl rfl ?_
    refine go_iconst (v := 5) d_Mo_simple_72 rfl ?_
    refine go_icmp_eq 82 d_Mo_simple_73 rfl (fun hn => absurd hn (by decide)) (fun _ => ?_)
    refine go_iload_n 2 d_Mo_simple_76 rfl rfl ?_
    refine go_bipush (v := 6) d_Mo_simple_77 rfl ?_
    refine go_icmp_ne 102 d_Mo_simple_79 rfl (fun _ => ?_) (fun hn => by first | exact absurd hn (by decide) | exact absurd (by decide) hn)
    refine go_iload_n 2 d_Mo_simple_102 rfl rfl ?_
    refine go_bipush (v := 14) d_Mo_simple_103 rfl ?_
    refine go_icmp_ne 114 d_Mo_simple_105 rfl (fun _ => ?_) (fun hn => by first | exact absurd hn (by decide) | exact absurd (by decide) hn)
    refine go_iload_n 2 d_Mo_simple_114 rfl rfl ?_
    refine go_iconst (v := 2) d_Mo_simple_115 rfl ?_
    refine go_icmp_ne 168 d_Mo_simple_116 rfl (fun _ => ?_) (fun hn => by first | exact absurd hn (by decide) | exact absurd (by decide) hn)
    refine go_iload_n 2 d_Mo_simple_168 rfl rfl ?_
    refine go_iconst (v := 3) d_Mo_simple_169 rfl ?_
    refine go_icmp_eq 178 d_Mo_simple_170 rfl (fun hn => absurd hn (by decide)) (fun _ => ?_)
    refine go_iload_n 2 d_Mo_simple_173 rfl rfl ?_
    refine go_iconst (v := 4) d_Mo_simple_174 rfl ?_
    refine go_icmp_ne 239 d_Mo_simple_175 rfl (fun hn => absurd hn (by decide)) (fun _ => ?_)
    refine go_aload_n 0 d_Mo_simple_178 rfl rfl ?_
    refine go_iload_n 1 d_Mo_simple_179 rfl rfl ?_
    refine go_V1 d_Mo_simple_180 k_Mo_189 (by assumption) (Nat.le_of_ble_eq_true rfl) (c_Mo_pop hp0 hr h (fun L1 f1 f2 f3 f4 => ?_))
    refine go_istore d_Mo_simple_183 (Nat.le_of_ble_eq_true rfl) ?_
    refine go_aload_n 0 d_Mo_simple_185 rfl rfl ?_
    refine go_iload_n 1 d_Mo_simple_186 rfl rfl ?_
    refine go_V1 d_Mo_simple_187 k_Mo_189 (by assumption) (Nat.le_of_ble_eq_true rfl) (c_Mo_pop hp0 hr f1 (fun L2 g1 g2 g3 g4 => ?_))
    refine go_istore d_Mo_simple_190 (Nat.le_of_ble_eq_true rfl) ?_
    refine go_aload_n 0 d_Mo_simple_192 rfl rfl ?_
    refine go_iload_n 1 d_Mo_simple_193 rfl rfl ?_
    refine go_iload_n 2 d_Mo_simple_194 rfl rfl ?_
    refine go_iconst (v := 3) d_Mo_simple_195 rfl ?_
    refine go_icmp_ne 203 d_Mo_simple_196 rfl (fun _ => ?_) (fun hn => by first | exact absurd hn (by decide) | exact absurd (by decide) hn)
    refine go_iconst (v := 0) d_Mo_simple_203 rfl ?_
    have f2' : ms_at (L2 549 (104 * r + 14 + 2 * s1.length)) (L2 549 (104 * r + 15 + 2 * s1.length)) y := by rw [g3 _ (by omega), g3 _ (by omega)]; have e1 : 104 * r + 12 + 2 * (x :: s1).length = 104 * r + 14 + 2 * s1.length := (by rw [List.length_cons]; omega); have e2 : 104 * r + 13 + 2 * (x :: s1).length = 104 * r + 15 + 2 * s1.length := (by rw [List.length_cons]; omega); rw [e1, e2] at f2; exact f2
    refine go_aload_n 0 d_Mo_simple_204 rfl rfl ?_
    refine go_getR d_Mo_simple_205 f_Mo_56 (by assumption) (by assumption) ?_
    refine go_iload d_Mo_simple_208 rfl ?_
    refine go_lald (104 * r + 12 + 2 * s1.length) d_Mo_simple_210 (by assumption) (rfl) (by omega) (by decide) ?_
    refine go_aload_n 0 d_Mo_simple_211 rfl rfl ?_
    refine go_getR d_Mo_simple_212 f_Mo_56 (by assumption) (by assumption) ?_
    refine go_iload d_Mo_simple_215 rfl ?_
    refine go_iconst (v := 1) d_Mo_simple_217 rfl ?_
    refine go_iadd d_Mo_simple_218 ?_
    refine go_lald (104 * r + 13 + 2 * s1.length) d_Mo_simple_219 (by assumption) ((nI_add _ 1).trans (congrArg nI (by omega))) (by omega) (by decide) ?_
    refine go_aload_n 0 d_Mo_simple_220 rfl rfl ?_
    refine go_getR d_Mo_simple_221 f_Mo_56 (by assumption) (by assumption) ?_
    refine go_iload d_Mo_simple_224 rfl ?_
    refine go_lald (104 * r + 14 + 2 * s1.length) d_Mo_simple_226 (by assumption) (congrArg nI (by rw [List.length_cons]; omega)) (by omega) (by decide) ?_
    refine go_aload_n 0 d_Mo_simple_227 rfl rfl ?_
    refine go_getR d_Mo_simple_228 f_Mo_56 (by assumption) (by assumption) ?_
    refine go_iload d_Mo_simple_231 rfl ?_
    refine go_iconst (v := 1) d_Mo_simple_233 rfl ?_
    refine go_iadd d_Mo_simple_234 ?_
    refine go_lald (104 * r + 15 + 2 * s1.length) d_Mo_simple_235 (by assumption) ((nI_add _ 1).trans (congrArg nI (by rw [List.length_cons]; omega))) (by omega) (by decide) ?_
    refine go_V6 d_Mo_simple_236 k_Mo_192 (by assumption) (Nat.le_of_ble_eq_true rfl) (c_Mo_combine false hp0 hr g1 (by omega) g2 f2' (fun L3 e1 e2 e3 => ?_))
    exact go_vret d_Mo_simple_239 rfl (hQ L3 e1 (fun i hi => by rw [e2 i hi, g3 i (by omega), f3 i (by omega)]) (fun q hq => by rw [e3 q hq, g4 q hq, f4 q hq]))
  · have hv2 : (pa_do 5 nn p st lo).2.2 0 = sy_up nn (lo 0) := by show va_up lo 0 (sy_up nn (lo 0)) 0 = _; rw [gw_up_eq]
    have hv3 : ∀ j', j' ≠ 0 → (pa_do 5 nn p st lo).2.2 j' = lo j' := fun j' he => by show va_up lo 0 (sy_up nn (lo 0)) j' = _; rw [gw_up_ne he]
    have hv1 : (pa_do 5 nn p st lo).2.1 = st := by cases st <;> rfl
    rw [hv1] at hQ
    refine go_bipush (v := 104) d_Mo_simple_0 rfl ?_
    refine go_iload_n 1 d_Mo_simple_2 rfl rfl ?_
    refine go_imul d_Mo_simple_3 ?_
    rw [show (104 : Int32) * nI r = nI (104 * r) from nI_mul 104 r]
    refine go_istore d_Mo_simple_4 (Nat.le_of_ble_eq_true rfl) ?_
    refine go_iload_n 2 d_Mo_simple_6 rfl rfl ?_
    refine go_if_ne 20 d_Mo_simple_7 rfl (fun _ => ?_) (fun hn => by first | exact absurd hn (by decide) | exact absurd (by decide) hn)
    refine go_iload_n 2 d_Mo_simple_20 rfl rfl ?_
    refine go_iconst (v := 1) d_Mo_simple_21 rfl ?_
    refine go_icmp_ne 56 d_Mo_simple_22 rfl (fun _ => ?_) (fun hn => by first | exact absurd hn (by decide) | exact absurd (by decide) hn)
    refine go_iload_n 2 d_Mo_simple_56 rfl rfl ?_
    refine go_bipush (v := 13) d_Mo_simple_57 rfl ?_
    refine go_icmp_ne 71 d_Mo_simple_59 rfl (fun _ => ?_) (fun hn => by first | exact absurd hn (by decide) | exact absurd (by decide) hn)
    refine go_iload_n 2 d_Mo_simple_71 rfl rfl ?_
    refine go_iconst (v := 5) d_Mo_simple_72 rfl ?_
    refine go_icmp_eq 82 d_Mo_simple_73 rfl (fun _ => ?_) (fun hn => absurd (by decide) hn)
    refine go_aload_n 0 d_Mo_simple_82 rfl rfl ?_
    refine go_getR d_Mo_simple_83 f_Mo_56 (by assumption) (by assumption) ?_
    refine go_iload d_Mo_simple_86 rfl ?_
    refine go_iconst (v := 5) d_Mo_simple_88 rfl ?_
    refine go_iadd d_Mo_simple_89 ?_
    refine go_iconst (v := 2) d_Mo_simple_90 rfl ?_
    refine go_iload_n 2 d_Mo_simple_91 rfl rfl ?_
    refine go_iconst (v := 5) d_Mo_simple_92 rfl ?_
    refine go_isub d_Mo_simple_93 ?_
    refine go_imul d_Mo_simple_94 ?_
    refine go_iadd d_Mo_simple_95 ?_
    refine go_dup2 d_Mo_simple_96 rfl rfl ?_
    refine go_lald (104 * r + 5 + 2 * 0) d_Mo_simple_97 (by assumption) (by rw [show nI (104 * r) + 5 = nI (104 * r + 5) from nI_add _ 5]; exact nI_add _ 0) (by omega) (by decide) ?_
    refine go_iload_n 3 d_Mo_simple_98 rfl rfl ?_
    refine go_i2l d_Mo_simple_99 (rfl) ?_
    refine go_ladd d_Mo_simple_100 ?_
    refine go_last (104 * r + 5 + 2 * 0) d_Mo_simple_101 (by assumption) (by rw [show nI (104 * r) + 5 = nI (104 * r + 5) from nI_add _ 5]; exact nI_add _ 0) (by omega) (by decide) ?_
    refine go_iload_n 2 d_Mo_simple_102 rfl rfl ?_
    refine go_bipush (v := 14) d_Mo_simple_103 rfl ?_
    refine go_icmp_ne 114 d_Mo_simple_105 rfl (fun _ => ?_) (fun hn => by first | exact absurd hn (by decide) | exact absurd (by decide) hn)
    refine go_iload_n 2 d_Mo_simple_114 rfl rfl ?_
    refine go_iconst (v := 2) d_Mo_simple_115 rfl ?_
    refine go_icmp_ne 168 d_Mo_simple_116 rfl (fun _ => ?_) (fun hn => by first | exact absurd hn (by decide) | exact absurd (by decide) hn)
    refine go_iload_n 2 d_Mo_simple_168 rfl rfl ?_
    refine go_iconst (v := 3) d_Mo_simple_169 rfl ?_
    refine go_icmp_eq 178 d_Mo_simple_170 rfl (fun hn => absurd hn (by decide)) (fun _ => ?_)
    refine go_iload_n 2 d_Mo_simple_173 rfl rfl ?_
    refine go_iconst (v := 4) d_Mo_simple_174 rfl ?_
    refine go_icmp_ne 239 d_Mo_simple_175 rfl (fun _ => ?_) (fun hn => by first | exact absurd hn (by decide) | exact absurd (by decide) hn)
    exact go_vret d_Mo_simple_239 rfl (hQ _ ⟨by simp (disch := omega) only [up2_eq, up2_ne]; exact a1, by simp (disch := omega) only [up2_eq, up2_ne]; exact a2, by simp (disch := omega) only [up2_eq, up2_ne]; exact a3, a4, a5.cpy (fun x x' ⟨j, h1, h2, h3, h4⟩ => by rw [h3, h4]; simp (disch := omega) only [up2_eq, up2_ne]), fun j hj => (by by_cases he : j = 0; (subst he; rw [hv2]; simp (disch := omega) only [up2_eq, up2_ne]; exact ms_up (a6 0 (by decide))); (rw [hv3 j he]; simp (disch := omega) only [up2_eq, up2_ne]; exact a6 j hj)), ((hv3 4 (by decide)).trans a7), a8.cpy (fun j hj => by simp (disch := omega) only [up2_eq, up2_ne]), a9.cpy (fun j hj => by simp (disch := omega) only [up2_eq, up2_ne]) (by simp (disch := omega) only [up2_eq, up2_ne]), a10.cpy (fun j hj => by simp (disch := omega) only [up2_eq, up2_ne]) (by simp (disch := omega) only [up2_eq, up2_ne])⟩ (fun i hi => by simp (disch := omega) only [up2_eq, up2_ne]) (fun q hq => gw_up_ne hq))
  · have hv2 : (pa_do 6 nn p st lo).2.2 1 = sy_up nn (lo 1) := by show va_up lo 1 (sy_up nn (lo 1)) 1 = _; rw [gw_up_eq]
    have hv3 : ∀ j', j' ≠ 1 → (pa_do 6 nn p st lo).2.2 j' = lo j' := fun j' he => by show va_up lo 1 (sy_up nn (lo 1)) j' = _; rw [gw_up_ne he]
    have hv1 : (pa_do 6 nn p st lo).2.1 = st := by cases st <;> rfl
    rw [hv1] at hQ
    refine go_bipush (v := 104) d_Mo_simple_0 rfl ?_
    refine go_iload_n 1 d_Mo_simple_2 rfl rfl ?_
    refine go_imul d_Mo_simple_3 ?_
    rw [show (104 : Int32) * nI r = nI (104 * r) from nI_mul 104 r]
    refine go_istore d_Mo_simple_4 (Nat.le_of_ble_eq_true rfl) ?_
    refine go_iload_n 2 d_Mo_simple_6 rfl rfl ?_
    refine go_if_ne 20 d_Mo_simple_7 rfl (fun _ => ?_) (fun hn => by first | exact absurd hn (by decide) | exact absurd (by decide) hn)
    refine go_iload_n 2 d_Mo_simple_20 rfl rfl ?_
    refine go_iconst (v := 1) d_Mo_simple_21 rfl ?_
    refine go_icmp_ne 56 d_Mo_simple_22 rfl (fun _ => ?_) (fun hn => by first | exact absurd hn (by decide) | exact absurd (by decide) hn)
    refine go_iload_n 2 d_Mo_simple_56 rfl rfl ?_
    refine go_bipush (v := 13) d_Mo_simple_57 rfl ?_
    refine go_icmp_ne 71 d_Mo_simple_59 rfl (fun _ => ?_) (fun hn => by first | exact absurd hn (by decide) | exact absurd (by decide) hn)
    refine go_iload_n 2 d_Mo_simple_71 rfl rfl ?_
    refine go_iconst (v := 5) d_Mo_simple_72 rfl ?_
    refine go_icmp_eq 82 d_Mo_simple_73 rfl (fun hn => absurd hn (by decide)) (fun _ => ?_)
    refine go_iload_n 2 d_Mo_simple_76 rfl rfl ?_
    refine go_bipush (v := 6) d_Mo_simple_77 rfl ?_
    refine go_icmp_ne 102 d_Mo_simple_79 rfl (fun hn => absurd hn (by decide)) (fun _ => ?_)
    refine go_aload_n 0 d_Mo_simple_82 rfl rfl ?_
    refine go_getR d_Mo_simple_83 f_Mo_56 (by assumption) (by assumption) ?_
    refine go_iload d_Mo_simple_86 rfl ?_
    refine go_iconst (v := 5) d_Mo_simple_88 rfl ?_
    refine go_iadd d_Mo_simple_89 ?_
    refine go_iconst (v := 2) d_Mo_simple_90 rfl ?_
    refine go_iload_n 2 d_Mo_simple_91 rfl rfl ?_
    refine go_iconst (v := 5) d_Mo_simple_92 rfl ?_
    refine go_isub d_Mo_simple_93 ?_
    refine go_imul d_Mo_simple_94 ?_
    refine go_iadd d_Mo_simple_95 ?_
    refine go_dup2 d_Mo_simple_96 rfl rfl ?_
    refine go_lald (104 * r + 5 + 2 * 1) d_Mo_simple_97 (by assumption) (by rw [show nI (104 * r) + 5 = nI (104 * r + 5) from nI_add _ 5]; exact nI_add _ 2) (by omega) (by decide) ?_
    refine go_iload_n 3 d_Mo_simple_98 rfl rfl ?_
    refine go_i2l d_Mo_simple_99 (rfl) ?_
    refine go_ladd d_Mo_simple_100 ?_
    refine go_last (104 * r + 5 + 2 * 1) d_Mo_simple_101 (by assumption) (by rw [show nI (104 * r) + 5 = nI (104 * r + 5) from nI_add _ 5]; exact nI_add _ 2) (by omega) (by decide) ?_
    refine go_iload_n 2 d_Mo_simple_102 rfl rfl ?_
    refine go_bipush (v := 14) d_Mo_simple_103 rfl ?_
    refine go_icmp_ne 114 d_Mo_simple_105 rfl (fun _ => ?_) (fun hn => by first | exact absurd hn (by decide) | exact absurd (by decide) hn)
    refine go_iload_n 2 d_Mo_simple_114 rfl rfl ?_
    refine go_iconst (v := 2) d_Mo_simple_115 rfl ?_
    refine go_icmp_ne 168 d_Mo_simple_116 rfl (fun _ => ?_) (fun hn => by first | exact absurd hn (by decide) | exact absurd (by decide) hn)
    refine go_iload_n 2 d_Mo_simple_168 rfl rfl ?_
    refine go_iconst (v := 3) d_Mo_simple_169 rfl ?_
    refine go_icmp_eq 178 d_Mo_simple_170 rfl (fun hn => absurd hn (by decide)) (fun _ => ?_)
    refine go_iload_n 2 d_Mo_simple_173 rfl rfl ?_
    refine go_iconst (v := 4) d_Mo_simple_174 rfl ?_
    refine go_icmp_ne 239 d_Mo_simple_175 rfl (fun _ => ?_) (fun hn => by first | exact absurd hn (by decide) | exact absurd (by decide) hn)
    exact go_vret d_Mo_simple_239 rfl (hQ _ ⟨by simp (disch := omega) only [up2_eq, up2_ne]; exact a1, by simp (disch := omega) only [up2_eq, up2_ne]; exact a2, by simp (disch := omega) only [up2_eq, up2_ne]; exact a3, a4, a5.cpy (fun x x' ⟨j, h1, h2, h3, h4⟩ => by rw [h3, h4]; simp (disch := omega) only [up2_eq, up2_ne]), fun j hj => (by by_cases he : j = 1; (subst he; rw [hv2]; simp (disch := omega) only [up2_eq, up2_ne]; exact ms_up (a6 1 (by decide))); (rw [hv3 j he]; simp (disch := omega) only [up2_eq, up2_ne]; exact a6 j hj)), ((hv3 4 (by decide)).trans a7), a8.cpy (fun j hj => by simp (disch := omega) only [up2_eq, up2_ne]), a9.cpy (fun j hj => by simp (disch := omega) only [up2_eq, up2_ne]) (by simp (disch := omega) only [up2_eq, up2_ne]), a10.cpy (fun j hj => by simp (disch := omega) only [up2_eq, up2_ne]) (by simp (disch := omega) only [up2_eq, up2_ne])⟩ (fun i hi => by simp (disch := omega) only [up2_eq, up2_ne]) (fun q hq => gw_up_ne hq))
  · skip
    refine go_bipush (v := 104) d_Mo_simple_0 rfl ?_
    refine go_iload_n 1 d_Mo_simple_2 rfl rfl ?_
    refine go_imul d_Mo_simple_3 ?_
    rw [show (104 : Int32) * nI r = nI (104 * r) from nI_mul 104 r]
    refine go_istore d_Mo_simple_4 (Nat.le_of_ble_eq_true rfl) ?_
    refine go_iload_n 2 d_Mo_simple_6 rfl rfl ?_
    refine go_if_ne 20 d_Mo_simple_7 rfl (fun _ => ?_) (fun hn => by first | exact absurd hn (by decide) | exact absurd (by decide) hn)
    refine go_iload_n 2 d_Mo_simple_20 rfl rfl ?_
    refine go_iconst (v := 1) d_Mo_simple_21 rfl ?_
    refine go_icmp_ne 56 d_Mo_simple_22 rfl (fun _ => ?_) (fun hn => by first | exact absurd hn (by decide) | exact absurd (by decide) hn)
    refine go_iload_n 2 d_Mo_simple_56 rfl rfl ?_
    refine go_bipush (v := 13) d_Mo_simple_57 rfl ?_
    refine go_icmp_ne 71 d_Mo_simple_59 rfl (fun _ => ?_) (fun hn => by first | exact absurd hn (by decide) | exact absurd (by decide) hn)
    refine go_iload_n 2 d_Mo_simple_71 rfl rfl ?_
    refine go_iconst (v := 5) d_Mo_simple_72 rfl ?_
    refine go_icmp_eq 82 d_Mo_simple_73 rfl (fun hn => absurd hn (by decide)) (fun _ => ?_)
    refine go_iload_n 2 d_Mo_simple_76 rfl rfl ?_
    refine go_bipush (v := 6) d_Mo_simple_77 rfl ?_
    refine go_icmp_ne 102 d_Mo_simple_79 rfl (fun _ => ?_) (fun hn => by first | exact absurd hn (by decide) | exact absurd (by decide) hn)
    refine go_iload_n 2 d_Mo_simple_102 rfl rfl ?_
    refine go_bipush (v := 14) d_Mo_simple_103 rfl ?_
    refine go_icmp_ne 114 d_Mo_simple_105 rfl (fun _ => ?_) (fun hn => by first | exact absurd hn (by decide) | exact absurd (by decide) hn)
    refine go_iload_n 2 d_Mo_simple_114 rfl rfl ?_
    refine go_iconst (v := 2) d_Mo_simple_115 rfl ?_
    refine go_icmp_ne 168 d_Mo_simple_116 rfl (fun _ => ?_) (fun hn => by first | exact absurd hn (by decide) | exact absurd (by decide) hn)
    refine go_iload_n 2 d_Mo_simple_168 rfl rfl ?_
    refine go_iconst (v := 3) d_Mo_simple_169 rfl ?_
    refine go_icmp_eq 178 d_Mo_simple_170 rfl (fun hn => absurd hn (by decide)) (fun _ => ?_)
    refine go_iload_n 2 d_Mo_simple_173 rfl rfl ?_
    refine go_iconst (v := 4) d_Mo_simple_174 rfl ?_
    refine go_icmp_ne 239 d_Mo_simple_175 rfl (fun _ => ?_) (fun hn => by first | exact absurd hn (by decide) | exact absurd (by decide) hn)
    exact go_vret d_Mo_simple_239 rfl (hQ L h (fun _ _ => rfl) (fun _ _ => rfl))
  · skip
    refine go_bipush (v := 104) d_Mo_simple_0 rfl ?_
    refine go_iload_n 1 d_Mo_simple_2 rfl rfl ?_
    refine go_imul d_Mo_simple_3 ?_
    rw [show (104 : Int32) * nI r = nI (104 * r) from nI_mul 104 r]
    refine go_istore d_Mo_simple_4 (Nat.le_of_ble_eq_true rfl) ?_
    refine go_iload_n 2 d_Mo_simple_6 rfl rfl ?_
    refine go_if_ne 20 d_Mo_simple_7 rfl (fun _ => ?_) (fun hn => by first | exact absurd hn (by decide) | exact absurd (by decide) hn)
    refine go_iload_n 2 d_Mo_simple_20 rfl rfl ?_
    refine go_iconst (v := 1) d_Mo_simple_21 rfl ?_
    refine go_icmp_ne 56 d_Mo_simple_22 rfl (fun _ => ?_) (fun hn => by first | exact absurd hn (by decide) | exact absurd (by decide) hn)
    refine go_iload_n 2 d_Mo_simple_56 rfl rfl ?_
    refine go_bipush (v := 13) d_Mo_simple_57 rfl ?_
    refine go_icmp_ne 71 d_Mo_simple_59 rfl (fun hn => absurd hn (by decide)) (fun _ => ?_)
    refine go_aload_n 0 d_Mo_simple_62 rfl rfl ?_
    refine go_iload_n 1 d_Mo_simple_63 rfl rfl ?_
    refine go_ldc2 d_Mo_simple_64 i_Mo_187 ?_
    refine go_lconst (v := 0) d_Mo_simple_67 rfl ?_
    refine go_V3 d_Mo_simple_68 k_Mo_183 (by assumption) (Nat.le_of_ble_eq_true rfl) (c_Mo_push (v := none) hp0 hr h (hro (by decide)) rfl (fun L1 f1 f2 f3 => ?_))
    refine go_iload_n 2 d_Mo_simple_71 rfl rfl ?_
    refine go_iconst (v := 5) d_Mo_simple_72 rfl ?_
    refine go_icmp_eq 82 d_Mo_simple_73 rfl (fun hn => absurd hn (by decide)) (fun _ => ?_)
    refine go_iload_n 2 d_Mo_simple_76 rfl rfl ?_
    refine go_bipush (v := 6) d_Mo_simple_77 rfl ?_
    refine go_icmp_ne 102 d_Mo_simple_79 rfl (fun _ => ?_) (fun hn => by first | exact absurd hn (by decide) | exact absurd (by decide) hn)
    refine go_iload_n 2 d_Mo_simple_102 rfl rfl ?_
    refine go_bipush (v := 14) d_Mo_simple_103 rfl ?_
    refine go_icmp_ne 114 d_Mo_simple_105 rfl (fun _ => ?_) (fun hn => by first | exact absurd hn (by decide) | exact absurd (by decide) hn)
    refine go_iload_n 2 d_Mo_simple_114 rfl rfl ?_
    refine go_iconst (v := 2) d_Mo_simple_115 rfl ?_
    refine go_icmp_ne 168 d_Mo_simple_116 rfl (fun _ => ?_) (fun hn => by first | exact absurd hn (by decide) | exact absurd (by decide) hn)
    refine go_iload_n 2 d_Mo_simple_168 rfl rfl ?_
    refine go_iconst (v := 3) d_Mo_simple_169 rfl ?_
    refine go_icmp_eq 178 d_Mo_simple_170 rfl (fun hn => absurd hn (by decide)) (fun _ => ?_)
    refine go_iload_n 2 d_Mo_simple_173 rfl rfl ?_
    refine go_iconst (v := 4) d_Mo_simple_174 rfl ?_
    refine go_icmp_ne 239 d_Mo_simple_175 rfl (fun _ => ?_) (fun hn => by first | exact absurd hn (by decide) | exact absurd (by decide) hn)
    exact go_vret d_Mo_simple_239 rfl (hQ L1 f1 f2 f3)
  · obtain ⟨v, s1, rfl⟩ := one htk
    refine go_bipush (v := 104) d_Mo_simple_0 rfl ?_
    refine go_iload_n 1 d_Mo_simple_2 rfl rfl ?_
    refine go_imul d_Mo_simple_3 ?_
    rw [show (104 : Int32) * nI r = nI (104 * r) from nI_mul 104 r]
    refine go_istore d_Mo_simple_4 (Nat.le_of_ble_eq_true rfl) ?_
    refine go_iload_n 2 d_Mo_simple_6 rfl rfl ?_
    refine go_if_ne 20 d_Mo_simple_7 rfl (fun _ => ?_) (fun hn => by first | exact absurd hn (by decide) | exact absurd (by decide) hn)
    refine go_iload_n 2 d_Mo_simple_20 rfl rfl ?_
    refine go_iconst (v := 1) d_Mo_simple_21 rfl ?_
    refine go_icmp_ne 56 d_Mo_simple_22 rfl (fun _ => ?_) (fun hn => by first | exact absurd hn (by decide) | exact absurd (by decide) hn)
    refine go_iload_n 2 d_Mo_simple_56 rfl rfl ?_
    refine go_bipush (v := 13) d_Mo_simple_57 rfl ?_
    refine go_icmp_ne 71 d_Mo_simple_59 rfl (fun _ => ?_) (fun hn => by first | exact absurd hn (by decide) | exact absurd (by decide) hn)
    refine go_iload_n 2 d_Mo_simple_71 rfl rfl ?_
    refine go_iconst (v := 5) d_Mo_simple_72 rfl ?_
    refine go_icmp_eq 82 d_Mo_simple_73 rfl (fun hn => absurd hn (by decide)) (fun _ => ?_)
    refine go_iload_n 2 d_Mo_simple_76 rfl rfl ?_
    refine go_bipush (v := 6) d_Mo_simple_77 rfl ?_
    refine go_icmp_ne 102 d_Mo_simple_79 rfl (fun _ => ?_) (fun hn => by first | exact absurd hn (by decide) | exact absurd (by decide) hn)
    refine go_iload_n 2 d_Mo_simple_102 rfl rfl ?_
    refine go_bipush (v := 14) d_Mo_simple_103 rfl ?_
    refine go_icmp_ne 114 d_Mo_simple_105 rfl (fun hn => absurd hn (by decide)) (fun _ => ?_)
    refine go_aload_n 0 d_Mo_simple_108 rfl rfl ?_
    refine go_iload_n 1 d_Mo_simple_109 rfl rfl ?_
    refine go_V1 d_Mo_simple_110 k_Mo_189 (by assumption) (Nat.le_of_ble_eq_true rfl) (c_Mo_pop hp0 hr h (fun L1 f1 f2 f3 f4 => ?_))
    refine go_pop d_Mo_simple_113 rfl ?_
    refine go_iload_n 2 d_Mo_simple_114 rfl rfl ?_
    refine go_iconst (v := 2) d_Mo_simple_115 rfl ?_
    refine go_icmp_ne 168 d_Mo_simple_116 rfl (fun _ => ?_) (fun hn => by first | exact absurd hn (by decide) | exact absurd (by decide) hn)
    refine go_iload_n 2 d_Mo_simple_168 rfl rfl ?_
    refine go_iconst (v := 3) d_Mo_simple_169 rfl ?_
    refine go_icmp_eq 178 d_Mo_simple_170 rfl (fun hn => absurd hn (by decide)) (fun _ => ?_)
    refine go_iload_n 2 d_Mo_simple_173 rfl rfl ?_
    refine go_iconst (v := 4) d_Mo_simple_174 rfl ?_
    refine go_icmp_ne 239 d_Mo_simple_175 rfl (fun _ => ?_) (fun hn => by first | exact absurd hn (by decide) | exact absurd (by decide) hn)
    exact go_vret d_Mo_simple_239 rfl (hQ L1 f1 (fun i hi => f3 i (by omega)) f4)
theorem c_Mo_learn {r md : Nat} {p : Int32} {st : List ab_Sy} {lo : Nat → ab_Sy} {E : sp_E} {b0 b1 : ab_Ba} {q u : Nat × Int64} (less : Bool) (hp : pt_Mo sh R) (hr : r < 42) (hq : q.1 < 5) (hu : u.1 < 5) (hE : ∀ a b x, E a b = some x → kn_s x) (hnq : -1000000000000 ≤ q.2.toInt ∧ q.2.toInt ≤ 1000000000000) (hnu : -1000000000000 ≤ u.2.toInt ∧ u.2.toInt ≤ 1000000000000) (h : rw_at (L 549) (104 * r) p md st lo E b0 b1) (hQ : ∀ L' t, pa_edge less (some q) (some u) = some t → rw_at (L' 549) (104 * r) p md st lo (sp_add E t.1 t.2.1 t.2.2) b0 b1 → (∀ i, i < 104 * r ∨ 104 * r + 104 ≤ i → L' 549 i = L 549 i) → (∀ q, q ≠ 549 → L' q = L q) → Q none (n, sh, X, R, I, L')) : gw_Call y_Mo_learn (d + 2) 0 0 [.ref 533, .int (nI r), .int (bI less), .long (lN q.1), .long (lN u.1), .long (u.2 - q.2)] (n, sh, X, R, I, L) Q := by
  have hp0 := hp
  obtain ⟨s533, s534, s535, s536, s537, s538, s539, s540, s541, s542, s543, s544, s545, s546, s547, s548, s549, s550, s551, s552, s553, s554, s555, s556, s557, r534, r535, r536, r537, r538, r539, r540, r541, r542, r543, r544, r545, r546, r547, r548, r549, r550, r551, r552, r553, r554, r555, r556, r557⟩ := hp
  refine gw_call o_Mo_learn (Nat.le_of_ble_eq_true rfl) ?_
  cases less with
  | true =>
    refine go_iload_n 2 d_Mo_learn_0 rfl rfl ?_
    refine go_if_eq 19 d_Mo_learn_1 rfl (fun hn => absurd hn (by decide)) (fun _ => ?_)
    refine go_aload_n 0 d_Mo_learn_4 rfl rfl ?_
    refine go_iload_n 1 d_Mo_learn_5 rfl rfl ?_
    refine go_lload_n 3 d_Mo_learn_6 rfl rfl ?_
    refine go_lload d_Mo_learn_7 rfl ?_
    refine go_lload d_Mo_learn_9 rfl ?_
    refine go_lconst (v := 1) d_Mo_learn_11 rfl ?_
    refine go_lsub d_Mo_learn_12 ?_
    rw [l_less]
    refine go_V4 d_Mo_learn_13 k_Mo_131 (by assumption) (Nat.le_of_ble_eq_true rfl) (c_Mo_know hp0 hr hq hu (hE _ _) ⟨by omega, by omega⟩ h (fun L1 f1 f2 f3 => ?_))
    refine go_goto 30 d_Mo_learn_16 rfl ?_
    exact go_vret d_Mo_learn_30 rfl (hQ L1 (q.1, u.1, u.2.toInt - q.2.toInt - 1) rfl f1 f2 f3)
  | false =>
    refine go_iload_n 2 d_Mo_learn_0 rfl rfl ?_
    refine go_if_eq 19 d_Mo_learn_1 rfl (fun _ => ?_) (fun hn => absurd (by decide) hn)
    refine go_aload_n 0 d_Mo_learn_19 rfl rfl ?_
    refine go_iload_n 1 d_Mo_learn_20 rfl rfl ?_
    refine go_lload d_Mo_learn_21 rfl ?_
    refine go_lload_n 3 d_Mo_learn_23 rfl rfl ?_
    refine go_lload d_Mo_learn_24 rfl ?_
    refine go_lneg d_Mo_learn_26 ?_
    rw [l_more]
    refine go_V4 d_Mo_learn_27 k_Mo_131 (by assumption) (Nat.le_of_ble_eq_true rfl) (c_Mo_know hp0 hr hu hq (hE _ _) ⟨by omega, by omega⟩ h (fun L1 f1 f2 f3 => ?_))
    exact go_vret d_Mo_learn_30 rfl (hQ L1 (u.1, q.1, q.2.toInt - u.2.toInt) rfl f1 f2 f3)
end MO
