/-! Checker.reasonOfNew, reasonOfCall -/
/-- what the called method's locals stand for, the first i arguments being set -/
def ca_f (g : Nat → ab_Sy) (i j : Nat) : ab_Sy := if j < i then g j else if j = 3 then some (4, 0) else some (j, 0)
theorem ca_f_0 (g : Nat → ab_Sy) : va_up sy_id 3 (some (4, 0)) = ca_f g 0 := by
  funext j
  unfold ca_f
  by_cases h : j = 3
  · subst h; rw [gw_up_eq]; rfl
  · rw [gw_up_ne h, if_neg (by omega), if_neg h]; rfl
theorem ca_f_s (g : Nat → ab_Sy) {i : Nat} (hi : i < 3) : va_up (ca_f g i) i (g i) = ca_f g (i + 1) := by
  funext j
  by_cases h : j = i
  · subst h; rw [gw_up_eq]; unfold ca_f; rw [if_pos (by omega)]
  · rw [gw_up_ne h]
    unfold ca_f
    by_cases hj : j < i
    · rw [if_pos hj, if_pos (by omega)]
    · rw [if_neg hj, if_neg (show ¬ j < i + 1 by omega)]
def ca_g (x y z : ab_Sy) (j : Nat) : ab_Sy := if j = 0 then x else if j = 1 then y else z
/-- what the locals of the called method stand for -/
def ca_sy (x y z : ab_Sy) : Nat → ab_Sy := ca_f (ca_g x y z) 3
section CH
variable {d n : Nat} {sh : Nat → Nat × Nat} {X : Nat × (Nat → Int32)} {R : Nat → Nat → Option Nat} {I : Nat → Nat → Int32} {L : Nat → Nat → Int64} {Q : Option Value → gw_Mem → Prop} {o md : Nat} {p : Int32} {st : List ab_Sy} {lo : Nat → ab_Sy} {C : sp_E} {b0 b1 : ab_Ba} {S : Nat → ab_Me}
theorem c_Sy_put {o j : Nat} {f : Nat → ab_Sy} {x : Int32} {v : Int64} {y : ab_Sy} (hp : pt_Sy sh R o) (hj : j < 5) (hf : sy_at I L o f) (hy : sd_at x v y) (hQ : ∀ I' L', sy_at I' L' o (va_up f j y) → (∀ q, q ≠ o + 1 → I' q = I q) → (∀ q, q ≠ o + 2 → L' q = L q) → Q none (n, sh, X, R, I', L')) : gw_Call y_Sy_set d 0 0 [.ref o, .int (nI j), .int x, .long v] (n, sh, X, R, I, L) Q :=
  c_Sy_set hp hj (hQ _ _ (hf.set hy) (fun q hq => gw_up_ne hq) (fun q hq => gw_up_ne hq))
theorem c_Ch_reasonOfNew {v : ab_Sy} (s345 : sh 345 = (0, 6)) (hp : pt_Pa sh R o) (ha : pa_at I L o p md (v :: st) lo C b0 b1) (h6 : st.length + 1 ≤ 6) (hC : kn_bd C 400000000000) (hv : ∀ q, v = some q → -100000000000 ≤ q.2.toInt ∧ q.2.toInt ≤ 100000000000)
    (hf : ¬ (∃ q w, v = some q ∧ C 4 q.1 = some w ∧ w ≤ q.2.toInt) → ∀ I', (∀ q, q < o ∨ o + 13 ≤ q → I' q = I q) → Q (some (.int 5)) (n, sh, X, R, I', L)) (hQ : ∀ q w, v = some q → C 4 q.1 = some w → w ≤ q.2.toInt → ∀ I' L', pa_at I' L' o p md st lo C b0 (ba_T b1.1 q.1 4 (-1), b1.2 - (q.2 + 2)) → (∀ q, q < o ∨ o + 13 ≤ q → I' q = I q) → (∀ q, q < o ∨ o + 13 ≤ q → L' q = L q) → Q (some (.int 0)) (n, sh, X, R, I', L')) : gw_Call y_Ch_reasonOfNew (d + 2) 0 0 [.ref 345, .ref o] (n, sh, X, R, I, L) Q := by
  obtain ⟨s0, s1, s4, s5, s6, s8, s9, s11, r0, r1, r2, r6, r7, r80, r81⟩ := hp
  obtain ⟨⟨e1, e2, e3, e4, e5, e6, e7, e8⟩, hd⟩ := ha.drop
  have z6 := s6.1
  have z11 := s11.1
  have fr : ∀ q, q < o ∨ o + 13 ≤ q → va_up I o (va_up (I o) 3 (nI st.length)) q = I q := fun q hq => gw_up_ne (by omega)
  refine gw_call o_Ch_reasonOfNew (Nat.le_of_ble_eq_true rfl) ?_
  refine go_aload_n 1 d_Ch_reasonOfNew_0 rfl rfl ?_
  refine go_iconst (v := 1) d_Ch_reasonOfNew_1 rfl ?_
  refine go_V1 d_Ch_reasonOfNew_2 k_Ch_133 (by assumption) (Nat.le_of_ble_eq_true rfl) (c_Pa_drop (c := 1) s0 ha.1 h6 ?_)
  refine go_aload_n 1 d_Ch_reasonOfNew_5 rfl rfl ?_
  refine go_getR d_Ch_reasonOfNew_6 f_Ch_141 (by assumption) (by assumption) ?_
  refine go_aload_n 1 d_Ch_reasonOfNew_9 rfl rfl ?_
  refine go_getI d_Ch_reasonOfNew_10 f_Ch_96 (by assumption) ?_
  refine go_iald (st.length) d_Ch_reasonOfNew_13 (by assumption) (e1) (by omega) (by decide) ?_
  rw [gw_up_ne (show o + 4 ≠ o by omega)]
  refine go_istore_n 2 d_Ch_reasonOfNew_14 rfl (Nat.le_of_ble_eq_true rfl) ?_
  refine go_aload_n 1 d_Ch_reasonOfNew_15 rfl rfl ?_
  refine go_getR d_Ch_reasonOfNew_16 f_Ch_144 (by assumption) (by assumption) ?_
  refine go_aload_n 1 d_Ch_reasonOfNew_19 rfl rfl ?_
  refine go_getI d_Ch_reasonOfNew_20 f_Ch_96 (by assumption) ?_
  refine go_lald (st.length) d_Ch_reasonOfNew_23 (by assumption) (e1) (by omega) (by decide) ?_
  refine go_lstore_n 3 d_Ch_reasonOfNew_24 rfl (Nat.le_of_ble_eq_true rfl) ?_
  refine go_iload_n 2 d_Ch_reasonOfNew_25 rfl rfl ?_
  refine go_iconst (v := (-1)) d_Ch_reasonOfNew_26 rfl ?_
  refine go_icmp_eq 42 d_Ch_reasonOfNew_27 rfl (fun h27 => ?_) (fun h27 => ?_)
  · refine go_iconst (v := 5) d_Ch_reasonOfNew_42 rfl ?_; exact go_iret d_Ch_reasonOfNew_43 rfl (hf (fun ⟨q, w, h1, _⟩ => by rw [h1] at hd; cases (sd_none hd).mp h27) _ fr)
  · obtain ⟨q, rfl⟩ : ∃ q, v = some q := by cases v with | none => exact absurd hd h27 | some q => exact ⟨q, rfl⟩
    obtain ⟨d1, d2, d3⟩ := hd
    rw [d1, d3]
    refine go_aload_n 1 d_Ch_reasonOfNew_30 rfl rfl ?_
    refine go_getR d_Ch_reasonOfNew_31 f_Ch_59 (by assumption) (by assumption) ?_
    refine go_iload_n 2 d_Ch_reasonOfNew_34 rfl rfl ?_
    refine go_lload_n 3 d_Ch_reasonOfNew_35 rfl rfl ?_
    refine go_V2 d_Ch_reasonOfNew_36 k_Ch_148 (by assumption) (Nat.le_of_ble_eq_true rfl) (c_Kn_showsNotNegative s6 e6 d2 hC (hv q rfl) (fun b hb => ?_))
    refine go_if_ne 44 d_Ch_reasonOfNew_39 rfl (fun h39 => ?_) (fun h39 => ?_)
    · obtain ⟨w, w1, w2⟩ := hb.mp (bI_n0.mp h39)
      refine go_aload_n 1 d_Ch_reasonOfNew_44 rfl rfl ?_
      refine go_getR d_Ch_reasonOfNew_45 f_Ch_152 (by assumption) (by assumption) ?_
      refine go_iconst (v := 1) d_Ch_reasonOfNew_48 rfl ?_
      refine go_aald (t := 5) (1) d_Ch_reasonOfNew_49 (by assumption) (by decide) (rfl) (by decide) (by decide) (by assumption) ?_
      refine go_iload_n 2 d_Ch_reasonOfNew_50 rfl rfl ?_
      refine go_lload_n 3 d_Ch_reasonOfNew_51 rfl rfl ?_
      refine go_V2 d_Ch_reasonOfNew_52 k_Ch_156 (by assumption) (Nat.le_of_ble_eq_true rfl) (c_Ba_payWords s11 e8 d2 (fun L1 c1 c2 => ?_))
      refine go_iconst (v := 0) d_Ch_reasonOfNew_55 rfl ?_
      exact go_iret d_Ch_reasonOfNew_56 rfl (hQ q w rfl w1 w2 _ L1 ⟨e1, e2, e3, by rw [c2 _ (by omega) (by omega)]; exact e4, e5.kept rfl (c2 _ (by omega) (by omega)), e6.kept (c2 _ (by omega) (by omega)), e7.kept (c2 _ (by omega) (by omega)) (c2 _ (by omega) (by omega)), c1⟩ fr (fun q hq => c2 q (by omega) (by omega)))
    · refine go_iconst (v := 5) d_Ch_reasonOfNew_42 rfl ?_
      exact go_iret d_Ch_reasonOfNew_43 rfl (hf (fun ⟨q', w, h1, h2⟩ => by cases h1; rw [hb.mpr ⟨w, h2⟩] at h39; exact absurd h39 (by decide)) _ fr)
theorem c_Ch_reasonOfCall {x y z : ab_Sy} {k pc : Nat} {A : ab_Cu} {m : Nat} {acc : Bool} (hch : pt_Ch sh R) (hp : pt_Pa sh R o) (ho : 350 ≤ o) (hm : m < 4) (sm : sh (2 + 82 * m) = (0, 1)) (sm3 : sh (2 + 82 * m + 3) = (1 + 4, 6)) (rm4 : R (2 + 82 * m) 4 = some (2 + 82 * m + 3)) (rm40 : R (2 + 82 * m + 3) 0 = some k) (hk : k + 13 ≤ 345) (hcu : pt_Cu sh R k) (hA : cu_at I k pc A) (hacc : I (2 + 82 * m) 6 = bI acc) (ha : pa_at I L o p md (z :: y :: x :: st) lo C b0 b1) (h6 : st.length + 3 ≤ 6) (hC : kn_bd C 400000000000) (hbd : sy_bd (ca_sy x y z) 50000000000)
    (hf : ¬ (acc = true ∧ kn_sh C (ca_sy x y z) A.1 ∧ ¬ po_no (ca_sy x y z) A.2.1.2 ∧ ¬ po_no (ca_sy x y z) A.2.2.2) → ∀ I' L', (∀ q, q ≠ 348 → q < o ∨ o + 13 ≤ q → I' q = I q) → (∀ q, q ≠ 349 → q < o ∨ o + 13 ≤ q → L' q = L q) → Q (some (.int 6)) (n, sh, X, R, I', L')) (hQ : (acc = true ∧ kn_sh C (ca_sy x y z) A.1 ∧ ¬ po_no (ca_sy x y z) A.2.1.2 ∧ ¬ po_no (ca_sy x y z) A.2.2.2) → ∀ I' L', pa_at I' L' o p md (none :: st) lo C (ba_pot (ca_sy x y z) (-1 : Int32).toInt64 A.2.1 b0) (ba_pot (ca_sy x y z) (-1 : Int32).toInt64 A.2.2 b1) → (∀ q, q ≠ 348 → q < o ∨ o + 13 ≤ q → I' q = I q) → (∀ q, q ≠ 349 → q < o ∨ o + 13 ≤ q → L' q = L q) → Q (some (.int 0)) (n, sh, X, R, I', L')) : gw_Call y_Ch_reasonOfCall (d + 2) 0 0 [.ref 345, .ref o, .ref (2 + 82 * m)] (n, sh, X, R, I, L) Q := by
  have hp0 := hp
  obtain ⟨s345, s346, g0, g2, g3, g347, gp⟩ := hch
  obtain ⟨s0, s1, s4, s5, s6, s8, s9, s11, r0, r1, r2, r6, r7, r80, r81⟩ := hp
  obtain ⟨e, hx, hy, hz⟩ := ha.drop3
  obtain ⟨c0, c4, c5, q0, q1, p0, p1⟩ := hcu.pots
  have z347 := g347.1
  have z6 := s6.1
  have z9 := s9.1
  have z11 := s11.1
  have zp0 := p0.1
  have zp1 := p1.1
  refine gw_call o_Ch_reasonOfCall (Nat.le_of_ble_eq_true rfl) ?_
  have fr : ∀ q, q < o ∨ o + 13 ≤ q → va_up I o (va_up (I o) 3 (nI st.length)) q = I q := fun q hq => gw_up_ne (by omega)
  have hg : ∀ i, i < 3 → sd_at (va_up I o (va_up (I o) 3 (nI st.length)) (o + 4) (st.length + i)) (L (o + 5) (st.length + i)) (ca_g x y z i) := by
    intro i hi
    rw [gw_up_ne (by omega)]
    rcases (show i = 0 ∨ i = 1 ∨ i = 2 by omega) with rfl | rfl | rfl
    · exact hx
    · exact hy
    · exact hz
  generalize hI1 : va_up I o (va_up (I o) 3 (nI st.length)) = I1 at e fr hg
  have tail : ∀ (w : Int32) (I3 : Nat → Nat → Int32) (L3 : Nat → Nat → Int64), sy_at I3 L3 347 (ca_sy x y z) → (∀ q, q ≠ 348 → I3 q = I1 q) → (∀ q, q ≠ 349 → L3 q = L q) → gw_Go y_Ch_reasonOfCall (d + 2) 0 0 65 [some (.ref 345), some (.ref o), some (.ref (2 + 82 * m)), some (.int w), none] [] (n, sh, X, R, I3, L3) Q := by
    intro w I3 L3 hs fI fL
    have f1 : ∀ q, q ≠ 348 → q < o ∨ o + 13 ≤ q → I3 q = I q := fun q h1 h2 => by rw [fI q h1, fr q h2]
    have hA3 : cu_at I3 k pc A := hA.kept (fun q h1 h2 => f1 q (by omega) (by omega))
    have hac : I3 (2 + 82 * m) 6 = bI acc := by rw [f1 _ (by omega) (by omega)]; exact hacc
    obtain ⟨a1, a2, a3, a4, a5, a6, a7, a8⟩ := e.kept (fun q h1 h2 => fI q (by omega)) (fun q h1 h2 => fL q (by omega))
    refine go_aload_n 2 d_Ch_reasonOfCall_65 rfl rfl ?_
    refine go_getR d_Ch_reasonOfCall_66 f_Ch_42 (by assumption) (by assumption) ?_
    refine go_iconst (v := 0) d_Ch_reasonOfCall_69 rfl ?_
    refine go_aald (t := 1) (0) d_Ch_reasonOfCall_70 (by assumption) (by decide) (rfl) (by decide) (by decide) (by assumption) ?_
    refine go_astore_n 3 d_Ch_reasonOfCall_71 rfl (Nat.le_of_ble_eq_true rfl) ?_
    refine go_aload_n 2 d_Ch_reasonOfCall_72 rfl rfl ?_
    refine go_getZ d_Ch_reasonOfCall_73 f_Ch_169 (by assumption) ?_
    rw [hac]
    refine go_if_eq 94 d_Ch_reasonOfCall_76 rfl (fun h76 => ?_) (fun h76 => ?_)
    · refine go_bipush d_Ch_reasonOfCall_94 rfl ?_; exact go_iret d_Ch_reasonOfCall_96 rfl (hf (fun h => by rw [h.1] at h76; exact absurd h76 (by decide)) _ _ f1 (fun q h1 h2 => fL q h1))
    · refine go_aload_n 1 d_Ch_reasonOfCall_79 rfl rfl ?_
      refine go_getR d_Ch_reasonOfCall_80 f_Ch_59 (by assumption) (by assumption) ?_
      refine go_aload_n 3 d_Ch_reasonOfCall_83 rfl rfl ?_
      refine go_aload_n 0 d_Ch_reasonOfCall_84 rfl rfl ?_
      refine go_getR d_Ch_reasonOfCall_85 f_Ch_20 (by assumption) (by assumption) ?_
      refine go_V2 d_Ch_reasonOfCall_88 k_Ch_173 (by assumption) (Nat.le_of_ble_eq_true rfl) (c_Kn_showsClaims s6 hcu hA3 a6 hC g347 hs hbd (fun b hb => ?_))
      refine go_if_ne 97 d_Ch_reasonOfCall_91 rfl (fun h91 => ?_) (fun h91 => ?_)
      · refine go_iconst (v := 0) d_Ch_reasonOfCall_97 rfl ?_
        refine go_istore d_Ch_reasonOfCall_98 (Nat.le_of_ble_eq_true rfl) ?_
        have k1 : acc = true := bI_n0.mp h76
        have k2 := hb.mp (bI_n0.mp h91)
        refine go_iload d_Ch_reasonOfCall_100 rfl ?_
        refine go_iconst (v := 2) d_Ch_reasonOfCall_102 rfl ?_
        refine go_icmp_ge 154 d_Ch_reasonOfCall_103 rfl (fun hn => absurd hn (by decide)) (fun _ => ?_)
        refine go_aload_n 3 d_Ch_reasonOfCall_106 rfl rfl ?_
        refine go_getR d_Ch_reasonOfCall_107 f_Ch_63 (by assumption) (by assumption) ?_
        refine go_iload d_Ch_reasonOfCall_110 rfl ?_
        refine go_aald (t := 2) (0) d_Ch_reasonOfCall_112 (by assumption) (by decide) (rfl) (by decide) (by decide) (by assumption) ?_
        refine go_aload_n 0 d_Ch_reasonOfCall_113 rfl rfl ?_
        refine go_getR d_Ch_reasonOfCall_114 f_Ch_20 (by assumption) (by assumption) ?_
        refine go_V1 d_Ch_reasonOfCall_117 k_Ch_177 (by assumption) (Nat.le_of_ble_eq_true rfl) (c_Po_speaksOfNothing p0 hA3.2.2.2.2.1 g347 hs (fun b2 hb2 => ?_))
        refine go_if_eq 126 d_Ch_reasonOfCall_120 rfl (fun h120 => ?_) (fun h120 => ?_)
        · have hno : ¬ po_no (ca_sy x y z) A.2.1.2 := fun h => by rw [hb2.mpr h] at h120; exact absurd h120 (by decide)
          refine go_aload_n 1 d_Ch_reasonOfCall_126 rfl rfl ?_
          refine go_getR d_Ch_reasonOfCall_127 f_Ch_152 (by assumption) (by assumption) ?_
          refine go_iload d_Ch_reasonOfCall_130 rfl ?_
          refine go_aald (t := 5) (0) d_Ch_reasonOfCall_132 (by assumption) (by decide) (rfl) (by decide) (by decide) (by assumption) ?_
          refine go_iconst (v := (-1)) d_Ch_reasonOfCall_133 rfl ?_
          refine go_aload_n 3 d_Ch_reasonOfCall_134 rfl rfl ?_
          refine go_getR d_Ch_reasonOfCall_135 f_Ch_63 (by assumption) (by assumption) ?_
          refine go_iload d_Ch_reasonOfCall_138 rfl ?_
          refine go_aald (t := 2) (0) d_Ch_reasonOfCall_140 (by assumption) (by decide) (rfl) (by decide) (by decide) (by assumption) ?_
          refine go_aload_n 0 d_Ch_reasonOfCall_141 rfl rfl ?_
          refine go_getR d_Ch_reasonOfCall_142 f_Ch_20 (by assumption) (by assumption) ?_
          refine go_V3 d_Ch_reasonOfCall_145 k_Ch_183 (by assumption) (Nat.le_of_ble_eq_true rfl) (c_Ba_addPotential s9 a7 p0 hA3.2.2.2.2.1 g347 hs hno ⟨by omega, by omega⟩ (fun L4 c6 c7 => ?_))
          refine go_iinc d_Ch_reasonOfCall_148 rfl rfl (Nat.le_of_ble_eq_true rfl) ?_
          refine go_goto 100 d_Ch_reasonOfCall_151 rfl ?_
          have hs4 : sy_at I3 L4 347 (ca_sy x y z) := hs.kept rfl (c7 _ (by omega) (by omega))
          refine go_iload d_Ch_reasonOfCall_100 rfl ?_
          refine go_iconst (v := 2) d_Ch_reasonOfCall_102 rfl ?_
          refine go_icmp_ge 154 d_Ch_reasonOfCall_103 rfl (fun hn => absurd hn (by decide)) (fun _ => ?_)
          refine go_aload_n 3 d_Ch_reasonOfCall_106 rfl rfl ?_
          refine go_getR d_Ch_reasonOfCall_107 f_Ch_63 (by assumption) (by assumption) ?_
          refine go_iload d_Ch_reasonOfCall_110 rfl ?_
          refine go_aald (t := 2) (1) d_Ch_reasonOfCall_112 (by assumption) (by decide) (rfl) (by decide) (by decide) (by assumption) ?_
          refine go_aload_n 0 d_Ch_reasonOfCall_113 rfl rfl ?_
          refine go_getR d_Ch_reasonOfCall_114 f_Ch_20 (by assumption) (by assumption) ?_
          refine go_V1 d_Ch_reasonOfCall_117 k_Ch_177 (by assumption) (Nat.le_of_ble_eq_true rfl) (c_Po_speaksOfNothing p1 hA3.2.2.2.2.2 g347 hs4 (fun b4 hb4 => ?_))
          refine go_if_eq 126 d_Ch_reasonOfCall_120 rfl (fun h120b => ?_) (fun h120b => ?_)
          · have hno2 : ¬ po_no (ca_sy x y z) A.2.2.2 := fun h => by rw [hb4.mpr h] at h120b; exact absurd h120b (by decide)
            refine go_aload_n 1 d_Ch_reasonOfCall_126 rfl rfl ?_
            refine go_getR d_Ch_reasonOfCall_127 f_Ch_152 (by assumption) (by assumption) ?_
            refine go_iload d_Ch_reasonOfCall_130 rfl ?_
            refine go_aald (t := 5) (1) d_Ch_reasonOfCall_132 (by assumption) (by decide) (rfl) (by decide) (by decide) (by assumption) ?_
            refine go_iconst (v := (-1)) d_Ch_reasonOfCall_133 rfl ?_
            refine go_aload_n 3 d_Ch_reasonOfCall_134 rfl rfl ?_
            refine go_getR d_Ch_reasonOfCall_135 f_Ch_63 (by assumption) (by assumption) ?_
            refine go_iload d_Ch_reasonOfCall_138 rfl ?_
            refine go_aald (t := 2) (1) d_Ch_reasonOfCall_140 (by assumption) (by decide) (rfl) (by decide) (by decide) (by assumption) ?_
            refine go_aload_n 0 d_Ch_reasonOfCall_141 rfl rfl ?_
            refine go_getR d_Ch_reasonOfCall_142 f_Ch_20 (by assumption) (by assumption) ?_
            refine go_V3 d_Ch_reasonOfCall_145 k_Ch_183 (by assumption) (Nat.le_of_ble_eq_true rfl) (c_Ba_addPotential s11 (a8.kept (c7 _ (by omega) (by omega)) (c7 _ (by omega) (by omega))) p1 hA3.2.2.2.2.2 g347 hs4 hno2 ⟨by omega, by omega⟩ (fun L5 c8 c9 => ?_))
            refine go_iinc d_Ch_reasonOfCall_148 rfl rfl (Nat.le_of_ble_eq_true rfl) ?_
            refine go_goto 100 d_Ch_reasonOfCall_151 rfl ?_
            have f5 : ∀ q, q < o + 9 ∨ o + 13 ≤ q → L5 q = L3 q := fun q h => by rw [c9 q (by omega) (by omega), c7 q (by omega) (by omega)]
            refine go_iload d_Ch_reasonOfCall_100 rfl ?_
            refine go_iconst (v := 2) d_Ch_reasonOfCall_102 rfl ?_
            refine go_icmp_ge 154 d_Ch_reasonOfCall_103 rfl (fun _ => ?_) (fun hn => absurd (by decide) hn)
            refine go_aload_n 1 d_Ch_reasonOfCall_154 rfl rfl ?_
            refine go_iconst (v := (-1)) d_Ch_reasonOfCall_155 rfl ?_
            refine go_lconst (v := 0) d_Ch_reasonOfCall_156 rfl ?_
            refine go_V2 d_Ch_reasonOfCall_157 k_Ch_187 (by assumption) (Nat.le_of_ble_eq_true rfl) (c_Pa_push (z := none) (st := st) (p := p) (md := md) (lo := lo) (C := C) hp0 ⟨a1, a2, a3, by rw [f5 _ (by omega)]; exact a4, a5.kept rfl (f5 _ (by omega)), a6.kept (f5 _ (by omega)), c6.kept (c9 _ (by omega) (by omega)) (c9 _ (by omega) (by omega)), c8⟩ (by omega) rfl (fun I6 L6 c10 c11 c12 => ?_))
            refine go_iconst (v := 0) d_Ch_reasonOfCall_160 rfl ?_
            exact go_iret d_Ch_reasonOfCall_161 rfl (hQ ⟨k1, k2, hno, hno2⟩ I6 L6 c10 (fun q h1 h2 => by rw [c11 q (by omega) (by omega)]; exact f1 q h1 h2) (fun q h1 h2 => by rw [c12 q (by omega), f5 q (by omega)]; exact fL q h1))
          · refine go_bipush (v := 6) d_Ch_reasonOfCall_123 rfl ?_
            exact go_iret d_Ch_reasonOfCall_125 rfl (hf (fun h => h.2.2.2 (hb4.mp (bI_n0.mp h120b))) _ _ f1 (fun q h1 h2 => by rw [c7 q (by omega) (by omega)]; exact fL q h1))
        · refine go_bipush (v := 6) d_Ch_reasonOfCall_123 rfl ?_
          exact go_iret d_Ch_reasonOfCall_125 rfl (hf (fun h => h.2.2.1 (hb2.mp (bI_n0.mp h120))) _ _ f1 (fun q h1 h2 => fL q h1))
      · refine go_bipush (v := 6) d_Ch_reasonOfCall_94 rfl ?_
        exact go_iret d_Ch_reasonOfCall_96 rfl (hf (fun h => by rw [hb.mpr h.2.1] at h91; exact absurd h91 (by decide)) _ _ f1 (fun q h1 h2 => fL q h1))
  have loop : ∀ (r i : Nat) (w : Int32) (I3 : Nat → Nat → Int32) (L3 : Nat → Nat → Int64), w = nI i → i + r = 3 → sy_at I3 L3 347 (ca_f (ca_g x y z) i) → (∀ q, q ≠ 348 → I3 q = I1 q) → (∀ q, q ≠ 349 → L3 q = L q) → gw_Go y_Ch_reasonOfCall (d + 2) 0 0 24 [some (.ref 345), some (.ref o), some (.ref (2 + 82 * m)), some (.int w), none] [] (n, sh, X, R, I3, L3) Q := by
    intro r
    induction r with
    | zero =>
      intro i w I3 L3 hw hr hs fI fL
      have hi : i = 3 := by omega
      subst hi
      refine go_iload_n 3 d_Ch_reasonOfCall_24 rfl rfl ?_
      refine go_iconst (v := 3) d_Ch_reasonOfCall_25 rfl ?_
      refine go_icmp_ge 65 d_Ch_reasonOfCall_26 rfl (fun _ => ?_) (fun hn => absurd (by rw [hw]; decide) hn)
      exact tail w I3 L3 hs fI fL
    | succ r ih =>
      intro i w I3 L3 hw hr hs fI fL
      subst hw
      have hgi := hg i (by omega)
      have e1 : I3 o 3 = nI st.length := by rw [fI o (by omega)]; exact e.1
      rw [← fI (o + 4) (by omega), ← fL (o + 5) (by omega)] at hgi
      refine go_iload_n 3 d_Ch_reasonOfCall_24 rfl rfl ?_
      refine go_iconst (v := 3) d_Ch_reasonOfCall_25 rfl ?_
      refine go_icmp_ge 65 d_Ch_reasonOfCall_26 rfl (fun hn => absurd hn (nI_ge (b := 3) (by omega) (by decide))) (fun _ => ?_)
      refine go_aload_n 0 d_Ch_reasonOfCall_29 rfl rfl ?_
      refine go_getR d_Ch_reasonOfCall_30 f_Ch_20 (by assumption) (by assumption) ?_
      refine go_iload_n 3 d_Ch_reasonOfCall_33 rfl rfl ?_
      refine go_aload_n 1 d_Ch_reasonOfCall_34 rfl rfl ?_
      refine go_getR d_Ch_reasonOfCall_35 f_Ch_141 (by assumption) (by assumption) ?_
      refine go_aload_n 1 d_Ch_reasonOfCall_38 rfl rfl ?_
      refine go_getI d_Ch_reasonOfCall_39 f_Ch_96 (by assumption) ?_
      refine go_iload_n 3 d_Ch_reasonOfCall_42 rfl rfl ?_
      refine go_iadd d_Ch_reasonOfCall_43 ?_
      refine go_iald (st.length + i) d_Ch_reasonOfCall_44 (by assumption) (by rw [e1, nI_add]) (by omega) (by decide) ?_
      refine go_aload_n 1 d_Ch_reasonOfCall_45 rfl rfl ?_
      refine go_getR d_Ch_reasonOfCall_46 f_Ch_144 (by assumption) (by assumption) ?_
      refine go_aload_n 1 d_Ch_reasonOfCall_49 rfl rfl ?_
      refine go_getI d_Ch_reasonOfCall_50 f_Ch_96 (by assumption) ?_
      refine go_iload_n 3 d_Ch_reasonOfCall_53 rfl rfl ?_
      refine go_iadd d_Ch_reasonOfCall_54 ?_
      refine go_lald (st.length + i) d_Ch_reasonOfCall_55 (by assumption) (by rw [e1, nI_add]) (by omega) (by decide) ?_
      refine go_V3 d_Ch_reasonOfCall_56 k_Ch_165 (by assumption) (Nat.le_of_ble_eq_true rfl) (c_Sy_put g347 (by omega) hs hgi (fun I4 L4 c6 c7 c8 => ?_))
      refine go_iinc d_Ch_reasonOfCall_59 rfl rfl (Nat.le_of_ble_eq_true rfl) ?_
      refine go_goto 24 d_Ch_reasonOfCall_62 rfl ?_
      exact ih (i + 1) _ I4 L4 (gw_inc rfl) (by omega) (by rw [← ca_f_s _ (by omega)]; exact c6) (fun q hq => by rw [c7 q hq]; exact fI q hq) (fun q hq => by rw [c8 q hq]; exact fL q hq)
  refine go_aload_n 1 d_Ch_reasonOfCall_0 rfl rfl ?_
  refine go_iconst (v := 3) d_Ch_reasonOfCall_1 rfl ?_
  refine go_V1 d_Ch_reasonOfCall_2 k_Ch_133 (by assumption) (Nat.le_of_ble_eq_true rfl) (c_Pa_drop (c := 3) s0 ha.1 h6 ?_)
  rw [hI1]
  refine go_aload_n 0 d_Ch_reasonOfCall_5 rfl rfl ?_
  refine go_getR d_Ch_reasonOfCall_6 f_Ch_20 (by assumption) (by assumption) ?_
  refine go_V0 d_Ch_reasonOfCall_9 k_Ch_162 (by assumption) (Nat.le_of_ble_eq_true rfl) (c_Sy_stand g347 (fun I2 L2 c6 c7 c8 => ?_))
  refine go_aload_n 0 d_Ch_reasonOfCall_12 rfl rfl ?_
  refine go_getR d_Ch_reasonOfCall_13 f_Ch_20 (by assumption) (by assumption) ?_
  refine go_iconst (v := 3) d_Ch_reasonOfCall_16 rfl ?_
  refine go_iconst (v := 4) d_Ch_reasonOfCall_17 rfl ?_
  refine go_lconst (v := 0) d_Ch_reasonOfCall_18 rfl ?_
  refine go_V3 d_Ch_reasonOfCall_19 k_Ch_165 (by assumption) (Nat.le_of_ble_eq_true rfl) (c_Sy_put (j := 3) (y := some (4, 0)) g347 (by omega) c6 ⟨rfl, by show 4 < 5; decide, rfl⟩ (fun I3 L3 c9 c10 c11 => ?_))
  refine go_iconst (v := 0) d_Ch_reasonOfCall_22 rfl ?_
  refine go_istore_n 3 d_Ch_reasonOfCall_23 rfl (Nat.le_of_ble_eq_true rfl) ?_
  exact loop 3 0 _ I3 L3 rfl (by omega) (by rw [← ca_f_0]; exact c9) (fun q hq => by rw [c10 q hq]; exact c7 q hq) (fun q hq => by rw [c11 q hq]; exact c8 q hq)
end CH
