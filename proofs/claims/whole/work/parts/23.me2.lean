/-! Method.reset, Method.addCut -/
abbrev cu_0 : ab_Cu := ([], (0, []), (0, []))
section ME2
variable {d n : Nat} {sh : Nat → Nat × Nat} {X : Nat × (Nat → Int32)} {R : Nat → Nat → Option Nat} {I : Nat → Nat → Int32} {L : Nat → Nat → Int64} {Q : Option Value → gw_Mem → Prop}
theorem c_Me_reset {o : Nat} {w : Nat → Nat} {l : List (Nat × ab_Cu)} (hp : pt_Me sh R o) (ha : cs_at R I o w l) (hQ : ∀ I', co_at I' o [] → cs_at R I' o w [(0, cu_0)] → (∀ q, q < o ∨ o + 82 ≤ q → I' q = I q) → (∀ j, j ≠ 3 → j ≠ 5 → I' o j = I o j) → Q none (n, sh, X, R, I', L)) : gw_Call y_Me_reset (d + 2) 0 0 [.ref o] (n, sh, X, R, I, L) Q := by
  obtain ⟨s0, s1, s2, s3, r1, r2, r4, hc⟩ := hp
  obtain ⟨a1, a2, a3, a4, a5, a6⟩ := ha
  refine gw_call o_Me_reset (Nat.le_of_ble_eq_true rfl) ?_
  have hw0 := a3 0 (by decide)
  have hcu := hc (w 0) hw0
  have sc := hcu.1
  have hre := a5 0 (by decide)
  refine go_aload_n 0 d_Me_reset_0 rfl rfl ?_
  refine go_iconst (v := 0) d_Me_reset_1 rfl ?_
  refine go_putI d_Me_reset_2 f_Me_32 (by assumption) ?_
  refine go_aload_n 0 d_Me_reset_5 rfl rfl ?_
  refine go_iconst (v := 1) d_Me_reset_6 rfl ?_
  refine go_putI d_Me_reset_7 f_Me_29 (by assumption) ?_
  refine go_aload_n 0 d_Me_reset_10 rfl rfl ?_
  refine go_getR d_Me_reset_11 f_Me_20 (by assumption) (by assumption) ?_
  refine go_iconst (v := 0) d_Me_reset_14 rfl ?_
  refine go_aald (t := 1) (0) d_Me_reset_15 (by assumption) (by decide) (rfl) (by decide) (by decide) (by assumption) ?_
  refine go_iconst (v := 0) d_Me_reset_16 rfl ?_
  refine go_V1 d_Me_reset_17 k_Me_35 (by assumption) (Nat.le_of_ble_eq_true rfl) (c_Cu_reset (p := 0) hcu (fun I1 hI1 hk1 => ?_))
  have eo : I1 o = va_up (va_up (I o) 3 0) 5 1 := by rw [hk1 o (by omega)]; simp [va_up]
  exact go_vret d_Me_reset_20 rfl (hQ I1 ⟨by rw [eo]; simp [va_up, nI_0], by simp, fun j t h => by simp at h⟩ ⟨by rw [eo]; simp [va_up]; rfl, by simp, a3, a4, a5, fun i c h => by have h1 : i = 0 := (by have := (List.getElem?_eq_some_iff.mp h).1; simp at this; exact this); subst h1; rw [List.getElem?_cons_zero] at h; cases h; exact hI1⟩ (fun q h => by rw [hk1 q (by omega)]; simp [va_up, show q ≠ o by omega]) (fun j h3 h5 => by rw [eo]; simp [va_up, h3, h5]))
/-- the cuts with a new one at place a of the list -/
def cs_ins (a p : Nat) (l : List (Nat × ab_Cu)) : List (Nat × ab_Cu) := l.take a ++ (p, cu_0) :: l.drop a
theorem cs_ins_at {a p i : Nat} {l : List (Nat × ab_Cu)} {c : Nat × ab_Cu} (ha : a ≤ l.length) (h : (cs_ins a p l)[i]? = some c) : (i < a ∧ l[i]? = some c) ∨ (i = a ∧ c = (p, cu_0)) ∨ (a < i ∧ l[i - 1]? = some c) := by
  have hl : (l.take a).length = a := by rw [List.length_take]; omega
  unfold cs_ins at h
  by_cases h1 : i < a
  · rw [List.getElem?_append_left (by omega), List.getElem?_take_of_lt h1] at h
    exact Or.inl ⟨h1, h⟩
  · rw [List.getElem?_append_right (by omega), hl] at h
    by_cases h2 : i = a
    · subst h2
      rw [Nat.sub_self, List.getElem?_cons_zero] at h
      exact Or.inr (Or.inl ⟨rfl, (Option.some.inj h).symm⟩)
    · refine Or.inr (Or.inr ⟨by omega, ?_⟩)
      rw [show i - a = (i - a - 1) + 1 by omega, List.getElem?_cons_succ, List.getElem?_drop, show a + (i - a - 1) = i - 1 by omega] at h
      exact h
theorem cs_ins_len {a p : Nat} {l : List (Nat × ab_Cu)} (ha : a ≤ l.length) : (cs_ins a p l).length = l.length + 1 := by
  unfold cs_ins
  rw [List.length_append, List.length_cons, List.length_take, List.length_drop]
  omega
def cs_f (a len i : Nat) : Nat := if i < a then i else if i = a then len else if i ≤ len then i - 1 else i
theorem cs_f_lt {a len i : Nat} (hl : len < 6) (hi : i < 6) : cs_f a len i < 6 := by unfold cs_f; split; omega; split; omega; split <;> omega
theorem cs_f_inj {a len i j : Nat} (ha : a ≤ len) (h : cs_f a len i = cs_f a len j) : i = j := by
  unfold cs_f at h
  repeat' split at h
  all_goals omega
theorem c_Me_addCut {o : Nat} {x : Int32} {w : Nat → Nat} {l : List (Nat × ab_Cu)} (hp : pt_Me sh R o) (ha : cs_at R I o w l) (hpl : ∀ c ∈ l, c.1 < 24)
    (hf : ¬ (∃ p, p < 24 ∧ x = nI p ∧ l.length < 6 ∧ ∀ c ∈ l, c.1 ≠ p) → Q (some (.int 0)) (n, sh, X, R, I, L))
    (hQ : ∀ p, p < 24 → x = nI p → l.length < 6 → (∀ c ∈ l, c.1 ≠ p) → ∀ (R' : Nat → Nat → Option Nat) (I' : Nat → Nat → Int32) (w' : Nat → Nat) (a : Nat), a ≤ l.length → (∀ i c, l[i]? = some c → a ≤ i → p < c.1) → (0 < a → ∃ c, l[a - 1]? = some c ∧ c.1 ≤ p) → cs_at R' I' o w' (cs_ins a p l) → (∀ q, q ≠ o + 3 → R' q = R q) → (∀ q, q < o ∨ o + 82 ≤ q → I' q = I q) → I' (o + 1) = I (o + 1) → I' (o + 2) = I (o + 2) → (∀ j, j ≠ 5 → I' o j = I o j) → Q (some (.int 1)) (n, sh, X, R', I', L)) : gw_Call y_Me_addCut (d + 2) 0 0 [.ref o, .int x] (n, sh, X, R, I, L) Q := by
  have hp0 := hp
  obtain ⟨s0, s1, s2, s3, r1, r2, r4, hc⟩ := hp
  have ha0 := ha
  obtain ⟨a1, a2, a3, a4, a5, a6⟩ := ha
  refine gw_call o_Me_addCut (Nat.le_of_ble_eq_true rfl) ?_
  refine go_iload_n 1 d_Me_addCut_0 rfl rfl ?_
  refine go_iconst (v := 0) d_Me_addCut_1 rfl ?_
  refine go_bipush (v := 23) d_Me_addCut_2 rfl ?_
  refine go_S3 d_Me_addCut_4 k_Me_42 (Nat.le_of_ble_eq_true rfl) (c_CC_isBetween (fun b hb => ?_))
  refine go_if_eq 27 d_Me_addCut_7 rfl (fun h7 => ?_) (fun h7 => ?_)
  · refine go_iconst (v := 0) d_Me_addCut_27 rfl ?_
    first | exact go_zret d_Me_addCut_28 rfl (Or.inl rfl) (hf (fun ⟨p, g1, g2, g3, g4⟩ => absurd h16 (nI_ge g3 (by decide)))) | exact go_zret d_Me_addCut_28 rfl (Or.inl rfl) (hf (fun ⟨p, g1, g2, g3, g4⟩ => by have := hb.mpr ⟨by rw [g2]; exact nI_pos' (by omega), by rw [g2]; exact nI_le (b := 23) (by omega) (by decide)⟩; rw [this] at h7; cases h7))
  · refine go_aload_n 0 d_Me_addCut_10 rfl rfl ?_
    refine go_getI d_Me_addCut_11 f_Me_29 (by assumption) ?_
    refine go_bipush (v := 6) d_Me_addCut_14 rfl ?_
    rw [a1]
    refine go_icmp_ge 27 d_Me_addCut_16 rfl (fun h16 => ?_) (fun h16 => ?_)
    · refine go_iconst (v := 0) d_Me_addCut_27 rfl ?_
      first | exact go_zret d_Me_addCut_28 rfl (Or.inl rfl) (hf (fun ⟨p, g1, g2, g3, g4⟩ => absurd h16 (nI_ge g3 (by decide)))) | exact go_zret d_Me_addCut_28 rfl (Or.inl rfl) (hf (fun ⟨p, g1, g2, g3, g4⟩ => by have := hb.mpr ⟨by rw [g2]; exact nI_pos' (by omega), by rw [g2]; exact nI_le (b := 23) (by omega) (by decide)⟩; rw [this] at h7; cases h7))
    · refine go_aload_n 0 d_Me_addCut_19 rfl rfl ?_
      refine go_iload_n 1 d_Me_addCut_20 rfl rfl ?_
      refine go_V1 d_Me_addCut_21 k_Me_46 (by assumption) (Nat.le_of_ble_eq_true rfl) (c_Me_findCut hp0 ha0 (fun hN => ?_) (fun i c hi he => ?_))
      · obtain ⟨g0, g23⟩ := hb.mp (bI_n0.mp h7)
        obtain ⟨p, hp24, rfl⟩ := nI_of2 (n := 23) (by decide) (Int32.not_lt.mpr g0) g23
        have hlt : l.length < 6 := Nat.not_le.mp (fun hh => h16 (nI_le (b := l.length) hh (by omega)))
        have hne : ∀ c ∈ l, c.1 ≠ p := fun c h e => hN c h (by rw [e])
        have hwl := a3 l.length hlt
        have hfr := hc (w l.length) hwl
        have sf := hfr.1
        have hrf := a5 l.length hlt
        have loop : ∀ (a : Nat) (z : Int32) (R1 : Nat → Nat → Option Nat) (I1 : Nat → Nat → Int32), z = nI a → a ≤ l.length → (∀ i c, l[i]? = some c → a ≤ i → p < c.1) → (∀ q, q ≠ o + 3 → R1 q = R q) → (∀ i, i < a → R1 (o + 3) i = some (o + 4 + 13 * w i)) → (∀ i, a < i → i ≤ l.length → R1 (o + 3) i = some (o + 4 + 13 * w (i - 1))) → (∀ i, l.length < i → i < 6 → R1 (o + 3) i = some (o + 4 + 13 * w i)) → cu_at I1 (o + 4 + 13 * w l.length) p cu_0 → (∀ q, q < o + 4 + 13 * w l.length ∨ o + 4 + 13 * w l.length + 13 ≤ q → I1 q = I q) → gw_Go y_Me_addCut (d + 2) 0 0 49 [some (.ref o), some (.int (nI p)), some (.ref (o + 4 + 13 * w l.length)), some (.int z)] [] (n, sh, X, R1, I1, L) Q := by
          have fin : ∀ (a : Nat) (z : Int32) (R1 : Nat → Nat → Option Nat) (I1 : Nat → Nat → Int32), z = nI a → a ≤ l.length → (∀ i c, l[i]? = some c → a ≤ i → p < c.1) → (0 < a → ∃ c, l[a - 1]? = some c ∧ c.1 ≤ p) → (∀ q, q ≠ o + 3 → R1 q = R q) → (∀ i, i < a → R1 (o + 3) i = some (o + 4 + 13 * w i)) → (∀ i, a < i → i ≤ l.length → R1 (o + 3) i = some (o + 4 + 13 * w (i - 1))) → (∀ i, l.length < i → i < 6 → R1 (o + 3) i = some (o + 4 + 13 * w i)) → cu_at I1 (o + 4 + 13 * w l.length) p cu_0 → (∀ q, q < o + 4 + 13 * w l.length ∨ o + 4 + 13 * w l.length + 13 ≤ q → I1 q = I q) → gw_Go y_Me_addCut (d + 2) 0 0 88 [some (.ref o), some (.int (nI p)), some (.ref (o + 4 + 13 * w l.length)), some (.int z)] [] (n, sh, X, R1, I1, L) Q := by
            intro a z R1 I1 hz hal hgt hle hR h1 h2 h3 hnew hk1
            have r4' : R1 o 4 = some (o + 3) := by rw [hR o (by omega)]; exact r4
            have eo : I1 o = I o := hk1 o (by omega)
            have hdis : ∀ i, i < 6 → i ≠ l.length → w i ≠ w l.length := fun i hi hne he => hne (a4 i l.length hi hlt he)
            refine go_aload_n 0 d_Me_addCut_88 rfl rfl ?_
            refine go_getR d_Me_addCut_89 f_Me_20 (by assumption) (by assumption) ?_
            refine go_iload_n 3 d_Me_addCut_92 rfl rfl ?_
            refine go_aload_n 2 d_Me_addCut_93 rfl rfl ?_
            refine go_aast (t := 1) (ci := 2) (a) d_Me_addCut_94 (by assumption) (by decide) rfl rfl (by assumption) (hz) (by omega) (by decide) ?_
            refine go_aload_n 0 d_Me_addCut_95 rfl rfl ?_
            refine go_dup d_Me_addCut_96 rfl ?_
            refine go_getI d_Me_addCut_97 f_Me_29 (by assumption) ?_
            refine go_iconst (v := 1) d_Me_addCut_100 rfl ?_
            refine go_iadd d_Me_addCut_101 ?_
            refine go_putI d_Me_addCut_102 f_Me_29 (by assumption) ?_
            refine go_iconst (v := 1) d_Me_addCut_105 rfl ?_
            have hcu : ∀ (i : Nat) (c : Nat × ab_Cu), (cs_ins a p l)[i]? = some c → cu_at (va_up I1 o (va_up (I1 o) 5 (I1 o 5 + 1))) (o + 4 + 13 * w (cs_f a l.length i)) c.1 c.2 := by
              intro i c h
              have hx : ∀ (j : Nat), l[j]? = some c → cu_at (va_up I1 o (va_up (I1 o) 5 (I1 o 5 + 1))) (o + 4 + 13 * w j) c.1 c.2 := by
                intro j hj
                have hjl := (List.getElem?_eq_some_iff.mp hj).1
                have hd := hdis j (by omega) (by omega)
                exact (a6 j c hj).kept (fun q g1 g2 => by rw [gw_up_ne (by omega)]; exact hk1 q (by omega))
              rcases cs_ins_at hal h with ⟨e1, e2⟩ | ⟨e1, e2⟩ | ⟨e1, e2⟩
              · rw [show cs_f a l.length i = i by unfold cs_f; rw [if_pos e1]]; exact hx i e2
              · subst e1; subst e2
                rw [show cs_f i l.length i = l.length by unfold cs_f; rw [if_neg (by omega), if_pos rfl]]
                exact hnew.kept (fun q g1 g2 => gw_up_ne (by omega))
              · have hil := (List.getElem?_eq_some_iff.mp e2).1
                rw [show cs_f a l.length i = i - 1 by unfold cs_f; rw [if_neg (by omega), if_neg (by omega), if_pos (by omega)]]
                exact hx (i - 1) e2
            have hrow : ∀ i, i < 6 → va_up R1 (o + 3) (va_up (R1 (o + 3)) a (some (o + 4 + 13 * w l.length))) (o + 3) i = some (o + 4 + 13 * w (cs_f a l.length i)) := by
              intro i hi
              rw [gw_up_eq]
              unfold cs_f
              by_cases c1 : i < a
              · rw [if_pos c1, gw_up_ne (by omega)]; exact h1 i c1
              · rw [if_neg c1]
                by_cases c2 : i = a
                · subst c2; rw [if_pos rfl, gw_up_eq]
                · rw [if_neg c2, gw_up_ne c2]
                  by_cases c3 : i ≤ l.length
                  · rw [if_pos c3]; exact h2 i (by omega) c3
                  · rw [if_neg c3]; exact h3 i (by omega) hi
            exact go_zret d_Me_addCut_106 rfl (by first | exact Or.inl rfl | exact Or.inr rfl | assumption) (hQ p (by omega) rfl hlt hne _ _ (fun i => w (cs_f a l.length i)) a hal hgt hle ⟨by rw [cs_ins_len hal, gw_up_eq, gw_up_eq, eo, a1, nI_succ], by rw [cs_ins_len hal]; omega, fun i hi => a3 _ (cs_f_lt hlt hi), fun i j hi hj he => cs_f_inj hal (a4 _ _ (cs_f_lt hlt hi) (cs_f_lt hlt hj) he), hrow, hcu⟩ (fun q hq => by rw [gw_up_ne hq]; exact hR q hq) (fun q hq => by rw [gw_up_ne (by omega)]; exact hk1 q (by omega)) (by rw [gw_up_ne (by omega)]; exact hk1 _ (by omega)) (by rw [gw_up_ne (by omega)]; exact hk1 _ (by omega)) (fun j hj => by rw [gw_up_eq, gw_up_ne hj, eo]))
          intro a
          induction a with
          | zero =>
            intro z R1 I1 hz hal hgt hR h1 h2 h3 hnew hk1
            refine go_iload_n 3 d_Me_addCut_49 rfl rfl ?_
            refine go_if_le 88 d_Me_addCut_50 rfl (fun _ => ?_) (fun hn => absurd (by rw [hz]; decide) hn)
            exact fin 0 z R1 I1 hz hal hgt (fun h => by omega) hR h1 h2 h3 hnew hk1
          | succ a ih =>
            intro z R1 I1 hz hal hgt hR h1 h2 h3 hnew hk1
            have r4' : R1 o 4 = some (o + 3) := by rw [hR o (by omega)]; exact r4
            have hra := h1 a (by omega)
            have hz1 : z - 1 = nI a := by rw [hz]; exact nI_pred a
            obtain ⟨c, hca⟩ : ∃ c, l[a]? = some c := ⟨_, List.getElem?_eq_getElem (by omega)⟩
            have hcua := a6 a c hca
            have sa := (hc (w a) (a3 a (by omega))).1
            have hpla : I1 (o + 4 + 13 * w a) 0 = nI c.1 := by
              have hd : w a ≠ w l.length := fun he => by have := a4 a l.length (by omega) hlt he; omega
              rw [hk1 _ (by omega)]; exact hcua.1
            have hc24 := hpl c (List.mem_of_getElem? hca)
            refine go_iload_n 3 d_Me_addCut_49 rfl rfl ?_
            refine go_if_le 88 d_Me_addCut_50 rfl (fun hn => absurd hn (by rw [hz]; exact nI_nle (by omega) (by omega))) (fun _ => ?_)
            refine go_aload_n 0 d_Me_addCut_53 rfl rfl ?_
            refine go_getR d_Me_addCut_54 f_Me_20 (by assumption) (by assumption) ?_
            refine go_iload_n 3 d_Me_addCut_57 rfl rfl ?_
            refine go_iconst (v := 1) d_Me_addCut_58 rfl ?_
            refine go_isub d_Me_addCut_59 ?_
            refine go_aald (t := 1) (a) d_Me_addCut_60 (by assumption) (by decide) (hz1) (by omega) (by decide) (by assumption) ?_
            refine go_getI d_Me_addCut_61 f_Me_39 (by assumption) ?_
            refine go_iload_n 1 d_Me_addCut_64 rfl rfl ?_
            rw [hpla]
            refine go_icmp_le 88 d_Me_addCut_65 rfl (fun h65 => ?_) (fun h65 => ?_)
            · exact fin (a + 1) z R1 I1 hz hal hgt (fun _ => ⟨c, hca, (nI_leI (by omega) (by omega)).mp h65⟩) hR h1 h2 h3 hnew hk1
            · refine go_aload_n 0 d_Me_addCut_68 rfl rfl ?_
              refine go_getR d_Me_addCut_69 f_Me_20 (by assumption) (by assumption) ?_
              refine go_iload_n 3 d_Me_addCut_72 rfl rfl ?_
              refine go_aload_n 0 d_Me_addCut_73 rfl rfl ?_
              refine go_getR d_Me_addCut_74 f_Me_20 (by assumption) (by assumption) ?_
              refine go_iload_n 3 d_Me_addCut_77 rfl rfl ?_
              refine go_iconst (v := 1) d_Me_addCut_78 rfl ?_
              refine go_isub d_Me_addCut_79 ?_
              refine go_aald (t := 1) (a) d_Me_addCut_80 (by assumption) (by decide) (hz1) (by omega) (by decide) (by assumption) ?_
              refine go_aast (t := 1) (ci := 2) (a + 1) d_Me_addCut_81 (by assumption) (by decide) rfl rfl (by assumption) (hz) (by omega) (by decide) ?_
              refine go_iinc d_Me_addCut_82 rfl rfl (Nat.le_of_ble_eq_true rfl) ?_
              refine go_goto 49 d_Me_addCut_85 rfl ?_
              exact ih _ _ I1 (gw_dec hz) (by omega) (fun i c' h hi => by by_cases he : i = a; (subst he; rw [hca] at h; cases h; exact Nat.not_le.mp (fun hh => h65 (nI_le hh (by omega)))); exact hgt i c' h (by omega)) (fun q hq => by rw [gw_up_ne hq]; exact hR q hq) (fun i hi => by rw [gw_up_eq, gw_up_ne (by omega)]; exact h1 i (by omega)) (fun i g1 g2 => by rw [gw_up_eq]; by_cases he : i = a + 1; (subst he; rw [gw_up_eq]; rfl); (rw [gw_up_ne he]; exact h2 i (by omega) g2)) (fun i g1 g2 => by rw [gw_up_eq, gw_up_ne (by omega)]; exact h3 i g1 g2) hnew hk1
        refine go_ifnullN 29 d_Me_addCut_24 rfl ?_
        refine go_aload_n 0 d_Me_addCut_29 rfl rfl ?_
        refine go_getR d_Me_addCut_30 f_Me_20 (by assumption) (by assumption) ?_
        refine go_aload_n 0 d_Me_addCut_33 rfl rfl ?_
        refine go_getI d_Me_addCut_34 f_Me_29 (by assumption) ?_
        refine go_aald (t := 1) (l.length) d_Me_addCut_37 (by assumption) (by decide) (a1) (hlt) (by decide) (by assumption) ?_
        refine go_astore_n 2 d_Me_addCut_38 rfl (Nat.le_of_ble_eq_true rfl) ?_
        refine go_aload_n 2 d_Me_addCut_39 rfl rfl ?_
        refine go_iload_n 1 d_Me_addCut_40 rfl rfl ?_
        refine go_V1 d_Me_addCut_41 k_Me_35 (by assumption) (Nat.le_of_ble_eq_true rfl) (c_Cu_reset (p := p) hfr (fun I1 hI1 hk1 => ?_))
        refine go_aload_n 0 d_Me_addCut_44 rfl rfl ?_
        refine go_getI d_Me_addCut_45 f_Me_29 (by assumption) ?_
        refine go_istore_n 3 d_Me_addCut_48 rfl (Nat.le_of_ble_eq_true rfl) ?_
        exact loop l.length _ R I1 (by rw [hk1 o (by omega)]; exact a1) (Nat.le_refl _) (fun i c h h2 => by have := (List.getElem?_eq_some_iff.mp h).1; omega) (fun q _ => rfl) (fun i h => a5 i (by omega)) (fun i h1 h2 => by omega) (fun i h1 h2 => a5 i h2) hI1 hk1
      · skip
        refine go_ifnull d_Me_addCut_24 ?_
        refine go_iconst (v := 0) d_Me_addCut_27 rfl ?_
        exact go_zret d_Me_addCut_28 rfl (by first | exact Or.inl rfl | exact Or.inr rfl | assumption) (hf (fun ⟨p, g1, g2, g3, g4⟩ => g4 c (List.mem_of_getElem? hi) (by rw [g2] at he; exact (nI_eq (by have := hpl c (List.mem_of_getElem? hi); omega) (by omega)).mp he)))
end ME2
