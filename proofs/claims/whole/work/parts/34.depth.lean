/-! depth -/
/-- the deepest of the methods that a code calls, lower ones having depths D -/
noncomputable def dp_b (D : Nat → Nat) (m : Nat) : List (Nat × Int32) → Nat → Nat
  | [], b => b
  | t :: ts, b => dp_b D m ts (cIf (t.1 = 11 ∧ ∃ j, j < m ∧ t.2 = nI j) (max b (D t.2.toNatClampNeg)) b)
noncomputable def dp_1 (D : Nat → Nat) (m : Nat) (l : List (Nat × Int32)) : Nat := if l.length = 0 then 0 else dp_b D m l 0 + 1
/-- the depths of the methods below k -/
noncomputable def dp_to (code : Nat → List (Nat × Int32)) : Nat → Nat → Nat
  | 0 => fun _ => 0
  | k + 1 => va_up (dp_to code k) k (dp_1 (dp_to code k) k (code k))
theorem dp_b_le {D : Nat → Nat} {m N : Nat} (hD : ∀ j, D j ≤ N) : ∀ (l : List (Nat × Int32)) (b : Nat), b ≤ N → dp_b D m l b ≤ N
  | [], b, h => h
  | t :: ts, b, h => by
    unfold dp_b
    refine dp_b_le hD ts _ ?_
    unfold cIf
    split
    · exact Nat.max_le.mpr ⟨h, hD _⟩
    · exact h
theorem dp_to_le (code : Nat → List (Nat × Int32)) : ∀ (k j : Nat), dp_to code k j ≤ k
  | 0, j => Nat.le_refl _
  | k + 1, j => by
    unfold dp_to
    by_cases h : j = k
    · subst h
      rw [gw_up_eq]
      unfold dp_1
      split
      · omega
      · have := dp_b_le (dp_to_le code j) (code j) 0 (m := j) (by omega)
        omega
    · rw [gw_up_ne h]
      have := dp_to_le code k j
      omega
theorem dp_to_succ (code : Nat → List (Nat × Int32)) (k : Nat) : dp_to code (k + 1) = va_up (dp_to code k) k (dp_1 (dp_to code k) k (code k)) := rfl
section DP
variable {d n : Nat} {sh : Nat → Nat × Nat} {X : Nat × (Nat → Int32)} {R : Nat → Nat → Option Nat} {I : Nat → Nat → Int32} {L : Nat → Nat → Int64} {Q : Option Value → gw_Mem → Prop} {S : Nat → ab_Me}
theorem c_CC_measureDepth {m : Nat} {D : Nat → Nat} (hp : pt_CC sh R) (hc : cc_at R I S) (hm : m < 4) (hD : ∀ j, j < m → I (2 + 82 * j) 7 = nI (D j)) (hD4 : ∀ j, D j ≤ 4) (hQ : Q none (n, sh, X, R, va_up I (2 + 82 * m) (va_up (I (2 + 82 * m)) 7 (nI (dp_1 D m (S m).1))), L)) : gw_Call y_CC_measureDepth (d + 1) 0 0 [.ref 0, .ref (2 + 82 * m)] (n, sh, X, R, I, L) Q := by
  obtain ⟨s0, s1, r0, hmm⟩ := hp
  obtain ⟨hr, hme⟩ := hmm m hm
  obtain ⟨sm, sm1, sm2, sm3, rm1, rm2, rm4, hcu⟩ := hme
  obtain ⟨w, g1, ⟨g2, g2', g2''⟩, g3, g4⟩ := hc m hm
  refine gw_call o_CC_measureDepth (Nat.le_of_ble_eq_true rfl) ?_
  have loop : ∀ (ts : List (Nat × Int32)) (i b : Nat) (x z : Int32) (o4 : Option Value), x = nI i → z = nI b → b ≤ 4 → i ≤ (S m).1.length → (S m).1.drop i = ts → dp_b D m (S m).1 0 = dp_b D m ts b → gw_Go y_CC_measureDepth (d + 1) 0 0 4 [some (.ref 0), some (.ref (2 + 82 * m)), some (.int z), some (.int x), o4] [] (n, sh, X, R, I, L) Q := by
    intro ts
    induction ts with
    | nil =>
      intro i b x z o4 hx hz hb h0 hd hs
      have hi := gw_dropE hd
      have hs' : dp_b D m (S m).1 0 = b := hs
      unfold dp_1 at hQ
      refine go_iload_n 3 d_CC_measureDepth_4 rfl rfl ?_
      refine go_aload_n 1 d_CC_measureDepth_5 rfl rfl ?_
      refine go_getI d_CC_measureDepth_6 f_CC_54 (by assumption) ?_
      refine go_icmp_ge 66 d_CC_measureDepth_9 rfl (fun _ => ?_) (fun hn => absurd (by rw [g2, hx]; exact nI_le hi (by omega)) hn)
      refine go_aload_n 1 d_CC_measureDepth_66 rfl rfl ?_
      refine go_aload_n 1 d_CC_measureDepth_67 rfl rfl ?_
      refine go_getI d_CC_measureDepth_68 f_CC_54 (by assumption) ?_
      rw [g2]
      refine go_if_ne 78 d_CC_measureDepth_71 rfl (fun h71 => ?_) (fun h71 => ?_)
      · refine go_iload_n 2 d_CC_measureDepth_78 rfl rfl ?_
        refine go_iconst (v := 1) d_CC_measureDepth_79 rfl ?_
        refine go_iadd d_CC_measureDepth_80 ?_
        refine go_putI d_CC_measureDepth_81 f_CC_121 (by assumption) ?_
        first
          | (have hl : (S m).1.length = 0 := Decidable.byContradiction (fun e => absurd h71 (nI_ne0 (Nat.pos_of_ne_zero e) (by omega)))
             rw [if_pos hl] at hQ
             exact go_vret d_CC_measureDepth_84 rfl hQ)
          | (have hl : ¬ (S m).1.length = 0 := fun e => h71 (by rw [e]; rfl)
             rw [if_neg hl, hs', nI_succ, ← hz] at hQ
             exact go_vret d_CC_measureDepth_84 rfl hQ)
      · refine go_iconst (v := 0) d_CC_measureDepth_74 rfl ?_
        refine go_goto 81 d_CC_measureDepth_75 rfl ?_
        refine go_putI d_CC_measureDepth_81 f_CC_121 (by assumption) ?_
        first
          | (have hl : (S m).1.length = 0 := Decidable.byContradiction (fun e => absurd h71 (nI_ne0 (Nat.pos_of_ne_zero e) (by omega)))
             rw [if_pos hl] at hQ
             exact go_vret d_CC_measureDepth_84 rfl hQ)
          | (have hl : ¬ (S m).1.length = 0 := fun e => h71 (by rw [e]; rfl)
             rw [if_neg hl, hs', nI_succ, ← hz] at hQ
             exact go_vret d_CC_measureDepth_84 rfl hQ)
    | cons t ts ih =>
      intro i b x z o4 hx hz hb h0 hd hs
      obtain ⟨hi, ht, hn⟩ := gw_drop hd
      obtain ⟨b1, b2, b3⟩ := g2'' i t ht
      have hs' : dp_b D m (S m).1 0 = dp_b D m ts (cIf (t.1 = 11 ∧ ∃ j, j < m ∧ t.2 = nI j) (max b (D t.2.toNatClampNeg)) b) := hs
      have nxt : ∀ (b' : Nat) (z' : Int32) (o4' : Option Value), z' = nI b' → b' ≤ 4 → cIf (t.1 = 11 ∧ ∃ j, j < m ∧ t.2 = nI j) (max b (D t.2.toNatClampNeg)) b = b' → gw_Go y_CC_measureDepth (d + 1) 0 0 60 [some (.ref 0), some (.ref (2 + 82 * m)), some (.int z'), some (.int x), o4'] [] (n, sh, X, R, I, L) Q := by
        intro b' z' o4' hz' hb' he
        rw [he] at hs'
        refine go_iinc d_CC_measureDepth_60 rfl rfl (Nat.le_of_ble_eq_true rfl) ?_
        refine go_goto 4 d_CC_measureDepth_63 rfl ?_
        exact ih (i + 1) b' _ _ _ (gw_inc hx) hz' hb' (by omega) hn hs'
      refine go_iload_n 3 d_CC_measureDepth_4 rfl rfl ?_
      refine go_aload_n 1 d_CC_measureDepth_5 rfl rfl ?_
      refine go_getI d_CC_measureDepth_6 f_CC_54 (by assumption) ?_
      refine go_icmp_ge 66 d_CC_measureDepth_9 rfl (fun hn => absurd hn (by rw [g2, hx]; exact nI_ge hi (by omega))) (fun _ => ?_)
      refine go_aload_n 1 d_CC_measureDepth_12 rfl rfl ?_
      refine go_getR d_CC_measureDepth_13 f_CC_150 (by assumption) (by assumption) ?_
      refine go_iload_n 3 d_CC_measureDepth_16 rfl rfl ?_
      refine go_iald (i) d_CC_measureDepth_17 (by assumption) (hx) (by omega) (by decide) ?_
      rw [b2]
      refine go_istore d_CC_measureDepth_18 (Nat.le_of_ble_eq_true rfl) ?_
      refine go_aload_n 1 d_CC_measureDepth_20 rfl rfl ?_
      refine go_getR d_CC_measureDepth_21 f_CC_153 (by assumption) (by assumption) ?_
      refine go_iload_n 3 d_CC_measureDepth_24 rfl rfl ?_
      refine go_iald (i) d_CC_measureDepth_25 (by assumption) (hx) (by omega) (by decide) ?_
      refine go_bipush (v := 11) d_CC_measureDepth_26 rfl ?_
      rw [b1]
      refine go_icmp_ne 60 d_CC_measureDepth_28 rfl (fun h28 => ?_) (fun h28 => ?_)
      · exact nxt b z _ hz hb (cIf_neg (fun h => h28 (by rw [h.1]; rfl)))
      · refine go_iload d_CC_measureDepth_31 rfl ?_
        refine go_if_lt 60 d_CC_measureDepth_33 rfl (fun h33 => ?_) (fun h33 => ?_)
        · exact nxt b z _ hz hb (cIf_neg (fun ⟨_, j, hj, e⟩ => absurd h33 (by rw [e]; exact nI_pos (by omega))))
        · refine go_iload d_CC_measureDepth_36 rfl ?_
          refine go_aload_n 1 d_CC_measureDepth_38 rfl rfl ?_
          refine go_getI d_CC_measureDepth_39 f_CC_156 (by assumption) ?_
          rw [g1]
          refine go_icmp_ge 60 d_CC_measureDepth_42 rfl (fun h42 => ?_) (fun h42 => ?_)
          · exact nxt b z _ hz hb (cIf_neg (fun ⟨_, j, hj, e⟩ => absurd h42 (by rw [e]; exact nI_ge hj (by omega))))
          · obtain ⟨j, hj31, hje⟩ := nI_of h33
            have hjm : j < m := by rw [hje] at h42; exact Nat.not_le.mp (fun hh => h42 (nI_le hh hj31))
            have hrj := (hmm j (by omega)).1
            have smj := (hmm j (by omega)).2.1
            have hk11 : t.1 = 11 := (nI_eq (b := 11) (by omega) (by decide)).mp h28
            refine go_iload_n 2 d_CC_measureDepth_45 rfl rfl ?_
            refine go_aload_n 0 d_CC_measureDepth_46 rfl rfl ?_
            refine go_getR d_CC_measureDepth_47 f_CC_14 (by assumption) (by assumption) ?_
            refine go_iload d_CC_measureDepth_50 rfl ?_
            refine go_aald (t := 0) (j) d_CC_measureDepth_52 (by assumption) (by decide) (hje) (by omega) (by decide) (by assumption) ?_
            refine go_getI d_CC_measureDepth_53 f_CC_121 (by assumption) ?_
            rw [hD j hjm, hz]
            refine go_max d_CC_measureDepth_56 j_CC_159 gw_jm1 gw_jm2 gw_jm3 (Nat.le_of_ble_eq_true rfl) ?_
            refine go_istore_n 2 d_CC_measureDepth_59 rfl (Nat.le_of_ble_eq_true rfl) ?_
            exact nxt (max b (D j)) _ _ (by by_cases hlt : b < D j; (rw [if_pos (nI_lt hlt (by have := hD4 j; omega)), Nat.max_eq_right (by omega)]); (rw [if_neg (nI_nlt (by omega) (by omega)), Nat.max_eq_left (by omega)])) (Nat.max_le.mpr ⟨hb, hD4 j⟩) (by rw [cIf_pos ⟨hk11, j, hjm, hje⟩, hje, nI_clamp hj31])
  refine go_iconst (v := 0) d_CC_measureDepth_0 rfl ?_
  refine go_istore_n 2 d_CC_measureDepth_1 rfl (Nat.le_of_ble_eq_true rfl) ?_
  refine go_iconst (v := 0) d_CC_measureDepth_2 rfl ?_
  refine go_istore_n 3 d_CC_measureDepth_3 rfl (Nat.le_of_ble_eq_true rfl) ?_
  exact loop _ 0 0 _ _ none rfl rfl (by decide) (by omega) rfl rfl
theorem c_CC_depth {x : Int32} (hp : pt_CC sh R) (hc : cc_at R I S) (hf : ¬ (∃ k, k < 4 ∧ x = nI k) → Q (some (.int (-1))) (n, sh, X, R, I, L)) (hQ : ∀ k, k < 4 → x = nI k → ∀ I', cc_at R I' S → (∀ q, q < 2 ∨ 330 ≤ q → I' q = I q) → Q (some (.int (nI (dp_to (fun j => (S j).1) (k + 1) k)))) (n, sh, X, R, I', L)) : gw_Call y_CC_depth (d + 2) 0 0 [.ref 0, .int x] (n, sh, X, R, I, L) Q := by
  have hp0 := hp
  obtain ⟨s0, s1, r0, hmm⟩ := hp
  refine gw_call o_CC_depth (Nat.le_of_ble_eq_true rfl) ?_
  refine go_aload_n 0 d_CC_depth_0 rfl rfl ?_
  refine go_iload_n 1 d_CC_depth_1 rfl rfl ?_
  refine go_V1 d_CC_depth_2 k_CC_38 (by assumption) (Nat.le_of_ble_eq_true rfl) (c_CC_methodAt hp0 (fun hN => ?_) (fun k hk e => ?_))
  · skip
    refine go_ifnonnullN d_CC_depth_5 ?_
    refine go_iconst (v := (-1)) d_CC_depth_8 rfl ?_
    exact go_iret d_CC_depth_9 rfl (hf hN)
  · subst e
    have loop : ∀ (r i : Nat) (z : Int32) (I1 : Nat → Nat → Int32), z = nI i → i + r = k + 1 → (∀ q j, j ≠ 7 → I1 q j = I q j) → (∀ q, q < 2 ∨ 330 ≤ q → I1 q = I q) → (∀ j, 0 < j → j < 82 → ∀ m, m < 4 → I1 (2 + 82 * m + j) = I (2 + 82 * m + j)) → (∀ j, j < i → I1 (2 + 82 * j) 7 = nI (dp_to (fun j => (S j).1) i j)) → gw_Go y_CC_depth (d + 2) 0 0 12 [some (.ref 0), some (.int (nI k)), some (.int z)] [] (n, sh, X, R, I1, L) Q := by
      intro r
      induction r with
      | zero =>
        intro i z I1 hz hi h7 h2 h3 hd
        have hik : i = k + 1 := by omega
        subst hik
        have hrk := (hmm k hk).1
        have smk := (hmm k hk).2.1
        have hcc : cc_at R I1 S := fun m hm => by
          obtain ⟨w, g1, g2, g3, g4⟩ := hc m hm
          exact ⟨w, by rw [h7 _ _ (by decide)]; exact g1, g2.kept (h7 _ _ (by decide)) (h3 1 (by decide) (by decide) m hm) (h3 2 (by decide) (by decide) m hm), g3.kept (h7 _ _ (by decide)) rfl (fun q a b => by have := h3 (q - (2 + 82 * m)) (by omega) (by omega) m hm; rwa [show 2 + 82 * m + (q - (2 + 82 * m)) = q by omega] at this), by rw [h7 _ _ (by decide)]; exact g4⟩
        refine go_iload_n 2 d_CC_depth_12 rfl rfl ?_
        refine go_iload_n 1 d_CC_depth_13 rfl rfl ?_
        refine go_icmp_gt 33 d_CC_depth_14 rfl (fun _ => ?_) (fun hn => absurd (by rw [hz]; exact nI_lt (by omega) (by omega)) hn)
        refine go_aload_n 0 d_CC_depth_33 rfl rfl ?_
        refine go_getR d_CC_depth_34 f_CC_14 (by assumption) (by assumption) ?_
        refine go_iload_n 1 d_CC_depth_37 rfl rfl ?_
        refine go_aald (t := 0) (k) d_CC_depth_38 (by assumption) (by decide) (rfl) (hk) (by decide) (by assumption) ?_
        refine go_getI d_CC_depth_39 f_CC_121 (by assumption) ?_
        rw [hd k (by omega)]
        exact go_iret d_CC_depth_42 rfl (hQ k hk rfl I1 hcc h2)
      | succ r ih =>
        intro i z I1 hz hi h7 h2 h3 hd
        have hri := (hmm i (by omega)).1
        have hcc : cc_at R I1 S := fun m hm => by
          obtain ⟨w, g1, g2, g3, g4⟩ := hc m hm
          exact ⟨w, by rw [h7 _ _ (by decide)]; exact g1, g2.kept (h7 _ _ (by decide)) (h3 1 (by decide) (by decide) m hm) (h3 2 (by decide) (by decide) m hm), g3.kept (h7 _ _ (by decide)) rfl (fun q a b => by have := h3 (q - (2 + 82 * m)) (by omega) (by omega) m hm; rwa [show 2 + 82 * m + (q - (2 + 82 * m)) = q by omega] at this), by rw [h7 _ _ (by decide)]; exact g4⟩
        refine go_iload_n 2 d_CC_depth_12 rfl rfl ?_
        refine go_iload_n 1 d_CC_depth_13 rfl rfl ?_
        refine go_icmp_gt 33 d_CC_depth_14 rfl (fun hn => absurd hn (by rw [hz]; exact nI_nlt (by omega) (by omega))) (fun _ => ?_)
        refine go_aload_n 0 d_CC_depth_17 rfl rfl ?_
        refine go_aload_n 0 d_CC_depth_18 rfl rfl ?_
        refine go_getR d_CC_depth_19 f_CC_14 (by assumption) (by assumption) ?_
        refine go_iload_n 2 d_CC_depth_22 rfl rfl ?_
        refine go_aald (t := 0) (i) d_CC_depth_23 (by assumption) (by decide) (hz) (by omega) (by decide) (by assumption) ?_
        refine go_V1 d_CC_depth_24 k_CC_117 (by assumption) (Nat.le_of_ble_eq_true rfl) (c_CC_measureDepth (D := dp_to (fun j => (S j).1) i) hp0 hcc (by omega) (fun j hj => hd j hj) (fun j => by have := dp_to_le (fun j => (S j).1) i j; omega) ?_)
        refine go_iinc d_CC_depth_27 rfl rfl (Nat.le_of_ble_eq_true rfl) ?_
        refine go_goto 12 d_CC_depth_30 rfl ?_
        exact ih (i + 1) _ _ (gw_inc hz) (by omega) (fun q j hj => by by_cases hq : q = 2 + 82 * i; (subst hq; rw [gw_up_eq, gw_up_ne hj]; exact h7 _ _ hj); (rw [gw_up_ne hq]; exact h7 q j hj)) (fun q hq => by rw [gw_up_ne (by omega)]; exact h2 q hq) (fun j j1 j2 m hm => by rw [gw_up_ne (by omega)]; exact h3 j j1 j2 m hm) (fun j hj => by rw [dp_to_succ]; by_cases he : j = i; (subst he; rw [gw_up_eq, gw_up_eq, gw_up_eq]); (rw [gw_up_ne (by omega), gw_up_ne he]; exact hd j (by omega)))
    refine go_ifnonnull 10 d_CC_depth_5 rfl ?_
    refine go_iconst (v := 0) d_CC_depth_10 rfl ?_
    refine go_istore_n 2 d_CC_depth_11 rfl (Nat.le_of_ble_eq_true rfl) ?_
    exact loop (k + 1) 0 _ I rfl (by omega) (fun _ _ _ => rfl) (fun _ _ => rfl) (fun _ _ _ _ _ => rfl) (fun j hj => by omega)
end DP
