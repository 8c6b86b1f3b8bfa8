/-! Checker.reasonBehind -/
theorem cc_at.kept {R : Nat → Nat → Option Nat} {I I' : Nat → Nat → Int32} {S : Nat → ab_Me} (h : cc_at R I S) (hI : ∀ q, q < 330 → I' q = I q) : cc_at R I' S := fun m hm => by obtain ⟨w, hw⟩ := h m hm; exact ⟨w, hw.kept rfl (fun q h1 h2 => hI q (by omega))⟩
section CH
variable {d n : Nat} {sh : Nat → Nat × Nat} {X : Nat × (Nat → Int32)} {R : Nat → Nat → Option Nat} {I : Nat → Nat → Int32} {L : Nat → Nat → Int64} {Q : Option Value → gw_Mem → Prop} {md level e : Nat} {p : Int32} {st : List ab_Sy} {lo : Nat → ab_Sy} {b0 b1 : ab_Ba} {S : Nat → ab_Me}
theorem c_Ch_behind {w : Nat} {go : ab_Pa → Nat → Int32 × Nat} {isLess : Bool} {x y : ab_Sy} {s : sp_E × sp_E} (hch : pt_Ch sh R) (hl : level < 13) (hc : cc_at R I S) (ha : pa_at I L (350 + 13 * level) p md (y :: x :: st) lo s.2 b0 b1) (h6 : st.length + 2 ≤ 6) (hs : kn_ok s) (hbx : sb 45000000000 x) (hby : sb 45000000000 y) (h4 : I 345 4 = nI e) (he : e ≤ 50)
    (rec : ∀ (s' : sp_E × sp_E) (I L) (Q : Option Value → gw_Mem → Prop), cc_at R I S → pa_at I L (350 + 13 * (level + 1)) p md st lo s'.2 b0 b1 → kn_ok s' → I 345 4 = nI e → (∀ (I' : Nat → Nat → Int32) (L' : Nat → Nat → Int64), I' 345 4 = nI (go (p, md, st, lo, s', b0, b1) e).2 → (go (p, md, st, lo, s', b0, b1) e).2 ≤ 50 → (∀ q, q ≠ 345 → q ≠ 348 → q < 350 + 13 * (level + 1) ∨ 532 ≤ q → I' q = I q) → (∀ q, q ≠ 349 → q < 350 + 13 * (level + 1) ∨ 532 ≤ q → L' q = L q) → Q (some (.int (go (p, md, st, lo, s', b0, b1) e).1)) (n, sh, X, R, I', L')) → gw_Call y_Ch_reasonFrom (w + 3) 0 0 [.ref 345, .int (nI (level + 1))] (n, sh, X, R, I, L) Q)
    (hQ : ∀ I' L', pa_at I' L' (350 + 13 * level) p md st lo s.2 b0 b1 → sd_at (I' (350 + 13 * level + 4) st.length) (L' (350 + 13 * level + 5) st.length) x → sd_at (I' (350 + 13 * level + 4) (st.length + 1)) (L' (350 + 13 * level + 5) (st.length + 1)) y → I' 345 4 = nI (ce_pa go (pa_lrn (pa_edge isLess x y) s) p md st lo b0 b1 e).2 → (ce_pa go (pa_lrn (pa_edge isLess x y) s) p md st lo b0 b1 e).2 ≤ 50 → (∀ q, q ≠ 345 → q ≠ 348 → q < 350 + 13 * level ∨ 532 ≤ q → I' q = I q) → (∀ q, q ≠ 349 → q < 350 + 13 * level ∨ 532 ≤ q → L' q = L q) → Q (some (.int (ce_pa go (pa_lrn (pa_edge isLess x y) s) p md st lo b0 b1 e).1)) (n, sh, X, R, I', L')) : gw_Call y_Ch_reasonBehind (w + 4) 0 0 [.ref 345, .int (nI level), .int (bI isLess)] (n, sh, X, R, I, L) Q := by
  obtain ⟨s345, s346, g0, g2, g3, g347, gp⟩ := hch
  obtain ⟨rl, hpl⟩ := gp level (by omega)
  obtain ⟨rl', hpl'⟩ := gp (level + 1) (by omega)
  have zl := hpl.1
  have zl' := hpl'.1
  obtain ⟨e1, hx, hy⟩ := ha.drop2
  have fr : ∀ q, q ≠ 350 + 13 * level → va_up I (350 + 13 * level) (va_up (I (350 + 13 * level)) 3 (nI st.length)) q = I q := fun q hq => gw_up_ne hq
  rw [← fr (350 + 13 * level + 4) (by omega)] at hx hy
  refine gw_call o_Ch_reasonBehind (Nat.le_of_ble_eq_true rfl) ?_
  generalize hI1 : va_up I (350 + 13 * level) (va_up (I (350 + 13 * level)) 3 (nI st.length)) = I1 at e1 fr hx hy
  refine go_aload_n 0 d_Ch_reasonBehind_0 rfl rfl ?_
  refine go_getR d_Ch_reasonBehind_1 f_Ch_11 (by assumption) (by assumption) ?_
  refine go_iload_n 1 d_Ch_reasonBehind_4 rfl rfl ?_
  refine go_aald (t := 4) (level) d_Ch_reasonBehind_5 (by assumption) (by decide) (rfl) (by omega) (by decide) (by assumption) ?_
  refine go_iconst (v := 2) d_Ch_reasonBehind_6 rfl ?_
  refine go_V1 d_Ch_reasonBehind_7 k_Ch_133 (by assumption) (Nat.le_of_ble_eq_true rfl) (c_Pa_drop (c := 2) zl ha.1 h6 ?_)
  rw [hI1]
  refine go_iload_n 1 d_Ch_reasonBehind_10 rfl rfl ?_
  refine go_iconst (v := 1) d_Ch_reasonBehind_11 rfl ?_
  refine go_iadd d_Ch_reasonBehind_12 ?_
  refine go_bipush (v := 14) d_Ch_reasonBehind_13 rfl ?_
  refine go_icmp_lt 20 d_Ch_reasonBehind_15 rfl (fun _ => ?_) (fun hn => absurd (by rw [← nI_succ]; exact nI_lt (b := 14) (by omega) (by decide)) hn)
  refine go_aload_n 0 d_Ch_reasonBehind_20 rfl rfl ?_
  refine go_getR d_Ch_reasonBehind_21 f_Ch_11 (by assumption) (by assumption) ?_
  refine go_iload_n 1 d_Ch_reasonBehind_24 rfl rfl ?_
  refine go_iconst (v := 1) d_Ch_reasonBehind_25 rfl ?_
  refine go_iadd d_Ch_reasonBehind_26 ?_
  refine go_aald (t := 4) (level + 1) d_Ch_reasonBehind_27 (by assumption) (by decide) ((nI_succ level).symm) (by omega) (by decide) (by assumption) ?_
  refine go_astore_n 3 d_Ch_reasonBehind_28 rfl (Nat.le_of_ble_eq_true rfl) ?_
  refine go_aload_n 3 d_Ch_reasonBehind_29 rfl rfl ?_
  refine go_aload_n 0 d_Ch_reasonBehind_30 rfl rfl ?_
  refine go_getR d_Ch_reasonBehind_31 f_Ch_11 (by assumption) (by assumption) ?_
  refine go_iload_n 1 d_Ch_reasonBehind_34 rfl rfl ?_
  refine go_aald (t := 4) (level) d_Ch_reasonBehind_35 (by assumption) (by decide) (rfl) (by omega) (by decide) (by assumption) ?_
  refine go_V1 d_Ch_reasonBehind_36 k_Ch_137 (by assumption) (Nat.le_of_ble_eq_true rfl) (c_Pa_copyFrom hpl' hpl e1 (by omega) (by omega) (fun I2 L2 c1 c2 c3 c4 => ?_))
  refine go_aload_n 3 d_Ch_reasonBehind_39 rfl rfl ?_
  refine go_iload_n 2 d_Ch_reasonBehind_40 rfl rfl ?_
  have j0 := c2 st.length (by omega)
  have j1 := c2 (st.length + 1) (by omega)
  refine go_V1 d_Ch_reasonBehind_41 k_Ch_117 (by assumption) (Nat.le_of_ble_eq_true rfl) (c_Pa_learnLess hpl' c1 (by omega) (by rw [j0.1, j0.2]; exact hx) (by rw [j1.1, j1.2]; exact hy) hs (fun q hq => hbx q hq) (fun q hq => hby q hq) (fun hno => ?_) (fun s' hs' hok L3 c5 c6 => ?_))
  · have hr : ce_pa go (pa_lrn (pa_edge isLess x y) s) p md st lo b0 b1 e = (0, e) := by rw [hno]; rfl
    rw [hr] at hQ
    refine go_if_eq 57 d_Ch_reasonBehind_44 rfl (fun _ => ?_) (fun hn => absurd (rfl) hn)
    refine go_iconst (v := 0) d_Ch_reasonBehind_57 rfl ?_
    exact go_iret d_Ch_reasonBehind_58 rfl (hQ I2 L2 (e1.kept (fun q h1 h2 => c3 q (by omega)) (fun q h1 h2 => c4 q (by omega))) (by rw [c3 _ (by omega), c4 _ (by omega)]; exact hx) (by rw [c3 _ (by omega), c4 _ (by omega)]; exact hy) (by rw [c3 _ (by omega), fr _ (by omega)]; exact h4) he (fun q h1 h2 h3 => by rw [c3 q (by omega), fr q (by omega)]) (fun q h1 h2 => c4 q (by omega)))
  · have hr : ce_pa go (pa_lrn (pa_edge isLess x y) s) p md st lo b0 b1 e = go (p, md, st, lo, s', b0, b1) e := by rw [hs']; rfl
    rw [hr] at hQ
    refine go_if_eq 57 d_Ch_reasonBehind_44 rfl (fun hn => absurd hn (by decide)) (fun _ => ?_)
    refine go_aload_n 0 d_Ch_reasonBehind_47 rfl rfl ?_
    refine go_iload_n 1 d_Ch_reasonBehind_48 rfl rfl ?_
    refine go_iconst (v := 1) d_Ch_reasonBehind_49 rfl ?_
    refine go_iadd d_Ch_reasonBehind_50 ?_
    rw [← nI_succ]
    refine go_V1 d_Ch_reasonBehind_51 k_Ch_76 (by assumption) (Nat.le_of_ble_eq_true rfl) (rec s' I2 L3 _ (hc.kept (fun q hq => by rw [c3 q (by omega), fr q (by omega)])) c5 hok (by rw [c3 _ (by omega), fr _ (by omega)]; exact h4) (fun I4 L4 k1 k2 k3 k4 => ?_))
    refine go_goto 58 d_Ch_reasonBehind_54 rfl ?_
    exact go_iret d_Ch_reasonBehind_58 rfl (hQ I4 L4 (e1.kept (fun q h1 h2 => by rw [k3 q (by omega) (by omega) (by omega), c3 q (by omega)]) (fun q h1 h2 => by rw [k4 q (by omega) (by omega), c6 q (by omega), c4 q (by omega)])) (by rw [k3 _ (by omega) (by omega) (by omega), c3 _ (by omega), k4 _ (by omega) (by omega), c6 _ (by omega), c4 _ (by omega)]; exact hx) (by rw [k3 _ (by omega) (by omega) (by omega), c3 _ (by omega), k4 _ (by omega) (by omega), c6 _ (by omega), c4 _ (by omega)]; exact hy) k1 k2 (fun q h1 h2 h3 => by rw [k3 q h1 h2 (by omega), c3 q (by omega), fr q (by omega)]) (fun q h1 h2 => by rw [k4 q h1 (by omega), c6 q (by omega), c4 q (by omega)]))
end CH
