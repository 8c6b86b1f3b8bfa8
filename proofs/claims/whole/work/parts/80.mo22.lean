/-! the reference: advance -/
theorem p_back (p : Int32) : p.toInt64.toInt32 = p := by simp
section MO
variable {d n : Nat} {sh : Nat → Nat × Nat} {X : Nat × (Nat → Int32)} {R : Nat → Nat → Option Nat} {I : Nat → Nat → Int32} {L : Nat → Nat → Int64} {Q : Option Value → gw_Mem → Prop}
variable {U : Nat → ab_Me}
/-- from behind the look for a cut on -/
theorem c_Mo_adM {m r md e f q : Nat} {st : List ab_Sy} {lo : Nat → ab_Sy} {s : sp_E × sp_E} {b0 b1 : ab_Ba} {p : Int32} {o6 o7 o8 o9 o10 o11 o12 : Option Value} (hp : pt_Mo sh R) (hmc : mc_at I U) (hm : m < 4) (hU : u_ok U) (hr : r + 1 < 42) (hmd : md ≤ 40) (hrow : rw_at (L 549) (104 * r) p md st lo s.1 b0 b1) (hok : kn_ok s) (hb0 : pa_bd (pa_B md st.length) st lo) (hlen : st.length ≤ md) (he : e ≤ 50) (h17 : I 533 17 = nI e) (hpq : p = nI q) (hq : q < (U m).1.length) (hno : (if md = 0 then none else cu_of (U m).2.1 p) = none)
    (hEnd : ∀ (v : Int32) (e' : Nat) (I' : Nat → Nat → Int32) (L' : Nat → Nat → Int64), ce_go U m (f + 1) (p, md, st, lo, s, b0, b1) e = (v, e') → I' 533 17 = nI e' → (v = 0 → I' 533 16 = nI r) → ad_fr r I I' L L' → Q (some (.int v)) (n, sh, X, R, I', L'))
    (hGo : ∀ (p' : Int32) (st' : List ab_Sy) (lo' : Nat → ab_Sy) (c0 c1 : ab_Ba) (I' : Nat → Nat → Int32) (L' : Nat → Nat → Int64), ce_go U m (f + 1) (p, md, st, lo, s, b0, b1) e = ce_go U m f (p', md + 1, st', lo', s, c0, c1) e → rw_at (L' 549) (104 * r) p' (md + 1) st' lo' s.1 c0 c1 → pa_bd (pa_B (md + 1) st'.length) st' lo' → st'.length ≤ md + 1 → I' 533 16 = I 533 16 → I' 533 17 = nI e → md < 40 → ad_fr r I I' L L' → Q (some (.int 0)) (n, sh, X, R, I', L'))
    (hBr : ∀ (nn : Int32) (near jump : Option (sp_E × sp_E)) (st' : List ab_Sy) (w : Nat) (I' : Nat → Nat → Int32) (L' : Nat → Nat → Int64), ce_go U m (f + 1) (p, md, st, lo, s, b0, b1) e = ce_br (ce_go U m f) near jump (p + 1) nn (md + 1) st' lo (b0.1, b0.2 - 1) b1 e → mp_post (L' 549) r w jump near (p + 1) nn (md + 1) st' lo (b0.1, b0.2 - 1) b1 → (∀ t, near = some t ∨ jump = some t → kn_ok t) → pa_bd (pa_B (md + 1) st'.length) st' lo → st'.length ≤ md + 1 → I' 533 16 = nI w → I' 533 17 = nI e → md < 40 → ad_fr r I I' L L' → Q (some (.int 0)) (n, sh, X, R, I', L')) : gw_Go y_Mo_advance (d + 4) 0 0 74 [some (.ref 533), some (.int (nI m)), some (.int (nI r)), some (.int (nI (104 * r))), some (.int (nI q)), some (.int (-1)), o6, o7, o8, o9, o10, o11, o12] [] (n, sh, X, R, I, L) Q := by
  have hp0 := hp
  obtain ⟨s533, s534, s535, s536, s537, s538, s539, s540, s541, s542, s543, s544, s545, s546, s547, s548, s549, s550, s551, s552, s553, s554, s555, s556, s557, r534, r535, r536, r537, r538, r539, r540, r541, r542, r543, r544, r545, r546, r547, r548, r549, r550, r551, r552, r553, r554, r555, r556, r557⟩ := hp
  have hl24 := (hmc m hm).2.1
  have hl6 : st.length ≤ 6 := hrow.2.2.2.1
  have hz0 : ce_go U m (f + 1) (p, md, st, lo, s, b0, b1) e = (if 40 ≤ md then (3, e) else match (U m).1[p.toNatClampNeg]? with | none => (2, e) | some (k, nn) => cIf (rn_cr (fun j => (U j).1.length) k nn m st.length) (2, e) (ce_do (ce_go U m f) U k nn (p + 1) (md + 1) st lo s (b0.1, b0.2 - 1) b1 e)) := by
    show cIf (∃ q, q < (U m).1.length ∧ p = nI q) _ _ = _
    rw [cIf_pos ⟨q, hq, hpq⟩, hno]
    rfl
  obtain ⟨⟨k, nn⟩, hqk⟩ : ∃ t, (U m).1[q]? = some t := ⟨_, List.getElem?_eq_getElem hq⟩
  obtain ⟨t1, t2, t3⟩ := (hmc m hm).2.2.1 q (k, nn) hqk
  dsimp only at t1 t2 t3
  have hnn : -1000 ≤ nn.toInt ∧ nn.toInt ≤ 1000 := (hU m hm).2.2.2 _ (List.mem_of_getElem? hqk)
  have tail : ∀ (hmd' : md < 40) (o5 o10 o11 o12 : Option Value), gw_Go y_Mo_advance (d + 4) 0 0 129 [some (.ref 533), some (.int (nI m)), some (.int (nI r)), some (.int (nI (104 * r))), some (.int p), o5, some (.int (nI k)), some (.int nn), some (.long (lN st.length)), none, o10, o11, o12] [] (n, sh, X, R, I, L) Q := by
    intro hmd' o5 o10 o11 o12
    have hz : ce_go U m (f + 1) (p, md, st, lo, s, b0, b1) e = cIf (rn_cr (fun j => (U j).1.length) k nn m st.length) (2, e) (ce_do (ce_go U m f) U k nn (p + 1) (md + 1) st lo s (b0.1, b0.2 - 1) b1 e) := by
      rw [hz0, if_neg (by omega), show p.toNatClampNeg = q by rw [hpq]; exact nI_clamp (by omega), hqk]
    clear hz0 hqk t1 t2
    rcases (show k = 0 ∨ k = 1 ∨ k = 2 ∨ k = 3 ∨ k = 4 ∨ k = 5 ∨ k = 6 ∨ k = 7 ∨ k = 8 ∨ k = 9 ∨ k = 10 ∨ k = 11 ∨ k = 12 ∨ k = 13 ∨ k = 14 by omega) with rfl | rfl | rfl | rfl | rfl | rfl | rfl | rfl | rfl | rfl | rfl | rfl | rfl | rfl | rfl
    · exact c_Mo_adB_0 (md := md) (e := e) (f := f) (lo := lo) (s := s) (b0 := b0) (b1 := b1) hp0 hmc hm hl6 (fun hcr => hEnd 2 e I L (hz.trans (cIf_pos hcr)) h17 (fun h => absurd h (by decide)) ⟨fun j _ _ => rfl, fun _ _ => rfl, fun _ _ => rfl, fun _ _ _ _ => rfl⟩) (fun ncr p10 p11 p12 => c_Mo_adC_0 hp0 hmc hm hU hr hmd' hrow hok hb0 hlen hnn he h17 ncr (fun v e' I' L' q1 q2 q3 q4 => hEnd v e' I' L' ((hz.trans (cIf_neg ncr)).trans q1) q2 q3 q4) (fun p' st' lo' c0 c1 I' L' q1 q2 q3 q4 q5 q6 q7 => hGo p' st' lo' c0 c1 I' L' ((hz.trans (cIf_neg ncr)).trans q1) q2 q3 q4 q5 q6 hmd' q7) (fun near jump st' w I' L' q1 q2 q3 q4 q5 q6 q7 q8 => hBr nn near jump st' w I' L' ((hz.trans (cIf_neg ncr)).trans q1) q2 q3 q4 q5 q6 q7 hmd' q8))
    · exact c_Mo_adB_1 (md := md) (e := e) (f := f) (lo := lo) (s := s) (b0 := b0) (b1 := b1) hp0 hmc hm hl6 (fun hcr => hEnd 2 e I L (hz.trans (cIf_pos hcr)) h17 (fun h => absurd h (by decide)) ⟨fun j _ _ => rfl, fun _ _ => rfl, fun _ _ => rfl, fun _ _ _ _ => rfl⟩) (fun ncr p10 p11 p12 => c_Mo_adC_1 hp0 hmc hm hU hr hmd' hrow hok hb0 hlen hnn he h17 ncr (fun v e' I' L' q1 q2 q3 q4 => hEnd v e' I' L' ((hz.trans (cIf_neg ncr)).trans q1) q2 q3 q4) (fun p' st' lo' c0 c1 I' L' q1 q2 q3 q4 q5 q6 q7 => hGo p' st' lo' c0 c1 I' L' ((hz.trans (cIf_neg ncr)).trans q1) q2 q3 q4 q5 q6 hmd' q7) (fun near jump st' w I' L' q1 q2 q3 q4 q5 q6 q7 q8 => hBr nn near jump st' w I' L' ((hz.trans (cIf_neg ncr)).trans q1) q2 q3 q4 q5 q6 q7 hmd' q8))
    · exact c_Mo_adB_2 (md := md) (e := e) (f := f) (lo := lo) (s := s) (b0 := b0) (b1 := b1) hp0 hmc hm hl6 (fun hcr => hEnd 2 e I L (hz.trans (cIf_pos hcr)) h17 (fun h => absurd h (by decide)) ⟨fun j _ _ => rfl, fun _ _ => rfl, fun _ _ => rfl, fun _ _ _ _ => rfl⟩) (fun ncr p10 p11 p12 => c_Mo_adC_2 hp0 hmc hm hU hr hmd' hrow hok hb0 hlen hnn he h17 ncr (fun v e' I' L' q1 q2 q3 q4 => hEnd v e' I' L' ((hz.trans (cIf_neg ncr)).trans q1) q2 q3 q4) (fun p' st' lo' c0 c1 I' L' q1 q2 q3 q4 q5 q6 q7 => hGo p' st' lo' c0 c1 I' L' ((hz.trans (cIf_neg ncr)).trans q1) q2 q3 q4 q5 q6 hmd' q7) (fun near jump st' w I' L' q1 q2 q3 q4 q5 q6 q7 q8 => hBr nn near jump st' w I' L' ((hz.trans (cIf_neg ncr)).trans q1) q2 q3 q4 q5 q6 q7 hmd' q8))
    · exact c_Mo_adB_3 (md := md) (e := e) (f := f) (lo := lo) (s := s) (b0 := b0) (b1 := b1) hp0 hmc hm hl6 (fun hcr => hEnd 2 e I L (hz.trans (cIf_pos hcr)) h17 (fun h => absurd h (by decide)) ⟨fun j _ _ => rfl, fun _ _ => rfl, fun _ _ => rfl, fun _ _ _ _ => rfl⟩) (fun ncr p10 p11 p12 => c_Mo_adC_3 hp0 hmc hm hU hr hmd' hrow hok hb0 hlen hnn he h17 ncr (fun v e' I' L' q1 q2 q3 q4 => hEnd v e' I' L' ((hz.trans (cIf_neg ncr)).trans q1) q2 q3 q4) (fun p' st' lo' c0 c1 I' L' q1 q2 q3 q4 q5 q6 q7 => hGo p' st' lo' c0 c1 I' L' ((hz.trans (cIf_neg ncr)).trans q1) q2 q3 q4 q5 q6 hmd' q7) (fun near jump st' w I' L' q1 q2 q3 q4 q5 q6 q7 q8 => hBr nn near jump st' w I' L' ((hz.trans (cIf_neg ncr)).trans q1) q2 q3 q4 q5 q6 q7 hmd' q8))
    · exact c_Mo_adB_4 (md := md) (e := e) (f := f) (lo := lo) (s := s) (b0 := b0) (b1 := b1) hp0 hmc hm hl6 (fun hcr => hEnd 2 e I L (hz.trans (cIf_pos hcr)) h17 (fun h => absurd h (by decide)) ⟨fun j _ _ => rfl, fun _ _ => rfl, fun _ _ => rfl, fun _ _ _ _ => rfl⟩) (fun ncr p10 p11 p12 => c_Mo_adC_4 hp0 hmc hm hU hr hmd' hrow hok hb0 hlen hnn he h17 ncr (fun v e' I' L' q1 q2 q3 q4 => hEnd v e' I' L' ((hz.trans (cIf_neg ncr)).trans q1) q2 q3 q4) (fun p' st' lo' c0 c1 I' L' q1 q2 q3 q4 q5 q6 q7 => hGo p' st' lo' c0 c1 I' L' ((hz.trans (cIf_neg ncr)).trans q1) q2 q3 q4 q5 q6 hmd' q7) (fun near jump st' w I' L' q1 q2 q3 q4 q5 q6 q7 q8 => hBr nn near jump st' w I' L' ((hz.trans (cIf_neg ncr)).trans q1) q2 q3 q4 q5 q6 q7 hmd' q8))
    · exact c_Mo_adB_5 (md := md) (e := e) (f := f) (lo := lo) (s := s) (b0 := b0) (b1 := b1) hp0 hmc hm hl6 (fun hcr => hEnd 2 e I L (hz.trans (cIf_pos hcr)) h17 (fun h => absurd h (by decide)) ⟨fun j _ _ => rfl, fun _ _ => rfl, fun _ _ => rfl, fun _ _ _ _ => rfl⟩) (fun ncr p10 p11 p12 => c_Mo_adC_5 hp0 hmc hm hU hr hmd' hrow hok hb0 hlen hnn he h17 ncr (fun v e' I' L' q1 q2 q3 q4 => hEnd v e' I' L' ((hz.trans (cIf_neg ncr)).trans q1) q2 q3 q4) (fun p' st' lo' c0 c1 I' L' q1 q2 q3 q4 q5 q6 q7 => hGo p' st' lo' c0 c1 I' L' ((hz.trans (cIf_neg ncr)).trans q1) q2 q3 q4 q5 q6 hmd' q7) (fun near jump st' w I' L' q1 q2 q3 q4 q5 q6 q7 q8 => hBr nn near jump st' w I' L' ((hz.trans (cIf_neg ncr)).trans q1) q2 q3 q4 q5 q6 q7 hmd' q8))
    · exact c_Mo_adB_6 (md := md) (e := e) (f := f) (lo := lo) (s := s) (b0 := b0) (b1 := b1) hp0 hmc hm hl6 (fun hcr => hEnd 2 e I L (hz.trans (cIf_pos hcr)) h17 (fun h => absurd h (by decide)) ⟨fun j _ _ => rfl, fun _ _ => rfl, fun _ _ => rfl, fun _ _ _ _ => rfl⟩) (fun ncr p10 p11 p12 => c_Mo_adC_6 hp0 hmc hm hU hr hmd' hrow hok hb0 hlen hnn he h17 ncr (fun v e' I' L' q1 q2 q3 q4 => hEnd v e' I' L' ((hz.trans (cIf_neg ncr)).trans q1) q2 q3 q4) (fun p' st' lo' c0 c1 I' L' q1 q2 q3 q4 q5 q6 q7 => hGo p' st' lo' c0 c1 I' L' ((hz.trans (cIf_neg ncr)).trans q1) q2 q3 q4 q5 q6 hmd' q7) (fun near jump st' w I' L' q1 q2 q3 q4 q5 q6 q7 q8 => hBr nn near jump st' w I' L' ((hz.trans (cIf_neg ncr)).trans q1) q2 q3 q4 q5 q6 q7 hmd' q8))
    · exact c_Mo_adB_7 (md := md) (e := e) (f := f) (lo := lo) (s := s) (b0 := b0) (b1 := b1) hp0 hmc hm hl6 (fun hcr => hEnd 2 e I L (hz.trans (cIf_pos hcr)) h17 (fun h => absurd h (by decide)) ⟨fun j _ _ => rfl, fun _ _ => rfl, fun _ _ => rfl, fun _ _ _ _ => rfl⟩) (fun ncr p10 p11 p12 => c_Mo_adC_7 hp0 hmc hm hU hr hmd' hrow hok hb0 hlen hnn he h17 ncr (fun v e' I' L' q1 q2 q3 q4 => hEnd v e' I' L' ((hz.trans (cIf_neg ncr)).trans q1) q2 q3 q4) (fun p' st' lo' c0 c1 I' L' q1 q2 q3 q4 q5 q6 q7 => hGo p' st' lo' c0 c1 I' L' ((hz.trans (cIf_neg ncr)).trans q1) q2 q3 q4 q5 q6 hmd' q7) (fun near jump st' w I' L' q1 q2 q3 q4 q5 q6 q7 q8 => hBr nn near jump st' w I' L' ((hz.trans (cIf_neg ncr)).trans q1) q2 q3 q4 q5 q6 q7 hmd' q8))
    · exact c_Mo_adB_8 (md := md) (e := e) (f := f) (lo := lo) (s := s) (b0 := b0) (b1 := b1) hp0 hmc hm hl6 (fun hcr => hEnd 2 e I L (hz.trans (cIf_pos hcr)) h17 (fun h => absurd h (by decide)) ⟨fun j _ _ => rfl, fun _ _ => rfl, fun _ _ => rfl, fun _ _ _ _ => rfl⟩) (fun ncr p10 p11 p12 => c_Mo_adC_8 hp0 hmc hm hU hr hmd' hrow hok hb0 hlen hnn he h17 ncr (fun v e' I' L' q1 q2 q3 q4 => hEnd v e' I' L' ((hz.trans (cIf_neg ncr)).trans q1) q2 q3 q4) (fun p' st' lo' c0 c1 I' L' q1 q2 q3 q4 q5 q6 q7 => hGo p' st' lo' c0 c1 I' L' ((hz.trans (cIf_neg ncr)).trans q1) q2 q3 q4 q5 q6 hmd' q7) (fun near jump st' w I' L' q1 q2 q3 q4 q5 q6 q7 q8 => hBr nn near jump st' w I' L' ((hz.trans (cIf_neg ncr)).trans q1) q2 q3 q4 q5 q6 q7 hmd' q8))
    · exact c_Mo_adB_9 (md := md) (e := e) (f := f) (lo := lo) (s := s) (b0 := b0) (b1 := b1) hp0 hmc hm hl6 (fun hcr => hEnd 2 e I L (hz.trans (cIf_pos hcr)) h17 (fun h => absurd h (by decide)) ⟨fun j _ _ => rfl, fun _ _ => rfl, fun _ _ => rfl, fun _ _ _ _ => rfl⟩) (fun ncr p10 p11 p12 => c_Mo_adC_9 hp0 hmc hm hU hr hmd' hrow hok hb0 hlen hnn he h17 ncr (fun v e' I' L' q1 q2 q3 q4 => hEnd v e' I' L' ((hz.trans (cIf_neg ncr)).trans q1) q2 q3 q4) (fun p' st' lo' c0 c1 I' L' q1 q2 q3 q4 q5 q6 q7 => hGo p' st' lo' c0 c1 I' L' ((hz.trans (cIf_neg ncr)).trans q1) q2 q3 q4 q5 q6 hmd' q7) (fun near jump st' w I' L' q1 q2 q3 q4 q5 q6 q7 q8 => hBr nn near jump st' w I' L' ((hz.trans (cIf_neg ncr)).trans q1) q2 q3 q4 q5 q6 q7 hmd' q8))
    · exact c_Mo_adB_10 (md := md) (e := e) (f := f) (lo := lo) (s := s) (b0 := b0) (b1 := b1) hp0 hmc hm hl6 (fun hcr => hEnd 2 e I L (hz.trans (cIf_pos hcr)) h17 (fun h => absurd h (by decide)) ⟨fun j _ _ => rfl, fun _ _ => rfl, fun _ _ => rfl, fun _ _ _ _ => rfl⟩) (fun ncr p10 p11 p12 => c_Mo_adC_10 hp0 hmc hm hU hr hmd' hrow hok hb0 hlen hnn he h17 ncr (fun v e' I' L' q1 q2 q3 q4 => hEnd v e' I' L' ((hz.trans (cIf_neg ncr)).trans q1) q2 q3 q4) (fun p' st' lo' c0 c1 I' L' q1 q2 q3 q4 q5 q6 q7 => hGo p' st' lo' c0 c1 I' L' ((hz.trans (cIf_neg ncr)).trans q1) q2 q3 q4 q5 q6 hmd' q7) (fun near jump st' w I' L' q1 q2 q3 q4 q5 q6 q7 q8 => hBr nn near jump st' w I' L' ((hz.trans (cIf_neg ncr)).trans q1) q2 q3 q4 q5 q6 q7 hmd' q8))
    · exact c_Mo_adB_11 (md := md) (e := e) (f := f) (lo := lo) (s := s) (b0 := b0) (b1 := b1) hp0 hmc hm hl6 (fun hcr => hEnd 2 e I L (hz.trans (cIf_pos hcr)) h17 (fun h => absurd h (by decide)) ⟨fun j _ _ => rfl, fun _ _ => rfl, fun _ _ => rfl, fun _ _ _ _ => rfl⟩) (fun ncr p10 p11 p12 => c_Mo_adC_11 hp0 hmc hm hU hr hmd' hrow hok hb0 hlen hnn he h17 ncr (fun v e' I' L' q1 q2 q3 q4 => hEnd v e' I' L' ((hz.trans (cIf_neg ncr)).trans q1) q2 q3 q4) (fun p' st' lo' c0 c1 I' L' q1 q2 q3 q4 q5 q6 q7 => hGo p' st' lo' c0 c1 I' L' ((hz.trans (cIf_neg ncr)).trans q1) q2 q3 q4 q5 q6 hmd' q7) (fun near jump st' w I' L' q1 q2 q3 q4 q5 q6 q7 q8 => hBr nn near jump st' w I' L' ((hz.trans (cIf_neg ncr)).trans q1) q2 q3 q4 q5 q6 q7 hmd' q8))
    · exact c_Mo_adB_12 (md := md) (e := e) (f := f) (lo := lo) (s := s) (b0 := b0) (b1 := b1) hp0 hmc hm hl6 (fun hcr => hEnd 2 e I L (hz.trans (cIf_pos hcr)) h17 (fun h => absurd h (by decide)) ⟨fun j _ _ => rfl, fun _ _ => rfl, fun _ _ => rfl, fun _ _ _ _ => rfl⟩) (fun ncr p10 p11 p12 => c_Mo_adC_12 hp0 hmc hm hU hr hmd' hrow hok hb0 hlen hnn he h17 ncr (fun v e' I' L' q1 q2 q3 q4 => hEnd v e' I' L' ((hz.trans (cIf_neg ncr)).trans q1) q2 q3 q4) (fun p' st' lo' c0 c1 I' L' q1 q2 q3 q4 q5 q6 q7 => hGo p' st' lo' c0 c1 I' L' ((hz.trans (cIf_neg ncr)).trans q1) q2 q3 q4 q5 q6 hmd' q7) (fun near jump st' w I' L' q1 q2 q3 q4 q5 q6 q7 q8 => hBr nn near jump st' w I' L' ((hz.trans (cIf_neg ncr)).trans q1) q2 q3 q4 q5 q6 q7 hmd' q8))
    · exact c_Mo_adB_13 (md := md) (e := e) (f := f) (lo := lo) (s := s) (b0 := b0) (b1 := b1) hp0 hmc hm hl6 (fun hcr => hEnd 2 e I L (hz.trans (cIf_pos hcr)) h17 (fun h => absurd h (by decide)) ⟨fun j _ _ => rfl, fun _ _ => rfl, fun _ _ => rfl, fun _ _ _ _ => rfl⟩) (fun ncr p10 p11 p12 => c_Mo_adC_13 hp0 hmc hm hU hr hmd' hrow hok hb0 hlen hnn he h17 ncr (fun v e' I' L' q1 q2 q3 q4 => hEnd v e' I' L' ((hz.trans (cIf_neg ncr)).trans q1) q2 q3 q4) (fun p' st' lo' c0 c1 I' L' q1 q2 q3 q4 q5 q6 q7 => hGo p' st' lo' c0 c1 I' L' ((hz.trans (cIf_neg ncr)).trans q1) q2 q3 q4 q5 q6 hmd' q7) (fun near jump st' w I' L' q1 q2 q3 q4 q5 q6 q7 q8 => hBr nn near jump st' w I' L' ((hz.trans (cIf_neg ncr)).trans q1) q2 q3 q4 q5 q6 q7 hmd' q8))
    · exact c_Mo_adB_14 (md := md) (e := e) (f := f) (lo := lo) (s := s) (b0 := b0) (b1 := b1) hp0 hmc hm hl6 (fun hcr => hEnd 2 e I L (hz.trans (cIf_pos hcr)) h17 (fun h => absurd h (by decide)) ⟨fun j _ _ => rfl, fun _ _ => rfl, fun _ _ => rfl, fun _ _ _ _ => rfl⟩) (fun ncr p10 p11 p12 => c_Mo_adC_14 hp0 hmc hm hU hr hmd' hrow hok hb0 hlen hnn he h17 ncr (fun v e' I' L' q1 q2 q3 q4 => hEnd v e' I' L' ((hz.trans (cIf_neg ncr)).trans q1) q2 q3 q4) (fun p' st' lo' c0 c1 I' L' q1 q2 q3 q4 q5 q6 q7 => hGo p' st' lo' c0 c1 I' L' ((hz.trans (cIf_neg ncr)).trans q1) q2 q3 q4 q5 q6 hmd' q7) (fun near jump st' w I' L' q1 q2 q3 q4 q5 q6 q7 q8 => hBr nn near jump st' w I' L' ((hz.trans (cIf_neg ncr)).trans q1) q2 q3 q4 q5 q6 q7 hmd' q8))
  by_cases h40 : md = 40
  · skip
    refine go_aload_n 0 d_Mo_advance_74 rfl rfl ?_
    refine go_getR d_Mo_advance_75 f_Mo_56 (by assumption) (by assumption) ?_
    refine go_iload_n 3 d_Mo_advance_78 rfl rfl ?_
    refine go_iconst (v := 1) d_Mo_advance_79 rfl ?_
    refine go_iadd d_Mo_advance_80 ?_
    refine go_lald (104 * r + 1) d_Mo_advance_81 (by assumption) (nI_add _ 1) (by omega) (by decide) ?_
    rw [hrow.2.1]
    refine go_ldc2 d_Mo_advance_82 i_Mo_162 ?_
    refine go_lcmp_ne 91 d_Mo_advance_85 d_Mo_advance_86 rfl (fun hn => absurd hn ((fun hh => hh (by rw [h40]; rfl)))) (fun _ => ?_)
    refine go_iconst (v := 3) d_Mo_advance_89 rfl ?_
    exact go_iret d_Mo_advance_90 rfl (hEnd 3 e I L (by rw [hz0, if_pos (by omega)]) h17 (fun h => absurd h (by decide)) ⟨fun j _ _ => rfl, fun _ _ => rfl, fun _ _ => rfl, fun _ _ _ _ => rfl⟩)
  · skip
    refine go_aload_n 0 d_Mo_advance_74 rfl rfl ?_
    refine go_getR d_Mo_advance_75 f_Mo_56 (by assumption) (by assumption) ?_
    refine go_iload_n 3 d_Mo_advance_78 rfl rfl ?_
    refine go_iconst (v := 1) d_Mo_advance_79 rfl ?_
    refine go_iadd d_Mo_advance_80 ?_
    refine go_lald (104 * r + 1) d_Mo_advance_81 (by assumption) (nI_add _ 1) (by omega) (by decide) ?_
    rw [hrow.2.1]
    refine go_ldc2 d_Mo_advance_82 i_Mo_162 ?_
    refine go_lcmp_ne 91 d_Mo_advance_85 d_Mo_advance_86 rfl (fun _ => ?_) (fun hn => by first | exact absurd hn ((fun hh => h40 ((lN_eq (b := 40) (by omega) (by decide)).mp hh))) | exact absurd ((fun hh => h40 ((lN_eq (b := 40) (by omega) (by decide)).mp hh))) hn)
    refine go_aload_n 0 d_Mo_advance_91 rfl rfl ?_
    refine go_getR d_Mo_advance_92 f_Mo_13 (by assumption) (by assumption) ?_
    refine go_bipush (v := 24) d_Mo_advance_95 rfl ?_
    refine go_iload_n 1 d_Mo_advance_97 rfl rfl ?_
    refine go_imul d_Mo_advance_98 ?_
    refine go_iload d_Mo_advance_99 rfl ?_
    refine go_iadd d_Mo_advance_101 ?_
    refine go_iald (24 * m + q) d_Mo_advance_102 (by assumption) (ix (a := 24)) (by omega) (by decide) ?_
    rw [t1]
    refine go_istore d_Mo_advance_103 (Nat.le_of_ble_eq_true rfl) ?_
    simp only [gw_st1, gw_st2, gw_cl1, gw_get, gw_set, gw_big, Bool.false_eq_true, if_false, if_true, ↓reduceIte]
    refine go_aload_n 0 d_Mo_advance_105 rfl rfl ?_
    refine go_getR d_Mo_advance_106 f_Mo_16 (by assumption) (by assumption) ?_
    refine go_bipush (v := 24) d_Mo_advance_109 rfl ?_
    refine go_iload_n 1 d_Mo_advance_111 rfl rfl ?_
    refine go_imul d_Mo_advance_112 ?_
    refine go_iload d_Mo_advance_113 rfl ?_
    refine go_iadd d_Mo_advance_115 ?_
    refine go_iald (24 * m + q) d_Mo_advance_116 (by assumption) (ix (a := 24)) (by omega) (by decide) ?_
    rw [t2]
    refine go_istore d_Mo_advance_117 (Nat.le_of_ble_eq_true rfl) ?_
    simp only [gw_st1, gw_st2, gw_cl1, gw_get, gw_set, gw_big, Bool.false_eq_true, if_false, if_true, ↓reduceIte]
    refine go_aload_n 0 d_Mo_advance_119 rfl rfl ?_
    refine go_getR d_Mo_advance_120 f_Mo_56 (by assumption) (by assumption) ?_
    refine go_iload_n 3 d_Mo_advance_123 rfl rfl ?_
    refine go_iconst (v := 2) d_Mo_advance_124 rfl ?_
    refine go_iadd d_Mo_advance_125 ?_
    refine go_lald (104 * r + 2) d_Mo_advance_126 (by assumption) (nI_add _ 2) (by omega) (by decide) ?_
    rw [hrow.2.2.1]
    refine go_lstore d_Mo_advance_127 (Nat.le_of_ble_eq_true rfl) ?_
    simp only [gw_st1, gw_st2, gw_cl1, gw_get, gw_set, gw_big, Bool.false_eq_true, if_false, if_true, ↓reduceIte]
    rw [← hpq]
    exact tail (by omega) _ _ _ _
theorem c_Mo_advance {m r md e f : Nat} {st : List ab_Sy} {lo : Nat → ab_Sy} {s : sp_E × sp_E} {b0 b1 : ab_Ba} {p : Int32} (hp : pt_Mo sh R) (hmc : mc_at I U) (hm : m < 4) (hU : u_ok U) (hr : r + 1 < 42) (hmd : md ≤ 40) (hrow : rw_at (L 549) (104 * r) p md st lo s.1 b0 b1) (hok : kn_ok s) (hb0 : pa_bd (pa_B md st.length) st lo) (hlen : st.length ≤ md) (he : e ≤ 50) (h17 : I 533 17 = nI e)
    (hEnd : ∀ (v : Int32) (e' : Nat) (I' : Nat → Nat → Int32) (L' : Nat → Nat → Int64), ce_go U m (f + 1) (p, md, st, lo, s, b0, b1) e = (v, e') → I' 533 17 = nI e' → (v = 0 → I' 533 16 = nI r) → ad_fr r I I' L L' → Q (some (.int v)) (n, sh, X, R, I', L'))
    (hGo : ∀ (p' : Int32) (st' : List ab_Sy) (lo' : Nat → ab_Sy) (c0 c1 : ab_Ba) (I' : Nat → Nat → Int32) (L' : Nat → Nat → Int64), ce_go U m (f + 1) (p, md, st, lo, s, b0, b1) e = ce_go U m f (p', md + 1, st', lo', s, c0, c1) e → rw_at (L' 549) (104 * r) p' (md + 1) st' lo' s.1 c0 c1 → pa_bd (pa_B (md + 1) st'.length) st' lo' → st'.length ≤ md + 1 → I' 533 16 = I 533 16 → I' 533 17 = nI e → md < 40 → ad_fr r I I' L L' → Q (some (.int 0)) (n, sh, X, R, I', L'))
    (hBr : ∀ (nn : Int32) (near jump : Option (sp_E × sp_E)) (st' : List ab_Sy) (w : Nat) (I' : Nat → Nat → Int32) (L' : Nat → Nat → Int64), ce_go U m (f + 1) (p, md, st, lo, s, b0, b1) e = ce_br (ce_go U m f) near jump (p + 1) nn (md + 1) st' lo (b0.1, b0.2 - 1) b1 e → mp_post (L' 549) r w jump near (p + 1) nn (md + 1) st' lo (b0.1, b0.2 - 1) b1 → (∀ t, near = some t ∨ jump = some t → kn_ok t) → pa_bd (pa_B (md + 1) st'.length) st' lo → st'.length ≤ md + 1 → I' 533 16 = nI w → I' 533 17 = nI e → md < 40 → ad_fr r I I' L L' → Q (some (.int 0)) (n, sh, X, R, I', L')) : gw_Call y_Mo_advance (d + 4) 0 0 [.ref 533, .int (nI m), .int (nI r)] (n, sh, X, R, I, L) Q := by
  have hp0 := hp
  obtain ⟨s533, s534, s535, s536, s537, s538, s539, s540, s541, s542, s543, s544, s545, s546, s547, s548, s549, s550, s551, s552, s553, s554, s555, s556, s557, r534, r535, r536, r537, r538, r539, r540, r541, r542, r543, r544, r545, r546, r547, r548, r549, r550, r551, r552, r553, r554, r555, r556, r557⟩ := hp
  have hl24 := (hmc m hm).2.1
  have hBM : pa_B md st.length ≤ 45000000000 := pa_B_m (by omega)
  have hfr : ad_fr r I I L L := ⟨fun j _ _ => rfl, fun _ _ => rfl, fun _ _ => rfl, fun _ _ _ _ => rfl⟩
  refine gw_call o_Mo_advance (Nat.le_of_ble_eq_true rfl) ?_
  refine go_bipush (v := 104) d_Mo_advance_0 rfl ?_
  refine go_iload_n 2 d_Mo_advance_2 rfl rfl ?_
  refine go_imul d_Mo_advance_3 ?_
  rw [show (104 : Int32) * nI r = nI (104 * r) from nI_mul 104 r]
  refine go_istore_n 3 d_Mo_advance_4 rfl (Nat.le_of_ble_eq_true rfl) ?_
  refine go_aload_n 0 d_Mo_advance_5 rfl rfl ?_
  refine go_getR d_Mo_advance_6 f_Mo_56 (by assumption) (by assumption) ?_
  refine go_iload_n 3 d_Mo_advance_9 rfl rfl ?_
  refine go_lald (104 * r) d_Mo_advance_10 (by assumption) (rfl) (by omega) (by decide) ?_
  rw [hrow.1]
  refine go_l2i d_Mo_advance_11 (p_back p) ?_
  refine go_istore d_Mo_advance_12 (Nat.le_of_ble_eq_true rfl) ?_
  simp only [gw_st1, gw_st2, gw_cl1, gw_get, gw_set, gw_big, Bool.false_eq_true, if_false, if_true, ↓reduceIte]
  refine go_iload d_Mo_advance_14 rfl ?_
  refine go_i2l d_Mo_advance_16 (rfl) ?_
  refine go_lconst (v := 0) d_Mo_advance_17 rfl ?_
  refine go_aload_n 0 d_Mo_advance_18 rfl rfl ?_
  refine go_getR d_Mo_advance_19 f_Mo_7 (by assumption) (by assumption) ?_
  refine go_iload_n 1 d_Mo_advance_22 rfl rfl ?_
  refine go_iald (m) d_Mo_advance_23 (by assumption) (rfl) (hm) (by decide) ?_
  rw [(hmc m hm).1]
  refine go_iconst (v := 1) d_Mo_advance_24 rfl ?_
  refine go_isub d_Mo_advance_25 ?_
  refine go_i2l d_Mo_advance_26 (rfl) ?_
  refine go_S3 d_Mo_advance_27 k_Mo_86 (Nat.le_of_ble_eq_true rfl) (c_Mo_in (l := 0) (h := nI (U m).1.length - 1) rfl rfl (fun b1' k1 z1 => ?_))
  refine go_if_ne 35 d_Mo_advance_30 rfl (fun h30 => ?_) (fun h30 => ?_)
  · obtain ⟨q, hq, hpq⟩ := in_len hl24 (k1.mp h30)
    refine go_aload_n 0 d_Mo_advance_35 rfl rfl ?_
    refine go_getR d_Mo_advance_36 f_Mo_56 (by assumption) (by assumption) ?_
    refine go_iload_n 3 d_Mo_advance_39 rfl rfl ?_
    refine go_iconst (v := 1) d_Mo_advance_40 rfl ?_
    refine go_iadd d_Mo_advance_41 ?_
    refine go_lald (104 * r + 1) d_Mo_advance_42 (by assumption) (nI_add _ 1) (by omega) (by decide) ?_
    rw [hrow.2.1]
    refine go_lconst (v := 0) d_Mo_advance_43 rfl ?_
    refine go_lcmp_le 58 d_Mo_advance_44 d_Mo_advance_45 rfl (fun h44 => ?_) (fun h44 => ?_)
    · have hmd0 : md = 0 := Classical.byContradiction (fun hne => h44 ((lN_lt (a := 0) (by decide) (by omega)).mpr (by omega)))
      rw [hpq]
      refine go_iconst (v := (-1)) d_Mo_advance_58 rfl ?_
      refine go_istore d_Mo_advance_59 (Nat.le_of_ble_eq_true rfl) ?_
      simp only [gw_st1, gw_st2, gw_cl1, gw_get, gw_set, gw_big, Bool.false_eq_true, if_false, if_true, ↓reduceIte]
      refine go_iload d_Mo_advance_61 rfl ?_
      refine go_if_lt 74 d_Mo_advance_63 rfl (fun _ => ?_) (fun hn => absurd (by decide) hn)
      exact c_Mo_adM hp0 hmc hm hU hr hmd hrow hok hb0 hlen he h17 hpq hq (if_pos hmd0) hEnd hGo hBr
    · refine go_aload_n 0 d_Mo_advance_48 rfl rfl ?_
      refine go_iload_n 1 d_Mo_advance_49 rfl rfl ?_
      refine go_iload d_Mo_advance_50 rfl ?_
      refine go_V2 d_Mo_advance_52 k_Mo_106 (by assumption) (Nat.le_of_ble_eq_true rfl) (c_Mo_cutAt (d := d + 2) hp0 hmc (fun hno => ?hno) (fun k i e' a1 a2 a3 a4 a5 => ?_))
      case hno =>
        have hmd0 : md ≠ 0 := fun e0 => absurd h44 (by rw [e0]; decide)
        have hnone : (if md = 0 then none else cu_of (U m).2.1 p) = none := by
          rw [if_neg hmd0]
          exact cu_of_none (fun c hc hcp => hno ⟨m, c, hm, rfl, hc, hcp⟩)
        rw [hpq]
        refine go_goto 59 d_Mo_advance_55 rfl ?_
        refine go_istore d_Mo_advance_59 (Nat.le_of_ble_eq_true rfl) ?_
        simp only [gw_st1, gw_st2, gw_cl1, gw_get, gw_set, gw_big, Bool.false_eq_true, if_false, if_true, ↓reduceIte]
        refine go_iload d_Mo_advance_61 rfl ?_
        refine go_if_lt 74 d_Mo_advance_63 rfl (fun _ => ?_) (fun hn => absurd (by decide) hn)
        exact c_Mo_adM hp0 hmc hm hU hr hmd hrow hok hb0 hlen he h17 hpq hq hnone hEnd hGo hBr
      have hmd0 : md ≠ 0 := fun e0 => absurd h44 (by rw [e0]; decide)
      have ek := (nI_eq (by omega) (by omega)).mp a2
      subst ek
      obtain ⟨g1, g2⟩ := (hmc m hm).2.2.2.2.2.2 i e' a3
      have hsome : (if md = 0 then none else cu_of (U m).2.1 p) = some e'.2 := by
        rw [if_neg hmd0]
        exact cu_of_some a4 (hU m hm).2.1 a3
      have hz : ce_go U m (f + 1) (p, md, st, lo, s, b0, b1) e = ((ce_end e st lo s.2 b0 b1 (some e'.2)).1, (ce_end e st lo s.2 b0 b1 (some e'.2)).2) := by
        show cIf (∃ q, q < (U m).1.length ∧ p = nI q) _ _ = _
        rw [cIf_pos ⟨q, hq, hpq⟩, hsome]
      have ht := (hU m hm).2.2.1 e' (List.mem_of_getElem? a3)
      refine go_goto 59 d_Mo_advance_55 rfl ?_
      refine go_istore d_Mo_advance_59 (Nat.le_of_ble_eq_true rfl) ?_
      simp only [gw_st1, gw_st2, gw_cl1, gw_get, gw_set, gw_big, Bool.false_eq_true, if_false, if_true, ↓reduceIte]
      refine go_iload d_Mo_advance_61 rfl ?_
      refine go_if_lt 74 d_Mo_advance_63 rfl (fun hn => absurd hn (nI_pos (by omega))) (fun _ => ?_)
      refine go_aload_n 0 d_Mo_advance_66 rfl rfl ?_
      refine go_iload_n 2 d_Mo_advance_67 rfl rfl ?_
      refine go_iload d_Mo_advance_68 rfl ?_
      refine go_V2 d_Mo_advance_70 k_Mo_159 (by assumption) (Nat.le_of_ble_eq_true rfl) (c_Mo_end1 (d := d + 1) (e := e) hp0 (by omega) (by omega) g2 ht.1 ht.2.1 hrow hok (fun v hv => (hb0.2 v hv).mono hBM) he h17 (fun I1 L1 c1 c2 c3 c4 c5 c6 => ?_))
      exact go_iret d_Mo_advance_73 rfl (hEnd _ _ I1 L1 hz c2 (fun _ => c1) ⟨c3, c4, c5, c6⟩)
  · refine go_iconst (v := 2) d_Mo_advance_33 rfl ?_
    exact go_iret d_Mo_advance_34 rfl (hEnd 2 e I L (cIf_neg (fun ⟨q, hq, hpq⟩ => absurd h30 (k1.mpr (len_in hl24 hq hpq)))) h17 (fun h => absurd h (by decide)) hfr)
end MO
