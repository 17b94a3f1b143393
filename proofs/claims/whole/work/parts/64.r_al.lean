section OA
variable {y z k n nx ct len t sd : Nat} {σ μ : Nat → Nat → Int32} {v w : Int32}
theorem op_alone (h : Rl y z k n nx ct len t sd σ μ) : R_X8_alone σ y n k v w = (if 0 ≤ v ∧ ¬ nI k ≤ v then (if 0 ≤ w ∧ ¬ nI n ≤ w then (if hasB (μ 6 10 ||| μ 6 11) w then (-1) else aloneN (μ 2) (μ 3) (μ 1) (μ 6) (μ 0 2) v.toNatClampNeg w.toNatClampNeg) else (-1000000001)) else (-1000000001)) ∧ Rel y z (T_X8_alone σ y n k v w) μ := by
  refine ⟨?_, Rl.rel (h.g1 (fun r _ _ _ r4 => ?_) (fun _ _ => rfl))⟩
  · have hn := h.hn
    have hk := h.hk
    have hc := h.w0.cpy (O2 := σ (29 + 4 * 1)) (V2 := σ (29 + 4 * 1 + 1)) (P2 := σ (29 + 4 * 1 + 2)) (S2 := σ (29 + 4 * 1 + 3)) hn
    have a6 : μ 0 2 = σ y 2 := h.2.1.2.1.2.2.2.2.1
    have hsp : iN 0 20 (σ y 2) := h.2.1.1.1.2.2.2
    have a10 := h.2.1.2.2.1
    have a11 := h.2.1.2.2.2
    have hA := h.2.1.1.2.1
    unfold R_X8_alone
    by_cases c : 0 ≤ v ∧ ¬ nI k ≤ v
    · rw [if_pos c, if_pos c]
      by_cases c2 : 0 ≤ w ∧ ¬ nI n ≤ w
      · rw [if_pos c2, if_pos c2]
        obtain ⟨p, hp, rfl⟩ := nI_rng2 c (by omega)
        obtain ⟨s, hs, rfl⟩ := nI_rng2 c2 (by omega)
        generalize T_X6_copyFrom_O (σ (29 + 4 * 1)) (σ (29 + 4 * 1 + 1)) (σ (29 + 4 * 1 + 2)) (σ (29 + 4 * 1 + 3)) (σ (29 + 4 * 0)) (σ (29 + 4 * 0 + 1)) (σ (29 + 4 * 0 + 2)) (σ (29 + 4 * 0 + 3)) = O at hc ⊢
        generalize T_X6_copyFrom_V (σ (29 + 4 * 1)) (σ (29 + 4 * 1 + 1)) (σ (29 + 4 * 1 + 2)) (σ (29 + 4 * 1 + 3)) (σ (29 + 4 * 0)) (σ (29 + 4 * 0 + 1)) (σ (29 + 4 * 0 + 2)) (σ (29 + 4 * 0 + 3)) = V at hc ⊢
        obtain ⟨w9, ⟨w4, w5, w0, w1, w3, w2, w7⟩, ⟨b0, b1⟩, hV, _⟩ := hc
        obtain ⟨a, _, ha9, ea⟩ := hA p hp
        obtain ⟨e, w, hew, hw20, eV, ew⟩ := hV s hs
        obtain ⟨lv, _, hlv, elv⟩ := b0
        obtain ⟨rn, _, hrn, ern⟩ := b1
        obtain ⟨sp, _, hsp2, esp⟩ := hsp
        have eF := aloneN_f (ow := μ 2) (wt := μ 3) (ar := μ 1) (N := μ 6) (sp := μ 0 2) (p := p) (s := s) (w := w) (a := a) (sp1 := sp) (e := e) (lv := lv) (rn := rn) (by omega) (by omega) (by rw [(a11 s hs).2.1]; exact ew) (by rw [a10 p hp]; exact ea) (by rw [a6]; exact esp) (by rw [← w9 s (by omega)]; exact eV) (by rw [← w0]; exact elv) (by rw [← w1]; exact ern) (by omega) (by omega) (by omega) (by omega) (by omega) (by omega)
        rw [eF, (a11 s hs).1, nI_clamp (by omega), nI_clamp (by omega), ← w4, ← w5]
        unfold nfR
        by_cases h4 : hasB (O 4) (nI s)
        · rw [if_pos h4, if_pos ((hasB_or (by omega)).mpr (Or.inl h4))]
        · rw [if_neg h4]
          by_cases h5 : hasB (O 5) (nI s)
          · rw [if_pos ((hasB_or (by omega)).mpr (Or.inr h5))]
            exact na_vow (by omega) 61 0 O V h5 h4
          · have hB : ¬ hasB (O 4 ||| O 5) (nI s) := fun q => by
              rcases (hasB_or (by omega)).mp q with q | q
              · exact h4 q
              · exact h5 q
            rw [if_neg hB]
            exact na_out ea ew ha9 hw20 (by omega) esp hsp2 61 0 e lv rn O V elv ern eV hew hlv hrn hB
      · rw [if_neg c2, if_neg c2]
    · rw [if_neg c, if_neg c]
  · unfold T_X8_alone
    repeat' split
    all_goals first | rfl | rw [va_Q (by omega), va_Q (by omega), va_Q (by omega), va_Q (by omega), va_Q (by omega), va_Q (by omega)]
end OA
