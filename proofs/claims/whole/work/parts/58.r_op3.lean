section OS
variable {y z k n nx ct len t sd : Nat} {σ μ : Nat → Nat → Int32} {v w x : Int32}
theorem Rl.w0 (h : Rl y z k n nx ct len t sd σ μ) : WR k n (σ (y + 3)) (μ 6) (σ (29 + 4 * 0)) (σ (29 + 4 * 0 + 1)) (σ (29 + 4 * 0 + 2)) (σ (29 + 4 * 0 + 3)) := h.2.2.2.1
theorem fre_e (h : Rl y z k n nx ct len t sd σ μ) : R_X9_free μ = ((((1 : Int32) <<< (nI n &&& 31)) - 1) &&& ((σ (29 + 4 * 0) 4 ||| σ (29 + 4 * 0) 5) ^^^ (-1))) := by
  have w4 := h.w0.2.1.1
  have w5 := h.w0.2.1.2.1
  obtain ⟨_, ⟨_, ⟨a2, a3, a4, a5, a6, a7, a8, a9⟩, _, _⟩, _⟩ := h
  unfold R_X9_free
  rw [a8, w4, w5]
theorem cost_e (h : Rl y z k n nx ct len t sd σ μ) (u : Int32) : sumN (fun j => μ 3 j - μ 6 j) u n = sumN (fun j => σ (y + 3) j - σ (29 + 4 * 0 + 1) j) u n := by
  have hn := h.hn
  have w9 := h.w0.1
  have a11 := h.2.1.2.2.2
  exact sumN_cg n (fun j hj => by
    show μ 3 j - μ 6 j = σ (y + 3) j - σ (29 + 4 * 0 + 1) j
    rw [(a11 j hj).2.1, w9 j (by omega)])
theorem cost_b (h : Rl y z k n nx ct len t sd σ μ) (u : Int32) : sumN (fun j => σ (y + 3) j - σ (29 + 4 * 0 + 1) j) u n < 1000000 := by
  have hn := h.hn
  have b := sum_t (f := fun j => σ (y + 3) j - σ (29 + 4 * 0 + 1) j) (u := u) (lo := 0) (hi := 20) n hn (by omega) (by omega) (fun j hj => by
    obtain ⟨e, w, g1, g2, g3, g4⟩ := h.w0.2.2.2.1 j hj
    show 0 ≤ (σ (y + 3) j - σ (29 + 4 * 0 + 1) j).toInt ∧ (σ (y + 3) j - σ (29 + 4 * 0 + 1) j).toInt ≤ 20
    rw [g4, g3, pk_sub (by omega), nI_toInt (by omega)]
    omega)
  rw [Int32.lt_iff_toInt_lt]
  have e : (1000000 : Int32).toInt = 1000000 := by decide
  omega
theorem gd_e (h : Rl y z k n nx ct len t sd σ μ) {c : Nat} (hc : c < 2 ^ n) : (nI c &&& (R_X9_free μ ^^^ (-1)) = 0 ∧ v &&& (holdN (μ 5) (μ 6 10 ||| nI c) n ^^^ (-1)) = 0 ∧ w &&& holdN (μ 5) (μ 6 10 ||| nI c) n = 0) ↔ gdX (σ (y + 5)) (σ (29 + 4 * 0)) n v w c = true := by
  have w4 := h.w0.2.1.1
  rw [fre_e h, free_e h.hn hc, sub_e, and_cm w, ← holdN_cg n h.fr5, ← w4]
  unfold gdX
  exact decide_eq_true_iff.symm
theorem nI_nm1 {c : Nat} (hc : c < 2 ^ 31) : ¬ nI c = -1 := fun q => by
  have e := congrArg Int32.toInt q
  rw [nI_toInt hc] at e
  have e2 : (-1 : Int32).toInt = -1 := by decide
  rw [e2] at e
  omega
theorem op_state (h : Rl y z k n nx ct len t sd σ μ) : R_X8_state σ y n v w x = R_X9_state μ n v w x := by
  have hn := h.hn
  have hm : 2 ^ n ≤ 1024 := pow_le hn
  have h1 : ∀ c, c < 2 ^ n → gdX (σ (y + 5)) (σ (29 + 4 * 0)) n v w c = true → stC (μ 3) (μ 5) (μ 6) (R_X9_free μ) n v w c = cpX (σ (y + 3)) (σ (29 + 4 * 0 + 1)) n c := fun c hc hg => by
    unfold stC; rw [if_pos ((gd_e h hc).mpr hg)]; exact cost_e h _
  have h2 : ∀ c, c < 2 ^ n → ¬ gdX (σ (y + 5)) (σ (29 + 4 * 0)) n v w c = true → stC (μ 3) (μ 5) (μ 6) (R_X9_free μ) n v w c = 1000000 := fun c hc hg => by
    unfold stC; rw [if_neg (fun q => hg ((gd_e h hc).mp q))]
  have h3 : ∀ c, c < 2 ^ n → cpX (σ (y + 3)) (σ (29 + 4 * 0 + 1)) n c < 1000000 := fun c _ => cost_b h (nI c)
  obtain ⟨E1, E2⟩ := state_e (2 ^ n) hm h1 h2 h3
  unfold R_X8_state R_X9_state
  by_cases c1 : 0 ≤ v ∧ ¬ nI (2 ^ n) ≤ v
  · rw [if_pos c1, if_pos c1]
    by_cases c2 : 0 ≤ w ∧ ¬ nI (2 ^ n) ≤ w
    · rw [if_pos c2, if_pos c2]
      by_cases c3 : x < 0
      · rw [if_pos c3, if_neg (fun q => Int32.not_le.mpr c3 q.1)]
      · rw [if_neg c3]
        by_cases c4 : x ≤ 1
        · rw [if_pos c4, if_pos (c := 0 ≤ x ∧ x ≤ 1) ⟨Int32.not_lt.mp c3, c4⟩, ← E1]
          rcases E2 with ⟨e1, e2⟩ | ⟨c, hc, e1, e2, e3⟩
          · rw [e1, if_pos rfl, if_pos (by decide)]
          · have q1 : ¬ nI c = -1 := nI_nm1 (by omega)
            have q2 : ¬ nI c < 0 := nI_nlt (b := 0) (Nat.zero_le c) (by omega)
            rw [e1, if_neg q1, if_neg q2, e3]; rfl
        · rw [if_neg c4, if_neg (fun q => c4 q.2)]
    · rw [if_neg c2, if_neg c2]
  · rw [if_neg c1, if_neg c1]
theorem wob : ∀ v, v < 100 → -50 ≤ (nI v - 50).toInt ∧ (nI v - 50).toInt ≤ 49 := by decide +kernel
theorem wos_e (h : Rl y z k n nx ct len t sd σ μ) (u : Int32) : sumN (fun j => μ 4 j - 50) u n = sumN (σ (y + 4)) u n := by
  have a11 := h.2.1.2.2.2
  exact sumN_cg n (fun j hj => by
    show μ 4 j - 50 = σ (y + 4) j
    rw [(a11 j hj).2.2.1]; simp)
theorem gb_e (h : Rl y z k n nx ct len t sd σ μ) {c : Nat} (hc : c < 2 ^ n) : (nI c &&& (R_X9_free μ ^^^ (-1)) = 0 ∧ ¬ v < sumN (fun j => μ 3 j - μ 6 j) (nI c) n) ↔ gbX (σ (y + 3)) (σ (29 + 4 * 0)) (σ (29 + 4 * 0 + 1)) n v c = true := by
  rw [fre_e h, free_e h.hn hc, cost_e h]
  unfold gbX
  exact decide_eq_true_iff.symm
theorem op_best (h : Rl y z k n nx ct len t sd σ μ) : R_X8_best σ y n v w = R_X9_best μ n v w := by
  have hn := h.hn
  have w4 := h.w0.2.1.1
  have hm : 2 ^ n ≤ 1024 := pow_le hn
  have hp := two_pos n
  have hf0 : wbX (σ (y + 4)) (σ (y + 5)) (σ (29 + 4 * 0)) n 0 = sumN (σ (y + 4)) (holdN (σ (y + 5)) ((σ (29 + 4 * 0)) 4 ||| 0) n) n := by unfold wbX; rw [nI_0]
  have em0 : sumN (fun j => μ 4 j - 50) (holdN (μ 5) (μ 6 10) n) n = sumN (σ (y + 4)) (holdN (σ (y + 5)) ((σ (29 + 4 * 0)) 4 ||| 0) n) n := by
    rw [or_0, wos_e h, w4, holdN_cg n h.fr5]
  have h1 : ∀ c, 0 < c → c ≤ 2 ^ n - 1 → gbX (σ (y + 3)) (σ (29 + 4 * 0)) (σ (29 + 4 * 0 + 1)) n v c = true → beV (μ 4) (μ 3) (μ 5) (μ 6) (R_X9_free μ) n v c = wbX (σ (y + 4)) (σ (y + 5)) (σ (29 + 4 * 0)) n c := fun c _ hc hg => by
    unfold beV wbX; rw [if_pos ((gb_e h (by omega)).mpr hg), wos_e h, w4, holdN_cg n h.fr5]
  have h2 : ∀ c, 0 < c → c ≤ 2 ^ n - 1 → ¬ gbX (σ (y + 3)) (σ (29 + 4 * 0)) (σ (29 + 4 * 0 + 1)) n v c = true → beV (μ 4) (μ 3) (μ 5) (μ 6) (R_X9_free μ) n v c = -1000000 := fun c _ hc hg => by
    unfold beV; rw [if_neg (fun q => hg ((gb_e h (by omega)).mp q))]
  have h3 : ∀ c, c ≤ 2 ^ n - 1 → (-1000000) < wbX (σ (y + 4)) (σ (y + 5)) (σ (29 + 4 * 0)) n c := fun c _ => by
    have b := sum_t (f := σ (y + 4)) (u := holdN (σ (y + 5)) ((σ (29 + 4 * 0)) 4 ||| nI c) n) (lo := -50) (hi := 49) n hn (by omega) (by omega) (fun j hj => by
      obtain ⟨v, hv, ev⟩ := (h.2.1.1.2.2 j hj).2.2.1
      rw [ev]; exact wob v (by omega))
    rw [Int32.lt_iff_toInt_lt]
    have e : (-1000000 : Int32).toInt = -1000000 := by decide
    unfold wbX
    omega
  obtain ⟨E1, c, hc, e1, e2⟩ := best_e (2 ^ n - 1) hf0 h1 h2 h3
  unfold R_X8_best R_X9_best
  by_cases c1 : v < 0
  · rw [if_pos c1, if_neg (fun q => Int32.not_le.mpr c1 q.1)]
  · rw [if_neg c1]
    by_cases c2 : 99 < v
    · rw [if_pos c2, if_neg (fun q => Int32.not_le.mpr c2 q.2)]
    · rw [if_neg c2, if_pos (c := 0 ≤ v ∧ v ≤ 99) ⟨Int32.not_lt.mp c1, Int32.not_lt.mp c2⟩]
      by_cases c3 : w < 0
      · rw [if_pos c3, if_neg (fun q => Int32.not_le.mpr c3 q.1)]
      · rw [if_neg c3]
        by_cases c4 : w ≤ 1
        · rw [if_pos c4, if_pos (c := 0 ≤ w ∧ w ≤ 1) ⟨Int32.not_lt.mp c3, c4⟩, em0, ← E1, e1, e2]
          obtain ⟨j, hj, rfl⟩ := nI_rng3 (n := 1) (by decide) ⟨Int32.not_lt.mp c3, c4⟩
          rcases (show j = 0 ∨ j = 1 by omega) with rfl | rfl
          · rw [if_neg (show ¬ nI 0 = (1 : Int32) by decide), if_pos (show nI 0 = (0 : Int32) by decide)]; rfl
          · rw [if_pos (show nI 1 = (1 : Int32) by decide), if_neg (show ¬ nI 1 = (0 : Int32) by decide)]
        · rw [if_neg c4, if_neg (fun q => c4 q.2)]
theorem op_was (h : Rl y z k n nx ct len t sd σ μ) : R_X8_wasUnsaid σ y n v w x = R_X9_wasUnsaid μ n v w x ∧ Rel y z (T_X8_wasUnsaid σ y n v w x) μ := by
  refine ⟨?_, Rl.rel (h.g1 (fun r _ r1 r2 _ => ?_) (fun _ _ => rfl))⟩
  · have hn := h.hn
    have a11 := h.2.1.2.2.2
    have hm : 2 ^ n ≤ 1024 := pow_le hn
    have hg : ∀ c, c < 2 ^ n → (goX (σ (y + 3)) (σ (y + 5)) n v w c = true ↔ cb (μ 3) (μ 5) n v w (nI c)) := fun c _ => go_cb hn (fun j hj => (a11 j hj).2.1.symm) h.fr5
    obtain ⟨G0, G1, q, hq, Gq, Gz, Gp⟩ := ga_cnt (R0 := upd (upd (σ 27) 0 0) 1 (-1)) (2 ^ n) hm hg rfl rfl
    unfold R_X8_wasUnsaid R_X9_wasUnsaid
    by_cases c1 : 0 ≤ v ∧ ¬ nI (2 ^ n) ≤ v
    · rw [if_pos c1, if_pos c1]
      by_cases c2 : w < 0
      · rw [if_pos c2, if_neg (fun q => Int32.not_le.mpr c2 q.1)]
      · rw [if_neg c2]
        by_cases c3 : 200 < w
        · rw [if_pos c3, if_neg (fun q => Int32.not_le.mpr c3 q.2)]
        · rw [if_neg c3, if_pos (c := 0 ≤ w ∧ w ≤ 200) ⟨Int32.not_lt.mp c2, Int32.not_lt.mp c3⟩]
          by_cases c4 : x < 0
          · rw [if_pos c4, if_neg (fun q => Int32.not_le.mpr c4 q.1)]
          · rw [if_neg c4]
            by_cases c5 : x ≤ 2
            · rw [if_pos c5, if_pos (c := 0 ≤ x ∧ x ≤ 2) ⟨Int32.not_lt.mp c4, c5⟩]
              obtain ⟨j, hj, rfl⟩ := nI_rng3 (n := 2) (by decide) ⟨Int32.not_lt.mp c4, c5⟩
              rcases (show j = 0 ∨ j = 1 ∨ j = 2 by omega) with rfl | rfl | rfl
              · rw [if_pos (show nI 0 = (0 : Int32) by decide), if_pos (show nI 0 = (0 : Int32) by decide)]; exact G0
              · rw [if_neg (show ¬ nI 1 = (0 : Int32) by decide), if_neg (show ¬ nI 1 = (0 : Int32) by decide), if_pos (show nI 1 = (1 : Int32) by decide), if_pos (show nI 1 = (1 : Int32) by decide)]
                by_cases q0 : q = 0
                · rw [if_pos (by rw [Gq, q0]; rfl)]; exact (Gz q0).symm
                · rw [if_neg (by rw [Gq]; exact nI_ne0 (by omega) (by omega))]; exact G1
              · rw [if_neg (show ¬ nI 2 = (0 : Int32) by decide), if_neg (show ¬ nI 2 = (0 : Int32) by decide), if_neg (show ¬ nI 2 = (1 : Int32) by decide), if_neg (show ¬ nI 2 = (1 : Int32) by decide)]
                rw [frog_e (f := fun s => manN (μ 3) (μ 5) n v w ((1 : Int32) <<< (nI s &&& 31)) (2 ^ n)) Gq (by omega) n (fun s hs => ⟨ga_with (by omega) (2 ^ n) hg (by unfold zrN; rw [if_pos (by omega)]), ?_⟩), G0]
                obtain ⟨b, hb, eb⟩ := man_rng (wt := μ 3) (fr := μ 5) (n := n) (h := v) (x := w) ((1 : Int32) <<< (nI s &&& 31)) (2 ^ n)
                exact ⟨b, by omega, eb⟩
            · rw [if_neg c5, if_neg (fun q => c5 q.2)]
    · rw [if_neg c1, if_neg c1]
  · unfold T_X8_wasUnsaid
    repeat' split
    all_goals first | rfl | rw [va_Q r2, va_Q r1]
end OS
