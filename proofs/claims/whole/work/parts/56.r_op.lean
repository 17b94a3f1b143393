section OP
variable {y z k n nx ct len t sd nx' ct' len' t' sd' : Nat} {σ μ σ' μ' : Nat → Nat → Int32} {v w x : Int32}
theorem Rl.g2 (h : Rl y z k n nx ct len t sd σ μ) (h1 : ∀ r, r ≠ 1 → r ≠ 2 → r ≠ 19 → r ≠ 20 → r ≠ 21 → r ≠ 22 → σ' r = σ r) (h2 : ∀ r, r ≠ 0 → r ≠ 7 → r ≠ 15 → r ≠ 16 → μ' r = μ r) (h3 : ∀ j, j ≠ 12 → j ≠ 14 → j ≠ 15 → j ≠ 33 → μ' 0 j = μ 0 j) (ht : RT len' (σ' 1) (σ' 2) (μ' 0) (μ' 7)) (hb : RB t' (σ' 19) (σ' 20) (σ' 21) (μ' 0) (μ' 15) (μ' 16)) (hs : RS sd' (σ' 22) (μ' 0)) : Rl y z k n nx ct len' t' sd' σ' μ' := by
  have hy := h.yz
  obtain ⟨h0, a, b, c, d, e, f, g⟩ := h
  have k1 : ∀ r, (3 ≤ r ∧ r ≤ 18) ∨ 23 ≤ r → σ' r = σ r := fun r q => h1 r (by omega) (by omega) (by omega) (by omega) (by omega) (by omega)
  have hwt : σ' (y + 3) = σ (y + 3) := k1 _ (by omega)
  refine ⟨h0, ?_, ht, c.fr hwt (h2 6 (by decide) (by decide) (by decide) (by decide)) (fun r r1 r2 => k1 r (by omega)), d.fr hwt (k1 17 (by omega)) (fun r r1 r2 => k1 r (by omega)) (h3 31 (by decide) (by decide) (by decide) (by decide)) (h2 14 (by decide) (by decide) (by decide) (by decide)), hb, hs, g.fr hwt (k1 25 (by omega)) (k1 26 (by omega)) (fun r r1 r2 => k1 r (by omega)) (h2 17 (by decide) (by decide) (by decide) (by decide)) (h2 18 (by decide) (by decide) (by decide) (by decide))⟩
  obtain ⟨a1, ⟨a2, a3, a4, a5, a6, a7, a8, a9⟩, a10, a11⟩ := a
  rw [hwt, k1 y (by omega), k1 (y + 1) (by omega), k1 (y + 2) (by omega), k1 (y + 4) (by omega), k1 (y + 5) (by omega), h2 1 (by decide) (by decide) (by decide) (by decide), h2 2 (by decide) (by decide) (by decide) (by decide), h2 3 (by decide) (by decide) (by decide) (by decide), h2 4 (by decide) (by decide) (by decide) (by decide), h2 5 (by decide) (by decide) (by decide) (by decide)]
  exact ⟨a1, ⟨a2, a3, a4, by rw [h3 0 (by decide) (by decide) (by decide) (by decide)]; exact a5, by rw [h3 2 (by decide) (by decide) (by decide) (by decide)]; exact a6, by rw [h3 3 (by decide) (by decide) (by decide) (by decide)]; exact a7, by rw [h3 5 (by decide) (by decide) (by decide) (by decide)]; exact a8, by rw [h3 9 (by decide) (by decide) (by decide) (by decide)]; exact a9⟩, a10, a11⟩
theorem Rl.g4 (h : Rl y z k n nx ct len t sd σ μ) (h1 : ∀ r, r ≠ 17 → r ≠ 22 → r ≠ 25 → r ≠ 26 → ¬ (29 ≤ r ∧ r ≤ 32) → ¬ 37 ≤ r → σ' r = σ r) (h2 : ∀ r, r ≠ 0 → r ≠ 6 → r ≠ 14 → r ≠ 17 → r ≠ 18 → μ' r = μ r) (h3 : ∀ j, j ≠ 12 → j ≠ 31 → μ' 0 j = μ 0 j) (hs : RS sd' (σ' 22) (μ' 0)) (hw : WRs k n (σ (y + 3)) (μ' 6) σ' 0) (hp : RP k n nx' ct' (σ (y + 3)) σ' (μ' 0) (μ' 14)) (hi : RI k n (σ (y + 3)) σ' (μ' 17) (μ' 18)) : Rl y z k n nx' ct' len t sd' σ' μ' := by
  have hy := h.yz
  obtain ⟨h0, a, b, c, d, e, f, g⟩ := h
  have k1 : ∀ r, r ≤ 21 → r ≠ 17 → σ' r = σ r := fun r q q2 => h1 r q2 (by omega) (by omega) (by omega) (by omega) (by omega)
  have hwt : σ' (y + 3) = σ (y + 3) := k1 _ (by omega) (by omega)
  refine ⟨h0, ?_, ?_, by rw [hwt]; exact hw, by rw [hwt]; exact hp, ?_, hs, by rw [hwt]; exact hi⟩
  · obtain ⟨a1, ⟨a2, a3, a4, a5, a6, a7, a8, a9⟩, a10, a11⟩ := a
    rw [hwt, k1 y (by omega) (by omega), k1 (y + 1) (by omega) (by omega), k1 (y + 2) (by omega) (by omega), k1 (y + 4) (by omega) (by omega), k1 (y + 5) (by omega) (by omega), h2 1 (by decide) (by decide) (by decide) (by decide) (by decide), h2 2 (by decide) (by decide) (by decide) (by decide) (by decide), h2 3 (by decide) (by decide) (by decide) (by decide) (by decide), h2 4 (by decide) (by decide) (by decide) (by decide) (by decide), h2 5 (by decide) (by decide) (by decide) (by decide) (by decide)]
    exact ⟨a1, ⟨a2, a3, a4, by rw [h3 0 (by decide) (by decide)]; exact a5, by rw [h3 2 (by decide) (by decide)]; exact a6, by rw [h3 3 (by decide) (by decide)]; exact a7, by rw [h3 5 (by decide) (by decide)]; exact a8, by rw [h3 9 (by decide) (by decide)]; exact a9⟩, a10, a11⟩
  · obtain ⟨b1, b2, b3, b4, b5, b6⟩ := b
    rw [k1 1 (by decide) (by decide), k1 2 (by decide) (by decide), h2 7 (by decide) (by decide) (by decide) (by decide) (by decide)]
    exact ⟨b1, b2, by rw [h3 14 (by decide) (by decide)]; exact b3, by rw [h3 15 (by decide) (by decide)]; exact b4, b5, b6⟩
  · obtain ⟨b1, b2, b3, b4⟩ := e
    rw [k1 19 (by decide) (by decide), k1 20 (by decide) (by decide), k1 21 (by decide) (by decide), h2 15 (by decide) (by decide) (by decide) (by decide) (by decide), h2 16 (by decide) (by decide) (by decide) (by decide) (by decide)]
    exact ⟨b1, b2, by rw [h3 33 (by decide) (by decide)]; exact b3, b4⟩
theorem Rl.rel (h : Rl y z k n nx ct len t sd σ μ) : Rel y z σ μ := ⟨k, n, nx, ct, len, t, sd, h⟩
theorem Rl.hn (h : Rl y z k n nx ct len t sd σ μ) : n ≤ 10 := h.2.1.1.1.2.1
theorem Rl.hk (h : Rl y z k n nx ct len t sd σ μ) : k ≤ 5 := h.2.1.1.1.1
theorem Rl.fr5 (h : Rl y z k n nx ct len t sd σ μ) : ∀ j, j < n → σ (y + 5) j = μ 5 j := fun j hj => (h.2.1.2.2.2 j hj).2.2.2.symm
theorem op_fault (h : Rl y z k n nx ct len t sd σ μ) : R_X8_fault σ = R_X9_fault μ := h.2.2.1.2.2.2.1
theorem op_feed (h : Rl y z k n nx ct len t sd σ μ) : R_X8_feed σ len v = R_X9_feed μ len v ∧ Rel y z (T_X8_feed σ len v) (T_X9_feed μ len v) := by
  obtain ⟨b1, b2, b3, b4, b5, b6⟩ := h.2.2.1
  have hb := h.2.2.2.2.2.1
  have hs := h.2.2.2.2.2.2.1
  unfold R_X8_feed R_X9_feed T_X8_feed T_X9_feed
  by_cases c1 : v < 0
  · have c0 : ¬ (0 ≤ v ∧ v ≤ 255) := fun q => Int32.not_le.mpr c1 q.1
    rw [if_pos c1, if_neg c0, if_pos c1, if_neg c0]; exact ⟨rfl, h.rel⟩
  · by_cases c2 : v ≤ 255
    · have c0 : 0 ≤ v ∧ v ≤ 255 := ⟨Int32.not_lt.mp c1, c2⟩
      rw [if_neg c1, if_pos c2, if_pos c0, if_neg c1, if_pos c2, if_pos c0, ite_self]
      by_cases hl : len = 240
      · have q1 : ¬ nI len < 240 := nI_nlt (b := 240) (by omega) (by omega)
        have q2 : nI len = 240 := by rw [hl]; rfl
        have e1 : R_X4_add (σ 1) (σ 2) len v = 0 := if_neg q1
        rw [if_pos e1, if_pos q2, if_pos q2, show T_X4_add_RD (σ 1) (σ 2) len v = σ 1 from if_neg q1, show T_X4_add_tx (σ 1) (σ 2) len v = σ 2 from if_neg q1, va_self, va_self]
        exact ⟨rfl, h.rel⟩
      · have q1 : nI len < 240 := nI_lt (b := 240) (by omega) (by decide)
        have q2 : ¬ nI len = 240 := fun q => hl ((nI_eq (b := 240) (by omega) (by decide)).mp q)
        have e1 : R_X4_add (σ 1) (σ 2) len v = 1 := if_pos q1
        rw [if_neg (by rw [e1]; decide), if_neg q2, if_neg q2, show T_X4_add_RD (σ 1) (σ 2) len v = upd (σ 1) 1 (nI len + 1) from if_pos q1, show T_X4_add_tx (σ 1) (σ 2) len v = upd (σ 2) len v from if_pos q1]
        refine ⟨rfl, Rl.rel (Rl.g2 (len' := len + 1) h (fun r r1 r2 _ _ _ _ => by rw [va_Q r2, va_Q r1]) (fun r r1 r2 _ _ => by rw [up2_Q r1, up2_Q r2]) (fun j _ j2 _ _ => by rw [up2_K j2, up2_Q (by decide)]) ⟨by omega, nI_1 len, nI_1 len, b4, ?_, fun j hj => ?_⟩ hb hs)⟩
        · show upd (μ 7) len v = upd (σ 2) len v
          rw [b5]
        · show 0 ≤ upd (σ 2) len v j
          by_cases e : j = len
          · rw [e, upd_eq]; exact c0.1
          · rw [upd_ne _ _ e]; exact b6 j (by omega)
    · have c0 : ¬ (0 ≤ v ∧ v ≤ 255) := fun q => c2 q.2
      rw [if_neg c1, if_neg c2, if_neg c0, if_neg c1, if_neg c2, if_neg c0]; exact ⟨rfl, h.rel⟩
theorem op_seed (h : Rl y z k n nx ct len t sd σ μ) : R_X8_seed σ v = R_X9_seed μ v ∧ Rel y z (T_X8_seed σ v) (T_X9_seed μ v) := by
  have hb := h.2.2.2.2.2.1
  have ht := h.2.2.1
  obtain ⟨s1, s2, s3⟩ := h.2.2.2.2.2.2.1
  unfold R_X8_seed R_X9_seed T_X8_seed T_X9_seed
  by_cases c1 : 0 ≤ v
  · rw [if_pos c1, if_pos c1, if_pos c1, if_pos c1]
    obtain ⟨j, hj, e⟩ := nI_of (Int32.not_lt.mpr c1)
    exact ⟨s2.trans s3.symm, Rl.rel (Rl.g2 (sd' := j) h (fun r _ _ _ _ _ r6 => up2_Q r6) (fun r r1 _ _ _ => up2_Q r1) (fun i j1 _ _ _ => up2_K j1) ht hb ⟨hj, e, e⟩)⟩
  · rw [if_neg c1, if_neg c1, if_neg c1, if_neg c1]
    exact ⟨rfl, h.rel⟩
theorem op_tear (h : Rl y z k n nx ct len t sd σ μ) : R_X8_tear σ = R_X9_tear μ ∧ Rel y z (T_X8_tear σ) (T_X9_tear μ) := by
  have ht := h.2.2.1
  have hs := h.2.2.2.2.2.2.1
  obtain ⟨b1, b2, b3, b4⟩ := h.2.2.2.2.2.1
  exact ⟨b2.trans b3.symm, Rl.rel (Rl.g2 (t' := 0) h (fun r _ _ r3 _ _ _ => up2_Q r3) (fun r r1 _ _ _ => up2_Q r1) (fun i _ _ _ j4 => up2_K j4) ht ⟨by omega, rfl, rfl, fun j hj => absurd hj (by omega)⟩ hs)⟩
theorem op_write (h : Rl y z k n nx ct len t sd σ μ) : R_X8_write σ n t v w = R_X9_write μ n t v w ∧ Rel y z (T_X8_write σ n t v w) (T_X9_write μ n t v w) := by
  have ht := h.2.2.1
  have hs := h.2.2.2.2.2.2.1
  obtain ⟨b1, b2, b3, b4⟩ := h.2.2.2.2.2.1
  unfold R_X8_write R_X9_write T_X8_write T_X9_write
  by_cases c : 0 ≤ v ∧ ¬ nI n ≤ v
  · rw [if_pos c, if_pos c, if_pos c, if_pos c, ite_self]
    by_cases hl : t = 15
    · have q1 : ¬ nI t < 15 := nI_nlt (b := 15) (by omega) (by omega)
      have q2 : nI t = 15 := by rw [hl]; rfl
      have e1 : R_X0_add (σ 19) (σ 20) (σ 21) t v w = 0 := if_neg q1
      rw [if_pos e1, if_pos q2, if_pos q2, show T_X0_add_B (σ 19) (σ 20) (σ 21) t v w = σ 19 from if_neg q1, show T_X0_add_BS (σ 19) (σ 20) (σ 21) t v w = σ 20 from if_neg q1, show T_X0_add_BH (σ 19) (σ 20) (σ 21) t v w = σ 21 from if_neg q1, va_self, va_self, va_self]
      exact ⟨rfl, h.rel⟩
    · have q1 : nI t < 15 := nI_lt (b := 15) (by omega) (by decide)
      have q2 : ¬ nI t = 15 := fun q => hl ((nI_eq (b := 15) (by omega) (by decide)).mp q)
      have e1 : R_X0_add (σ 19) (σ 20) (σ 21) t v w = 1 := if_pos q1
      rw [if_neg (by rw [e1]; decide), if_neg q2, if_neg q2, show T_X0_add_B (σ 19) (σ 20) (σ 21) t v w = upd (σ 19) 0 (nI t + 1) from if_pos q1, show T_X0_add_BS (σ 19) (σ 20) (σ 21) t v w = upd (σ 20) t v from if_pos q1, show T_X0_add_BH (σ 19) (σ 20) (σ 21) t v w = upd (σ 21) t w from if_pos q1]
      refine ⟨rfl, Rl.rel (Rl.g2 (t' := t + 1) h (fun r _ _ r3 r4 r5 _ => by rw [va_Q r5, va_Q r4, va_Q r3]) (fun r r1 _ r3 r4 => by rw [up2_Q r1, up2_Q r4, up2_Q r3]) (fun i _ _ _ j4 => by rw [up2_K j4, up2_Q (by decide), up2_Q (by decide)]) ht ⟨by omega, nI_1 t, nI_1 t, fun j hj => ?_⟩ hs)⟩
      show upd (σ 20) t v j = upd (μ 15) t v j ∧ upd (σ 21) t w j = upd (μ 16) t w j
      by_cases e : j = t
      · rw [e, upd_eq, upd_eq, upd_eq, upd_eq]; exact ⟨rfl, rfl⟩
      · rw [upd_ne _ _ e, upd_ne _ _ e, upd_ne _ _ e, upd_ne _ _ e]; exact b4 j (by omega)
  · rw [if_neg c, if_neg c, if_neg c, if_neg c]; exact ⟨rfl, h.rel⟩
theorem op_told (h : Rl y z k n nx ct len t sd σ μ) : R_X8_told σ y n v = R_X9_told μ n v := by
  obtain ⟨_, ⟨_, ⟨a2, a3, a4, a5, a6, a7, a8, a9⟩, a10, a11⟩, ⟨_, t2, t3, _⟩, ⟨_, ⟨w4, w5, w0, w1, w3, w2, w7⟩, _⟩, ⟨_, _, _, p1, p2, _⟩, ⟨_, b2, b3, _⟩, _⟩ := h
  have e0 : σ y 3 = μ 0 3 := a2.trans a7.symm
  have e1 : σ y 5 = μ 0 5 := a3.trans a8.symm
  have e3 : σ 1 1 = μ 0 14 := t2.trans t3.symm
  have e14 : σ 19 0 = μ 0 33 := b2.trans b3.symm
  have e15 : σ 17 2 = μ 0 31 := p1.trans p2.symm
  have eh : ∀ u, holdN (σ (y + 5)) u n = holdN (μ 5) u n := fun u => holdN_cg n (fun j hj => (a11 j hj).2.2.2.symm)
  have ev : ∀ u, heavN (σ (y + 5)) u n n = heavN (μ 5) u n n := fun u => heavN_cg n n (fun j hj => (a11 j hj).2.2.2.symm)
  have es : ∀ u, sumN (σ (y + 4)) u n = sumN (fun j => μ 4 j - 50) u n := fun u => sumN_cg n (fun j hj => by
    show σ (y + 4) j = μ 4 j - 50
    rw [(a11 j hj).2.2.1]; simp)
  unfold R_X8_told R_X9_told
  rw [e0, e1, e3, e14, e15, eh, ev, es, w4, w5, w0, w1, w3, w2, w7, a6, a9]
theorem op_judge (h : Rl y z k n nx ct len t sd σ μ) : R_X8_judge σ y n t = judN (holdN (μ 5) (μ 6 10) n) (μ 15) (μ 16) t 0 := by
  obtain ⟨_, ⟨_, _, a10, a11⟩, _, ⟨_, ⟨w4, _⟩, _⟩, _, ⟨_, b2, b3, b4⟩, _⟩ := h
  unfold R_X8_judge
  rw [holdN_cg n (fun j hj => (a11 j hj).2.2.2.symm), w4]
  exact judN_cg t 0 (fun j hj => b4 j (by omega))
theorem op_saying (h : Rl y z k n nx ct len t sd σ μ) : R_X8_saying σ y n v w = R_X9_saying μ n v w ∧ Rel y z (T_X8_saying σ y n v w) (T_X9_saying μ n v w) := by
  refine ⟨?_, Rl.rel (h.g1 (fun r r1 _ _ _ => ?_) (fun r r1 => ?_))⟩
  · have hn := h.hn
    obtain ⟨_, ⟨_, _, a10, a11⟩, _, ⟨w9, ⟨w4, w5, w0, w1, w3, w2, w7⟩, _⟩, _⟩ := h
    unfold R_X8_saying R_X9_saying
    by_cases c : 0 ≤ v ∧ ¬ nI n ≤ v
    · rw [if_pos c, if_pos c]
      obtain ⟨s, hs, rfl⟩ := nI_rng2 c (by omega)
      rw [nI_clamp (by omega)]
      obtain ⟨r1, r2, r3, r4⟩ := a11 s hs
      have e2 : σ (y + 4) s + 1000 = μ 4 s - 50 + 1000 := by rw [r3]; simp
      rw [← r1, ← r2, e2, w9 s (by omega), depth_e (g0 := σ (y + 6)) (g1 := μ 13) (by omega) (fun j hj => (a11 j (by omega)).2.2.2.symm), roots_e (fr' := μ 5) (by omega) 0 n hs hn (fun j hj => (a11 j (by omega)).2.2.2.symm), fallN_cg n (fun j hj => (a11 j hj).2.2.2.symm), w4, ← r4]
    · rw [if_neg c, if_neg c]
  · unfold T_X8_saying; repeat' split
    all_goals first | rfl | exact va_Q r1
  · unfold T_X9_saying; repeat' split
    all_goals first | rfl | exact va_Q r1
theorem all_ne {f : Nat → Int32} (m : Nat) (hm : m ≤ 5) (h : ∀ j, j < m → iN 1 9 (f j)) : ∃ a, m ≤ a ∧ a ≤ 9 * m ∧ allN f m = nI a := by
  induction m with
  | zero => exact ⟨0, by omega, by omega, rfl⟩
  | succ m ih =>
    obtain ⟨a, h1, h2, h3⟩ := ih (by omega) (fun j hj => h j (by omega))
    obtain ⟨b, g1, g2, g3⟩ := h m (by omega)
    exact ⟨a + b, by omega, by omega, by show allN f m + f m = _; rw [h3, g3, nI_add]⟩
theorem hallM (h : Rl y z k n nx ct len t sd σ μ) : 0 < k → ¬ allN (μ 1) k = 0 := by
  intro h0
  have hk := h.hk
  obtain ⟨_, ⟨⟨_, b2, _⟩, _, a10, _⟩, _⟩ := h
  rw [allN_cg k a10]
  obtain ⟨a, h1, h2, h3⟩ := all_ne k hk b2
  rw [h3]; exact nI_ne0 (by omega) (by omega)
theorem op_person (h : Rl y z k n nx ct len t sd σ μ) : R_X8_person σ y n k v w = R_X9_person μ n k v w := by
  have hn := h.hn
  have hk := h.hk
  have hall := hallM h
  obtain ⟨_, ⟨⟨_, _, b3⟩, _, a10, a11⟩, _, ⟨w9, ⟨w4, w5, w0, w1, w3, w2, w7⟩, _⟩, _⟩ := h
  unfold R_X8_person R_X9_person
  by_cases c : 0 ≤ v ∧ ¬ nI k ≤ v
  · rw [if_pos c, if_pos c]
    obtain ⟨p, hp, rfl⟩ := nI_rng2 c (by omega)
    rw [nI_clamp (by omega)]
    have hall2 := hall (by omega)
    rw [allN_cg k a10] at hall2
    rw [leans_e hn (fun j hj => (b3 j hj).2.2.2), if_neg hall2, a10 p hp, w0, saidN_cg n (fun j hj => (a11 j hj).1.symm), leanN_cg n (fun j hj => (a11 j hj).1.symm) (fun j hj => (a11 j hj).2.2.2.symm), ← allN_cg k a10, leftN_cg k a10]
  · rw [if_neg c, if_neg c]
theorem op_queued {q : Nat} (h : Rl y z k n nx ct len t sd σ μ) (hq : q ≤ 6) (eq : σ (29 + 4 * 0) 7 = nI q) : R_X8_queued σ q v w = R_X9_queued μ q v w := by
  have hn := h.hn
  have hk := h.hk
  obtain ⟨_, _, _, ⟨_, _, _, _, q0, hq0, e7, hQ⟩, _⟩ := h
  have e0 : q0 = q := (nI_eq (by omega) (by omega)).mp (e7.symm.trans eq)
  subst e0
  unfold R_X8_queued R_X9_queued
  by_cases c1 : w < 0
  · rw [if_pos c1, if_neg (fun q => Int32.not_le.mpr c1 q.1)]
  · rw [if_neg c1]
    by_cases c2 : w ≤ 1
    · rw [if_pos c2, if_pos (c := 0 ≤ w ∧ w ≤ 1) ⟨Int32.not_lt.mp c1, c2⟩]
      by_cases c3 : v < 0
      · rw [if_pos c3, if_neg (fun q => Int32.not_le.mpr c3 q.1)]
      · rw [if_neg c3]
        by_cases c4 : v < nI q0
        · have c5 : 0 ≤ v ∧ ¬ nI q0 ≤ v := ⟨Int32.not_lt.mp c3, Int32.not_le.mpr c4⟩
          rw [if_pos c4, if_pos c5]
          obtain ⟨i, hi, rfl⟩ := nI_rng2 c5 (by omega)
          rw [nI_clamp (by omega)]
          obtain ⟨p, s, g1, g2, g3, g4, g5⟩ := hQ i hi
          rw [g5, g3, g4, rm10 ⟨by omega, by omega⟩, dv10 ⟨by omega, by omega⟩]
        · rw [if_neg c4, if_neg (fun q => q.2 (Int32.not_lt.mp c4))]
    · rw [if_neg c2, if_neg (fun q => c2 q.2)]
theorem op_drought (h : Rl y z k n nx ct len t sd σ μ) : (if v < 0 then (-1000000002) else if v ≤ 99 then (if σ y 0 = 0 then (-1000000003) else drX v (σ y 2) (σ (29 + 4 * 0) 0) 100 0) else (-1000000002)) = (if 0 ≤ v ∧ v ≤ 99 then (if μ 0 0 = 0 then (-1000000003) else drtN v (μ 0 2) 100 0 (μ 6 12)) else (-1000000002)) := by
  obtain ⟨_, ⟨⟨⟨_, _, _, b4⟩, _⟩, ⟨_, _, _, a5, a6, _⟩, _⟩, _, ⟨_, ⟨_, _, w0, _⟩, ⟨⟨lv, _, hlv, elv⟩, _⟩, _⟩, _⟩ := h
  by_cases c1 : v < 0
  · rw [if_pos c1, if_neg (fun q => Int32.not_le.mpr c1 q.1)]
  · rw [if_neg c1]
    by_cases c2 : v ≤ 99
    · rw [if_pos c2, if_pos (c := 0 ≤ v ∧ v ≤ 99) ⟨Int32.not_lt.mp c1, c2⟩, a5, a6, ← w0]
      obtain ⟨j, hj, rfl⟩ := nI_rng3 (n := 99) (by decide) ⟨Int32.not_lt.mp c1, c2⟩
      obtain ⟨sp, _, hsp, esp⟩ := b4
      have hW : σ (29 + 4 * 0) 0 = nI lv := elv
      rw [hW, esp, dro_e (by omega) hsp hlv 100 0 (by omega), Nat.zero_mul, Nat.add_zero, Nat.min_eq_left hlv]
    · rw [if_neg c2, if_neg (fun q => c2 q.2)]
theorem op_rainy : R_X8_rainy σ v w = R_X9_rainy μ v w := by
  unfold R_X8_rainy R_X9_rainy
  by_cases c1 : v < 0
  · rw [if_pos c1, if_neg (fun q => Int32.not_le.mpr c1 q.1)]
  · rw [if_neg c1]
    by_cases c2 : 60 < v
    · rw [if_pos c2, if_neg (fun q => Int32.not_le.mpr c2 q.2)]
    · rw [if_neg c2, if_pos (c := 0 ≤ v ∧ v ≤ 60) ⟨Int32.not_lt.mp c1, Int32.not_lt.mp c2⟩]
      by_cases c3 : w < 0
      · rw [if_pos c3, if_neg (fun q => Int32.not_le.mpr c3 q.1)]
      · rw [if_neg c3]
        by_cases c4 : w ≤ 100
        · rw [if_pos c4, if_pos (c := 0 ≤ w ∧ w ≤ 100) ⟨Int32.not_lt.mp c3, c4⟩]
        · rw [if_neg c4, if_neg (fun q => c4 q.2)]
end OP
