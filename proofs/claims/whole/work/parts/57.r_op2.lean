section OQ
variable {y z k n nx ct len t sd : Nat} {σ μ : Nat → Nat → Int32} {v w x : Int32}
theorem Rl.hsd (h : Rl y z k n nx ct len t sd σ μ) : RS sd (σ 22) (μ 0) := h.2.2.2.2.2.2.1
theorem RS_rem (h : RS sd (σ 22) (μ 0)) : RS sd (remX σ nx ct 22) (remT μ ct 0) := by
  rw [remX_r σ (by decide) (by omega)]
  exact ⟨h.1, h.2.1, by rw [remT_0 μ ct (by decide)]; exact h.2.2⟩
theorem remX_w (i : Nat) (hi : 29 ≤ i ∧ i ≤ 32) : remX σ nx ct i = σ i := remX_r σ (by omega) (by omega)
theorem op_say (h : Rl y z k n nx ct len t sd σ μ) : R_X8_say σ n nx ct v = R_X9_say μ n ct v ∧ Rel y z (T_X8_say σ n nx ct v) (T_X9_say μ n ct v) := by
  have hn := h.hn
  unfold R_X8_say R_X9_say
  by_cases c : 0 ≤ v ∧ ¬ nI n ≤ v
  · obtain ⟨s, hs, rfl⟩ := nI_rng2 c (by omega)
    have e1 : T_X8_say σ n nx ct (nI s) = va_up (va_up (remX σ nx ct) (29 + 4 * 0) (T_X6_sayAgain_O (σ (29 + 4 * 0)) (σ (29 + 4 * 0 + 1)) s)) (29 + 4 * 0 + 1) (T_X6_sayAgain_V (σ (29 + 4 * 0)) (σ (29 + 4 * 0 + 1)) s) := by
      unfold T_X8_say; rw [if_pos c, nI_clamp (by omega)]; rfl
    have e2 : T_X9_say μ n ct (nI s) = va_up (remT μ ct) 6 (T_X9_sayNow (μ 6) s) := by
      unfold T_X9_say; rw [if_pos c, nI_clamp (by omega)]
    rw [if_pos c, if_pos c, nI_clamp (by omega), e1, e2]
    have hw : WR k n (σ (y + 3)) (μ 6) (σ (29 + 4 * 0)) (σ (29 + 4 * 0 + 1)) (σ (29 + 4 * 0 + 2)) (σ (29 + 4 * 0 + 3)) := h.2.2.2.1
    obtain ⟨q1, q2⟩ := hw.say hn hs
    refine ⟨q1.symm, h.g3 (sd' := sd) (fun r r1 r2 => by rw [va_Q (by omega), va_Q (by omega)]) (fun r r1 r2 => va_Q r2) (fun j _ => by rw [va_Q (by decide)]) ?_ ?_⟩
    · rw [va_Q (by decide), va_Q (by decide), va_Q (by decide)]; exact RS_rem h.hsd
    · unfold WRs
      show WR k n (σ (y + 3)) (T_X9_sayNow (μ 6) s) (T_X6_sayAgain_O (σ (29 + 4 * 0)) (σ (29 + 4 * 0 + 1)) s) (T_X6_sayAgain_V (σ (29 + 4 * 0)) (σ (29 + 4 * 0 + 1)) s) (remX σ nx ct (29 + 4 * 0 + 2)) (remX σ nx ct (29 + 4 * 0 + 3))
      rw [remX_w _ (by omega), remX_w _ (by omega)]
      exact q2
  · rw [if_neg c, if_neg c, show T_X8_say σ n nx ct v = σ from if_neg c, show T_X9_say μ n ct v = μ from if_neg c]
    exact ⟨rfl, h.rel⟩
theorem op_pour (h : Rl y z k n nx ct len t sd σ μ) : R_X8_pour σ y n k nx ct v w = R_X9_pour μ n k ct v w ∧ Rel y z (T_X8_pour σ y n k nx ct v w) (T_X9_pour μ n k ct v w) := by
  have hn := h.hn
  have hk := h.hk
  by_cases c : 0 ≤ v ∧ ¬ nI k ≤ v
  · by_cases c2 : 0 ≤ w ∧ ¬ nI n ≤ w
    · obtain ⟨p, hp, rfl⟩ := nI_rng2 c (by omega)
      obtain ⟨s, hs, rfl⟩ := nI_rng2 c2 (by omega)
      have hw : WR k n (σ (y + 3)) (μ 6) (σ (29 + 4 * 0)) (σ (29 + 4 * 0 + 1)) (σ (29 + 4 * 0 + 2)) (σ (29 + 4 * 0 + 3)) := h.2.2.2.1
      obtain ⟨⟨_, b2, _⟩, _, a10, a11⟩ := h.2.1
      obtain ⟨q0, q1, q2⟩ := hw.pour (m1 := μ 1) (m2 := μ 2) (m3 := μ 3) hn hp hs (b2 p hp) (a10 p hp) (a11 s hs).1 (a11 s hs).2.1
      unfold R_X8_pour R_X9_pour
      rw [if_pos c, if_pos c, if_pos c2, if_pos c2, nI_clamp (by omega), nI_clamp (by omega), q0, q1]
      refine ⟨rfl, ?_⟩
      by_cases c3 : R_X6_drawable (σ (y + 1)) (σ (y + 2)) (σ (y + 3)) (σ (29 + 4 * 0)) (σ (29 + 4 * 0 + 1)) p s = 0
      · have e1 : T_X8_pour σ y n k nx ct (nI p) (nI s) = σ := by
          unfold T_X8_pour; rw [if_pos c, if_pos c2, nI_clamp (by omega), nI_clamp (by omega), if_pos c3]
        have e2 : T_X9_pour μ n k ct (nI p) (nI s) = μ := by
          unfold T_X9_pour; rw [if_pos c, if_pos c2, nI_clamp (by omega), nI_clamp (by omega), q0, if_pos c3]
        rw [e1, e2]; exact h.rel
      · have e1 : T_X8_pour σ y n k nx ct (nI p) (nI s) = va_up (va_up (remX σ nx ct) (29 + 4 * 0) (T_X6_pourOn_O (σ (y + 1)) (σ (y + 2)) (σ (y + 3)) (σ (29 + 4 * 0)) (σ (29 + 4 * 0 + 1)) p s)) (29 + 4 * 0 + 1) (T_X6_pourOn_V (σ (y + 1)) (σ (y + 2)) (σ (y + 3)) (σ (29 + 4 * 0)) (σ (29 + 4 * 0 + 1)) p s) := by
          unfold T_X8_pour; rw [if_pos c, if_pos c2, nI_clamp (by omega), nI_clamp (by omega), if_neg c3]; rfl
        have e2 : T_X9_pour μ n k ct (nI p) (nI s) = va_up (remT μ ct) 6 (T_X9_pourNow (μ 1) (μ 2) (μ 3) (μ 6) p s) := by
          unfold T_X9_pour; rw [if_pos c, if_pos c2, nI_clamp (by omega), nI_clamp (by omega), q0, if_neg c3]
        rw [e1, e2]
        refine h.g3 (sd' := sd) (fun r r1 r2 => by rw [va_Q (by omega), va_Q (by omega)]) (fun r r1 r2 => va_Q r2) (fun j _ => by rw [va_Q (by decide)]) ?_ ?_
        · rw [va_Q (by decide), va_Q (by decide), va_Q (by decide)]; exact RS_rem h.hsd
        · unfold WRs
          show WR k n (σ (y + 3)) (T_X9_pourNow (μ 1) (μ 2) (μ 3) (μ 6) p s) (T_X6_pourOn_O (σ (y + 1)) (σ (y + 2)) (σ (y + 3)) (σ (29 + 4 * 0)) (σ (29 + 4 * 0 + 1)) p s) (T_X6_pourOn_V (σ (y + 1)) (σ (y + 2)) (σ (y + 3)) (σ (29 + 4 * 0)) (σ (29 + 4 * 0 + 1)) p s) (remX σ nx ct (29 + 4 * 0 + 2)) (remX σ nx ct (29 + 4 * 0 + 3))
          rw [remX_w _ (by omega), remX_w _ (by omega)]
          exact q2
    · unfold R_X8_pour R_X9_pour T_X8_pour T_X9_pour
      rw [if_pos c, if_neg c2, if_pos c, if_neg c2, if_pos c, if_neg c2, if_pos c, if_neg c2]; exact ⟨rfl, h.rel⟩
  · unfold R_X8_pour R_X9_pour T_X8_pour T_X9_pour
    rw [if_neg c, if_neg c, if_neg c, if_neg c]; exact ⟨rfl, h.rel⟩
theorem op_vow (h : Rl y z k n nx ct len t sd σ μ) : R_X8_vow σ n nx ct v w = R_X9_vow μ n ct v w ∧ Rel y z (T_X8_vow σ n nx ct v w) (T_X9_vow μ n ct v w) := by
  have hn := h.hn
  have hw : WR k n (σ (y + 3)) (μ 6) (σ (29 + 4 * 0)) (σ (29 + 4 * 0 + 1)) (σ (29 + 4 * 0 + 2)) (σ (29 + 4 * 0 + 3)) := h.2.2.2.1
  have w5 : σ (29 + 4 * 0) 5 = μ 6 11 := hw.2.1.2.1
  have er : remT μ ct 6 = μ 6 := remT_r μ ct (by decide) (by decide)
  have key : ∀ u : Int32, Rel y z (up2 (remX σ nx ct) (29 + 4 * 0) 5 u) (up2 (remT μ ct) 6 11 u) := by
    intro u
    refine h.g3 (sd' := sd) (fun r r1 r2 => up2_Q (by omega)) (fun r r1 r2 => up2_Q r2) (fun j _ => by rw [up2_Q (by decide)]) ?_ ?_
    · rw [up2_Q (by decide), up2_Q (by decide)]; exact RS_rem h.hsd
    · unfold WRs
      rw [up2_row, up2_row, up2_Q (by omega), up2_Q (by omega), up2_Q (by omega), remX_w _ (by omega), remX_w _ (by omega), remX_w _ (by omega), remX_w _ (by omega), er]
      exact hw.vow hn
  by_cases c : 0 ≤ v ∧ ¬ nI n ≤ v
  · unfold R_X8_vow R_X9_vow T_X8_vow T_X9_vow
    rw [if_pos c, if_pos c, if_pos c, if_pos c, er, ite_self, ite_self, w5]
    refine ⟨rfl, ?_⟩
    by_cases c2 : w = 0
    · rw [if_pos c2, if_pos c2]; exact key _
    · rw [if_neg c2, if_neg c2]; exact key _
  · unfold R_X8_vow R_X9_vow T_X8_vow T_X9_vow
    rw [if_neg c, if_neg c, if_neg c, if_neg c]; exact ⟨rfl, h.rel⟩
theorem op_rain (h : Rl y z k n nx ct len t sd σ μ) : R_X8_rain σ y nx ct v = R_X9_rain μ ct v ∧ Rel y z (T_X8_rain σ y nx ct v) (T_X9_rain μ ct v) := by
  have hn := h.hn
  have hw : WR k n (σ (y + 3)) (μ 6) (σ (29 + 4 * 0)) (σ (29 + 4 * 0 + 1)) (σ (29 + 4 * 0 + 2)) (σ (29 + 4 * 0 + 3)) := h.2.2.2.1
  have w1 : σ (29 + 4 * 0) 1 = μ 6 13 := hw.2.1.2.2.2.1
  have er : remT μ ct 6 = μ 6 := remT_r μ ct (by decide) (by decide)
  have a5 : μ 0 0 = σ y 0 := h.2.1.2.1.2.2.2.1
  unfold R_X8_rain R_X9_rain T_X8_rain T_X9_rain
  by_cases c1 : v < 0
  · have c0 : ¬ (0 ≤ v ∧ v ≤ 99) := fun q => Int32.not_le.mpr c1 q.1
    rw [if_pos c1, if_neg c0, if_pos c1, if_neg c0]; exact ⟨rfl, h.rel⟩
  · by_cases c2 : v ≤ 99
    · have c0 : 0 ≤ v ∧ v ≤ 99 := ⟨Int32.not_lt.mp c1, c2⟩
      rw [if_neg c1, if_pos c2, if_pos c0, if_neg c1, if_pos c2, if_pos c0, a5, er, w1]
      refine ⟨rfl, ?_⟩
      by_cases c3 : σ y 0 = 0
      · rw [if_pos c3, if_pos c3]; exact h.rel
      · rw [if_neg c3, if_neg c3]
        obtain ⟨j, hj, ej⟩ := nI_rng3 (n := 99) (by decide) c0
        show Rel y z (up2 (remX σ nx ct) (29 + 4 * 0) 1 v) (up2 (remT μ ct) 6 13 v)
        refine h.g3 (sd' := sd) (fun r r1 r2 => up2_Q (by omega)) (fun r r1 r2 => up2_Q r2) (fun j _ => by rw [up2_Q (by decide)]) ?_ ?_
        · rw [up2_Q (by decide), up2_Q (by decide)]; exact RS_rem h.hsd
        · unfold WRs
          rw [up2_row, up2_row, up2_Q (by omega), up2_Q (by omega), up2_Q (by omega), remX_w _ (by omega), remX_w _ (by omega), remX_w _ (by omega), remX_w _ (by omega), er]
          exact hw.rain hn ⟨j, Nat.zero_le _, by omega, ej⟩
    · have c0 : ¬ (0 ≤ v ∧ v ≤ 99) := fun q => c2 q.2
      rw [if_neg c1, if_neg c2, if_neg c0, if_neg c1, if_neg c2, if_neg c0]; exact ⟨rfl, h.rel⟩
theorem op_queue {q : Nat} (h : Rl y z k n nx ct len t sd σ μ) (hq : q ≤ 6) (eq : σ (29 + 4 * 0) 7 = nI q) : R_X8_queue σ n k nx ct q v w = R_X9_queue μ n k ct q v w ∧ Rel y z (T_X8_queue σ n k nx ct q v w) (T_X9_queue μ n k ct q v w) := by
  have hn := h.hn
  have hk := h.hk
  have hw : WR k n (σ (y + 3)) (μ 6) (σ (29 + 4 * 0)) (σ (29 + 4 * 0 + 1)) (σ (29 + 4 * 0 + 2)) (σ (29 + 4 * 0 + 3)) := h.2.2.2.1
  unfold R_X8_queue R_X9_queue T_X8_queue T_X9_queue
  by_cases c : 0 ≤ v ∧ ¬ nI k ≤ v
  · by_cases c2 : 0 ≤ w ∧ ¬ nI n ≤ w
    · rw [if_pos c, if_pos c, if_pos c2, if_pos c2, if_pos c, if_pos c, if_pos c2, if_pos c2]
      by_cases h6 : q = 6
      · have q1 : ¬ nI q < 6 := nI_nlt (b := 6) (by omega) (by omega)
        have q2 : nI q = 6 := by rw [h6]; rfl
        rw [if_neg q1, if_pos q2, if_neg q1, if_pos q2]; exact ⟨rfl, h.rel⟩
      · have q1 : nI q < 6 := nI_lt (b := 6) (by omega) (by decide)
        have q2 : ¬ nI q = 6 := fun z => h6 ((nI_eq (b := 6) (by omega) (by decide)).mp z)
        rw [if_pos q1, if_neg q2, if_pos q1, if_neg q2]
        obtain ⟨p, hp, rfl⟩ := nI_rng2 c (by omega)
        obtain ⟨s, hs, rfl⟩ := nI_rng2 c2 (by omega)
        have e10 : 10 * nI p + nI s = nI (10 * p + s) := by rw [show (10 : Int32) = nI 10 from rfl, pk_mul, nI_add]
        rw [e10]
        have hJ := hw.join hn (q := q) (by omega) eq hp hs
        refine ⟨rfl, ?_⟩
        show Rel y z (va_up (va_up (va_up (remX σ nx ct) (29 + 4 * 0) (T_X6_joinQueue_O (σ (29 + 4 * 0)) (σ (29 + 4 * 0 + 2)) (σ (29 + 4 * 0 + 3)) q (nI p) (nI s))) (29 + 4 * 0 + 2) (T_X6_joinQueue_P (σ (29 + 4 * 0)) (σ (29 + 4 * 0 + 2)) (σ (29 + 4 * 0 + 3)) q (nI p) (nI s))) (29 + 4 * 0 + 3) (T_X6_joinQueue_S (σ (29 + 4 * 0)) (σ (29 + 4 * 0 + 2)) (σ (29 + 4 * 0 + 3)) q (nI p) (nI s))) (va_up (remT μ ct) 6 (T_X9_lineUp (μ 6) q (nI (10 * p + s))))
        refine h.g3 (sd' := sd) (fun r r1 r2 => by rw [va_Q (by omega), va_Q (by omega), va_Q (by omega)]) (fun r r1 r2 => va_Q r2) (fun j _ => by rw [va_Q (by decide)]) ?_ ?_
        · rw [va_Q (by decide), va_Q (by decide), va_Q (by decide), va_Q (by decide)]; exact RS_rem h.hsd
        · unfold WRs
          have r0 : ∀ (S : Nat → Nat → Int32) (a b c : Nat → Int32), va_up (va_up (va_up S (29 + 4 * 0) a) (29 + 4 * 0 + 2) b) (29 + 4 * 0 + 3) c (29 + 4 * 0) = a ∧ va_up (va_up (va_up S (29 + 4 * 0) a) (29 + 4 * 0 + 2) b) (29 + 4 * 0 + 3) c (29 + 4 * 0 + 1) = S (29 + 4 * 0 + 1) ∧ va_up (va_up (va_up S (29 + 4 * 0) a) (29 + 4 * 0 + 2) b) (29 + 4 * 0 + 3) c (29 + 4 * 0 + 2) = b ∧ va_up (va_up (va_up S (29 + 4 * 0) a) (29 + 4 * 0 + 2) b) (29 + 4 * 0 + 3) c (29 + 4 * 0 + 3) = c := fun S a b c => ⟨rfl, rfl, rfl, rfl⟩
          rw [(r0 _ _ _ _).1, (r0 _ _ _ _).2.1, (r0 _ _ _ _).2.2.1, (r0 _ _ _ _).2.2.2, remX_w _ (by omega), va_Qs]
          exact hJ
    · rw [if_pos c, if_neg c2, if_pos c, if_neg c2, if_pos c, if_neg c2, if_pos c, if_neg c2]; exact ⟨rfl, h.rel⟩
  · rw [if_neg c, if_neg c, if_neg c, if_neg c]; exact ⟨rfl, h.rel⟩
theorem row4 (S : Nat → Nat → Int32) (a b c d : Nat → Int32) : va_up (va_up (va_up (va_up S (29 + 4 * 0) a) (29 + 4 * 0 + 1) b) (29 + 4 * 0 + 2) c) (29 + 4 * 0 + 3) d (29 + 4 * 0) = a ∧ va_up (va_up (va_up (va_up S (29 + 4 * 0) a) (29 + 4 * 0 + 1) b) (29 + 4 * 0 + 2) c) (29 + 4 * 0 + 3) d (29 + 4 * 0 + 1) = b ∧ va_up (va_up (va_up (va_up S (29 + 4 * 0) a) (29 + 4 * 0 + 1) b) (29 + 4 * 0 + 2) c) (29 + 4 * 0 + 3) d (29 + 4 * 0 + 2) = c ∧ va_up (va_up (va_up (va_up S (29 + 4 * 0) a) (29 + 4 * 0 + 1) b) (29 + 4 * 0 + 2) c) (29 + 4 * 0 + 3) d (29 + 4 * 0 + 3) = d := ⟨rfl, rfl, rfl, rfl⟩
theorem op_turn {q p s : Nat} (h : Rl y z k n nx ct len t sd σ μ) (hq : q ≤ 6) (eq : σ (29 + 4 * 0) 7 = nI q) (hv : 0 < q → σ (29 + 4 * 0 + 2) 0 = nI p ∧ σ (29 + 4 * 0 + 3) 0 = nI s ∧ p < k ∧ s < n) (h17 : 0 < q → μ 6 17 = nI (10 * p + s)) : R_X8_turn σ y n k nx ct q p s = (if nI q = 0 then (-1000000003) else R_X9_pourNow (μ 1) (μ 2) (μ 3) (turnQ (μ 6) (q - 1)) p s) ∧ Rel y z (T_X8_turn σ y n k nx ct q p s) (if nI q = 0 then μ else va_up (remT μ ct) 6 (turnN (μ 1) (μ 2) (μ 3) (μ 6) (q - 1) p s)) := by
  have hn := h.hn
  have hw : WR k n (σ (y + 3)) (μ 6) (σ (29 + 4 * 0)) (σ (29 + 4 * 0 + 1)) (σ (29 + 4 * 0 + 2)) (σ (29 + 4 * 0 + 3)) := h.2.2.2.1
  unfold R_X8_turn T_X8_turn
  by_cases c : nI q = 0
  · rw [if_pos c, if_pos c, if_pos c, if_pos c]; exact ⟨rfl, h.rel⟩
  · rw [if_neg c, if_neg c, if_neg c, if_neg c]
    have q0 := nz_ne c
    obtain ⟨q', rfl⟩ : ∃ q', q = q' + 1 := ⟨q - 1, by omega⟩
    obtain ⟨_, _, hp, hs⟩ := hv q0
    obtain ⟨⟨_, b2, _⟩, _, a10, a11⟩ := h.2.1
    obtain ⟨r1, r2⟩ := hw.turn (m1 := μ 1) (m2 := μ 2) (m3 := μ 3) (ow := σ (y + 2)) hn (q := q') (by omega) eq hp hs (h17 q0) (b2 p hp) (a10 p hp) (a11 s hs).1 (a11 s hs).2.1
    rw [show q' + 1 - 1 = q' by omega]
    refine ⟨r1.symm, ?_⟩
    show Rel y z (va_up (va_up (va_up (va_up (remX σ nx ct) (29 + 4 * 0) (T_X6_takeTurn_O (σ (y + 1)) (σ (y + 2)) (σ (y + 3)) (σ (29 + 4 * 0)) (σ (29 + 4 * 0 + 1)) (σ (29 + 4 * 0 + 2)) (σ (29 + 4 * 0 + 3)) p s q')) (29 + 4 * 0 + 1) (T_X6_takeTurn_V (σ (y + 1)) (σ (y + 2)) (σ (y + 3)) (σ (29 + 4 * 0)) (σ (29 + 4 * 0 + 1)) (σ (29 + 4 * 0 + 2)) (σ (29 + 4 * 0 + 3)) p s q')) (29 + 4 * 0 + 2) (T_X6_takeTurn_P (σ (y + 1)) (σ (y + 2)) (σ (y + 3)) (σ (29 + 4 * 0)) (σ (29 + 4 * 0 + 1)) (σ (29 + 4 * 0 + 2)) (σ (29 + 4 * 0 + 3)) p s q')) (29 + 4 * 0 + 3) (T_X6_takeTurn_S (σ (y + 1)) (σ (y + 2)) (σ (y + 3)) (σ (29 + 4 * 0)) (σ (29 + 4 * 0 + 1)) (σ (29 + 4 * 0 + 2)) (σ (29 + 4 * 0 + 3)) p s q')) (va_up (remT μ ct) 6 (turnN (μ 1) (μ 2) (μ 3) (μ 6) q' p s))
    refine h.g3 (sd' := sd) (fun r r1 r2 => by rw [va_Q (by omega), va_Q (by omega), va_Q (by omega), va_Q (by omega)]) (fun r r1 r2 => va_Q r2) (fun j _ => by rw [va_Q (by decide)]) ?_ ?_
    · rw [va_Q (by decide), va_Q (by decide), va_Q (by decide), va_Q (by decide), va_Q (by decide)]; exact RS_rem h.hsd
    · unfold WRs
      rw [(row4 _ _ _ _ _).1, (row4 _ _ _ _ _).2.1, (row4 _ _ _ _ _).2.2.1, (row4 _ _ _ _ _).2.2.2, va_Qs]
      exact r2
theorem ref_e (h : Rl y z k n nx ct len t sd σ μ) : R_X8_refusalOfNights σ y v = R_X9_nightsRefused μ v := by
  have hw : WR k n (σ (y + 3)) (μ 6) (σ (29 + 4 * 0)) (σ (29 + 4 * 0 + 1)) (σ (29 + 4 * 0 + 2)) (σ (29 + 4 * 0 + 3)) := h.2.2.2.1
  have w3 : σ (29 + 4 * 0) 3 = μ 6 14 := hw.2.1.2.2.2.2.1
  have a5 : μ 0 0 = σ y 0 := h.2.1.2.1.2.2.2.1
  unfold R_X8_refusalOfNights R_X9_nightsRefused
  by_cases c1 : v < 1
  · rw [if_pos c1, if_neg (fun q => Int32.not_le.mpr c1 q.1)]
  · rw [if_neg c1]
    by_cases c2 : v ≤ 60
    · rw [if_pos c2, if_pos (c := 1 ≤ v ∧ v ≤ 60) ⟨Int32.not_lt.mp c1, c2⟩, a5, w3]
    · rw [if_neg c2, if_neg (fun q => c2 q.2)]
theorem op_night (h : Rl y z k n nx ct len t sd σ μ) : R_X8_night σ y nx ct v = R_X9_night μ ct v ∧ Rel y z (T_X8_night σ y nx ct v) (T_X9_night μ ct v) := by
  have hn := h.hn
  have hw : WR k n (σ (y + 3)) (μ 6) (σ (29 + 4 * 0)) (σ (29 + 4 * 0 + 1)) (σ (29 + 4 * 0 + 2)) (σ (29 + 4 * 0 + 3)) := h.2.2.2.1
  have a6 : μ 0 2 = σ y 2 := h.2.1.2.1.2.2.2.2.1
  have hsp : iN 0 20 (σ y 2) := h.2.1.1.1.2.2.2
  have hW := WR.passes (sp := σ y 2) hn hsp (v.toNatClampNeg) hw
  unfold R_X8_night R_X9_night T_X8_night T_X9_night
  rw [ref_e h, a6]
  by_cases c : R_X9_nightsRefused μ v = 0
  · rw [if_pos c, if_pos c, if_pos c, if_pos c]
    refine ⟨hW.2.1.2.2.1, ?_⟩
    show Rel y z (va_up (remX σ nx ct) (29 + 4 * 0) _) (va_up (remT μ ct) 6 _)
    refine h.g3 (sd' := sd) (fun r r1 r2 => va_Q (by omega)) (fun r r1 r2 => va_Q r2) (fun j _ => by rw [va_Q (by decide)]) ?_ ?_
    · rw [va_Q (by decide), va_Q (by decide)]; exact RS_rem h.hsd
    · unfold WRs
      rw [va_Qs, va_Qs, va_Q (by omega), va_Q (by omega), va_Q (by omega), remX_w _ (by omega), remX_w _ (by omega), remX_w _ (by omega)]
      exact hW
  · rw [if_neg c, if_neg c, if_neg c, if_neg c]; exact ⟨rfl, h.rel⟩
theorem op_undo (h : Rl y z k n nx ct len t sd σ μ) : R_X8_undo σ nx ct = (if ct = 0 then (-1000000003) else nI (ct - 1)) ∧ Rel y z (T_X8_undo σ nx ct) (if ct = 0 then μ else va_up (up2 μ 0 31 (nI (ct - 1))) 6 (putN (μ 6) (fun j => μ 14 (23 * (ct - 1) + j)) 0 23)) := by
  have hn := h.hn
  have hy := h.yz
  have hP := h.2.2.2.2.1
  have hI := h.2.2.2.2.2.2.2
  obtain ⟨p1, p2, p3, p4, p5, p6⟩ := hP
  unfold R_X8_undo T_X8_undo
  by_cases c : ct = 0
  · have c' : nI ct = 0 := by rw [c]; rfl
    rw [if_pos c, if_pos c, if_pos c', if_pos c']; exact ⟨rfl, h.rel⟩
  · have c' : ¬ nI ct = 0 := nI_ne0 (by omega) (by omega)
    rw [if_neg c, if_neg c, if_neg c', if_neg c']
    refine ⟨rfl, ?_⟩
    have hl := p6 (ct - 1) (by omega)
    have er : ring nx ct (ct - 1) = 2 + (nx + 15) % 16 := by unfold ring; omega
    rw [er] at hl
    have hl2 := (show WR k n (σ (y + 3)) (fun i => μ 14 (23 * (ct - 1) + i)) (σ (29 + 4 * (2 + (nx + 15) % 16))) (σ (29 + 4 * (2 + (nx + 15) % 16) + 1)) (σ (29 + 4 * (2 + (nx + 15) % 16) + 2)) (σ (29 + 4 * (2 + (nx + 15) % 16) + 3)) from hl).cpy (O2 := σ (29 + 4 * 0)) (V2 := σ (29 + 4 * 0 + 1)) (P2 := σ (29 + 4 * 0 + 2)) (S2 := σ (29 + 4 * 0 + 3)) hn
    refine Rl.rel (Rl.g4 (nx' := (nx + 15) % 16) (ct' := ct - 1) (sd' := sd) h (fun r r1 _ _ _ r5 _ => by rw [va_Q r1, va_Q (by omega), va_Q (by omega), va_Q (by omega), va_Q (by omega)]) (fun r r1 r2 _ _ _ => by rw [va_Q r2, up2_Q r1]) (fun j _ j2 => by rw [va_Q (by decide), up2_K j2]) ?_ ?_ ?_ ?_)
    · rw [va_Q (by decide), va_Q (by decide), va_Q (by decide), va_Q (by decide), va_Q (by decide), va_Q (by decide)]
      exact ⟨h.hsd.1, h.hsd.2.1, by rw [up2_K (by decide)]; exact h.hsd.2.2⟩
    · refine WR.copy (N := fun i => μ 14 (23 * (ct - 1) + i)) (wt := σ (y + 3)) hl2 (fun _ _ => rfl) (fun j hj => ?_) (fun _ _ _ => rfl) (fun _ _ => rfl) (fun _ _ => rfl) (fun _ _ => rfl) hn
      show putN (μ 6) (fun j => μ 14 (23 * (ct - 1) + j)) 0 23 j = μ 14 (23 * (ct - 1) + j)
      unfold putN; rw [if_pos (by omega), Nat.sub_zero]
    · refine ⟨Nat.mod_lt _ (by decide), by omega, ?_, ?_, ?_, fun j hj => ?_⟩
      · rw [va_Qs]; rfl
      · rw [va_Qs]; rfl
      · rw [va_Q (by decide), up2_S]
      · have e2 : ring ((nx + 15) % 16) (ct - 1) j = ring nx ct j := by unfold ring; omega
        have hr := ring_lo nx ct j
        rw [e2]
        exact (p6 j (by omega)).fr rfl (by rw [va_Q (by decide), up2_Q (by decide)]) (fun r r1 r2 => by rw [va_Q (by omega), va_Q (by omega), va_Q (by omega), va_Q (by omega), va_Q (by omega)])
    · exact hI.fr rfl (by rw [va_Q (by decide), va_Q (by decide), va_Q (by decide), va_Q (by decide), va_Q (by decide)]) (by rw [va_Q (by decide), va_Q (by decide), va_Q (by decide), va_Q (by decide), va_Q (by decide)]) (fun r r1 r2 => by rw [va_Q (by omega), va_Q (by omega), va_Q (by omega), va_Q (by omega), va_Q (by omega)]) (by rw [va_Q (by decide), up2_Q (by decide)]) (by rw [va_Q (by decide), up2_Q (by decide)])
end OQ
