section OY
variable {y z k n nx ct len t sd : Nat} {σ μ τ : Nat → Nat → Int32} {v : Int32}
theorem r7_0 (σ : Nat → Nat → Int32) {b : Nat} (hb : b = 3 ∨ b = 10) (ps : Nat → Nat → Int32) : rows7 σ b ps 1 = ps 0 ∧ rows7 σ b ps b = ps 1 ∧ rows7 σ b ps (b + 1) = ps 2 ∧ rows7 σ b ps (b + 2) = ps 3 ∧ rows7 σ b ps (b + 3) = ps 4 ∧ rows7 σ b ps (b + 4) = ps 5 ∧ rows7 σ b ps (b + 5) = ps 6 := by
  unfold rows7
  refine ⟨?_, ?_, ?_, ?_, ?_, ?_, ?_⟩
  · rw [va_Q (by omega), va_Q (by omega), va_Q (by omega), va_Q (by omega), va_Q (by omega), va_Q (by omega), va_Qs]
  · rw [va_Q (by omega), va_Q (by omega), va_Q (by omega), va_Q (by omega), va_Q (by omega), va_Qs]
  · rw [va_Q (by omega), va_Q (by omega), va_Q (by omega), va_Q (by omega), va_Qs]
  · rw [va_Q (by omega), va_Q (by omega), va_Q (by omega), va_Qs]
  · rw [va_Q (by omega), va_Q (by omega), va_Qs]
  · rw [va_Q (by omega), va_Qs]
  · rw [va_Qs]
theorem r7_r (σ : Nat → Nat → Int32) {b r : Nat} (ps : Nat → Nat → Int32) (h : r ≠ 1) (h2 : r < b ∨ b + 5 < r) : rows7 σ b ps r = σ r := by
  unfold rows7
  rw [va_Q (by omega), va_Q (by omega), va_Q (by omega), va_Q (by omega), va_Q (by omega), va_Q (by omega), va_Q h]
theorem yS_e (σ : Nat → Nat → Int32) (z len : Nat) : yS σ z len = rows7 σ z (va_up (yP σ z len) 0 (upd (yP σ z len 0) 1 0)) := rfl
def yU (S : Nat → Nat → Int32) (z : Nat) : Nat → Nat → Int32 := va_up (up2 (va_up (va_up (va_up S (29 + 4 * 0) (T_X6_begin_O (S z) (S (29 + 4 * 0)) (S (29 + 4 * 0 + 1)))) (29 + 4 * 0 + 1) (T_X6_begin_V (S z) (S (29 + 4 * 0)) (S (29 + 4 * 0 + 1)))) 17 (T_X3_forget_PA (S 17))) 19 0 0) 26 (T_X2_forget_KE (S 26))
theorem yT_e (σ : Nat → Nat → Int32) (z len : Nat) : yT σ z len = yU (yS σ z len) z := rfl
theorem yU_r (S : Nat → Nat → Int32) (z : Nat) {r : Nat} (h1 : r ≠ 29) (h2 : r ≠ 30) (h3 : r ≠ 17) (h4 : r ≠ 19) (h5 : r ≠ 26) : yU S z r = S r := by
  unfold yU
  rw [va_Q h5, up2_Q h4, va_Q h3, va_Q (by omega), va_Q (by omega)]
theorem op_yard_f (h : Rl y z k n nx ct len t sd σ μ) (hM : PostY μ τ v (yP σ z len)) (hf : ¬ yP σ z len 0 3 = 0) : -10 - yP σ z len 0 3 = v ∧ Rel y z (yS σ z len) τ := by
  obtain ⟨m14, m15, m12, mr, mf, _⟩ := hM
  obtain ⟨ev, mj, mR⟩ := mf hf
  refine ⟨ev.symm, ?_⟩
  rw [yS_e]
  generalize hps : yP σ z len = PS at *
  have hy := h.yz
  obtain ⟨h0, a, b, c, d, e, f, g⟩ := h
  have hz : z = 3 ∨ z = 10 := by rcases h0 with q | q <;> omega
  have hyz : ∀ r, y ≤ r → r ≤ y + 5 → r ≠ 1 ∧ (r < z ∨ z + 5 < r) := fun r r1 r2 => by rcases h0 with q | q <;> omega
  obtain ⟨z1, _⟩ := r7_0 σ hz (va_up PS 0 (upd (PS 0) 1 0))
  rw [va_Qs] at z1
  have kr : ∀ r, r ≠ 1 → (r < z ∨ z + 5 < r) → rows7 σ z (va_up PS 0 (upd (PS 0) 1 0)) r = σ r := fun r q1 q2 => r7_r σ _ q1 q2
  generalize rows7 σ z (va_up PS 0 (upd (PS 0) 1 0)) = S at z1 kr
  have ky : ∀ r, y ≤ r → r ≤ y + 5 → S r = σ r := fun r r1 r2 => kr r (hyz r r1 r2).1 (hyz r r1 r2).2
  have kx : ∀ r, 16 ≤ r → S r = σ r := fun r r1 => kr r (by omega) (by omega)
  have k2 : S 2 = σ 2 := kr 2 (by decide) (by omega)
  have hwt : S (y + 3) = σ (y + 3) := ky _ (by omega) (by omega)
  refine ⟨k, n, nx, ct, 0, t, sd, h0, ?_, ?_, ?_, ?_, ?_, ?_, ?_⟩
  · obtain ⟨a1, ⟨a2, a3, a4, a5, a6, a7, a8, a9⟩, a10, a11⟩ := a
    rw [hwt, ky y (by omega) (by omega), ky (y + 1) (by omega) (by omega), ky (y + 2) (by omega) (by omega), ky (y + 4) (by omega) (by omega), ky (y + 5) (by omega) (by omega), mR 1 (by omega), mR 2 (by omega), mR 3 (by omega), mR 4 (by omega), mR 5 (by omega)]
    exact ⟨a1, ⟨a2, a3, a4, by rw [mj 0 (by omega)]; exact a5, by rw [mj 2 (by omega)]; exact a6, by rw [mj 3 (by omega)]; exact a7, by rw [mj 5 (by omega)]; exact a8, by rw [mj 9 (by omega)]; exact a9⟩, a10, a11⟩
  · obtain ⟨b1, b2, b3, b4, b5, b6⟩ := b
    refine ⟨by omega, by rw [z1, upd_eq]; rfl, m14, by rw [z1, upd_ne _ _ (by decide)]; exact m15.symm, by rw [mr 7 (by omega), k2]; exact b5, fun j hj => absurd hj (by omega)⟩
  · exact c.fr hwt (mR 6 (by omega)) (fun r r1 r2 => kx r (by omega))
  · exact d.fr hwt (kx 17 (by omega)) (fun r r1 r2 => kx r (by omega)) (mj 31 (by omega)) (mr 14 (by omega))
  · obtain ⟨b1, b2, b3, b4⟩ := e
    rw [kx 19 (by omega), kx 20 (by omega), kx 21 (by omega), mr 15 (by omega), mr 16 (by omega)]
    exact ⟨b1, b2, by rw [mj 33 (by omega)]; exact b3, b4⟩
  · obtain ⟨s1, s2, s3⟩ := f
    exact ⟨s1, by rw [kx 22 (by omega)]; exact s2, by rw [m12]; exact s3⟩
  · exact g.fr hwt (kx 25 (by omega)) (kx 26 (by omega)) (fun r r1 r2 => kx r (by omega)) (mr 17 (by omega)) (mR 18 (by omega))
theorem op_yard_o (h : Rl y z k n nx ct len t sd σ μ) (hM : PostY μ τ v (yP σ z len)) (hf : yP σ z len 0 3 = 0) : yS σ z len z 5 = v ∧ Rel z y (yT σ z len) τ := by
  obtain ⟨m14, m15, m12, mr, _, mo⟩ := hM
  obtain ⟨k2, n2, hB, ev, k3, n5, hvb, _, ⟨e0, e2, e3, e5, e9, e31, e33⟩, hr1, hr2, h6, i0, i1⟩ := mo hf
  rw [yT_e, yS_e]
  generalize hps : yP σ z len = PS at *
  have hy := h.yz
  obtain ⟨h0, a, b, c, d, e, f, g⟩ := h
  have hz : z = 3 ∨ z = 10 := by rcases h0 with q | q <;> omega
  have hps1 : ∀ r, r ≠ 0 → va_up PS 0 (upd (PS 0) 1 0) r = PS r := fun r hr => va_Q hr
  obtain ⟨z1, z2, z3, z4, z5, z6, z7⟩ := r7_0 σ hz (va_up PS 0 (upd (PS 0) 1 0))
  rw [va_Qs] at z1
  rw [hps1 _ (by decide)] at z2 z3 z4 z5 z6 z7
  have kr : ∀ r, r ≠ 1 → (r < z ∨ z + 5 < r) → rows7 σ z (va_up PS 0 (upd (PS 0) 1 0)) r = σ r := fun r q1 q2 => r7_r σ _ q1 q2
  generalize rows7 σ z (va_up PS 0 (upd (PS 0) 1 0)) = S at z1 z2 z3 z4 z5 z6 z7 kr
  have kx : ∀ r, 16 ≤ r → S r = σ r := fun r r1 => kr r (by omega) (by omega)
  have c2 : S 2 = σ 2 := kr 2 (by decide) (by omega)
  refine ⟨by rw [z2, ev]; exact n5, ?_⟩
  have uz : ∀ r, r ≤ 16 → yU S z r = S r := fun r q => yU_r S z (by omega) (by omega) (by omega) (by omega) (by omega)
  have ux : ∀ r, 20 ≤ r → r ≤ 25 → yU S z r = σ r := fun r q1 q2 => (yU_r S z (by omega) (by omega) (by omega) (by omega) (by omega)).trans (kx r (by omega))
  have u17 : yU S z 17 = upd (S 17) 2 0 := by unfold yU; rw [va_Q (by decide), up2_Q (by decide), va_Qs]; rfl
  have u19 : yU S z 19 0 = 0 := by unfold yU; rw [va_Q (by decide), up2_S]
  have u26 : yU S z 26 = zrN (S 26) 2 := by unfold yU; rw [va_Qs]; rfl
  have u29 : yU S z (29 + 4 * 0) = T_X6_begin_O (S z) (S (29 + 4 * 0)) (S (29 + 4 * 0 + 1)) := by unfold yU; rw [va_Q (by decide), up2_Q (by decide), va_Q (by decide), va_Q (by decide), va_Qs]
  have u30 : yU S z (29 + 4 * 0 + 1) = zrN (S (29 + 4 * 0 + 1)) 10 := by unfold yU; rw [va_Q (by decide), up2_Q (by decide), va_Q (by decide), va_Qs]; rfl
  have hn2 : n2 ≤ 10 := hB.1.2.1
  refine ⟨k2, n2, nx, 0, 0, 0, sd, by rcases h0 with q | q <;> omega, ?_, ?_, ?_, ?_, ?_, ?_, ?_⟩
  · rw [uz z (by omega), uz (z + 1) (by omega), uz (z + 2) (by omega), uz (z + 3) (by omega), uz (z + 4) (by omega), uz (z + 5) (by omega), z2, z3, z4, z5, z6, z7]
    exact ⟨hB, ⟨k3, n5, hvb, e0, e2, e3, e5, e9⟩, hr1, hr2⟩
  · obtain ⟨b1, b2, b3, b4, b5, b6⟩ := b
    rw [uz 1 (by omega), uz 2 (by omega), c2, z1]
    exact ⟨by omega, rfl, m14, m15.symm, (mr 7 (by omega)).trans b5, fun j hj => absurd hj (by omega)⟩
  · unfold WRs
    rw [u29, u30, uz (z + 3) (by omega), z5, z2]
    refine ⟨fun j hj => ?_, ⟨?_, ?_, ?_, ?_, ?_, ?_, ?_⟩, ⟨hB.1.2.2.1, ⟨0, by omega, by omega, rfl⟩⟩, fun j hj => ?_, 0, by omega, rfl, fun i hi => absurd hi (by omega)⟩
    · rw [h6 j (by omega), if_neg (by omega)]; unfold zrN; rw [if_pos hj]
    · rw [h6 10 (by omega)]; rfl
    · rw [h6 11 (by omega)]; rfl
    · rw [h6 12 (by omega)]; rfl
    · rw [h6 13 (by omega)]; rfl
    · rw [h6 14 (by omega)]; rfl
    · rw [h6 15 (by omega)]; rfl
    · rw [h6 16 (by omega)]; rfl
    · obtain ⟨w, w1, w2, w3⟩ := (hB.2.2 j hj).2.1
      exact ⟨0, w, by omega, w2, by unfold zrN; rw [if_pos (by omega)]; rfl, w3⟩
  · obtain ⟨p1, p2, p3, p4, p5, p6⟩ := d
    refine ⟨p1, by omega, ?_, ?_, e31, fun j hj => absurd hj (by omega)⟩
    · rw [u17, upd_ne _ _ (by decide), kx 17 (by omega)]; exact p3
    · rw [u17, upd_eq]; rfl
  · exact ⟨by omega, u19, e33, fun j hj => absurd hj (by omega)⟩
  · obtain ⟨s1, s2, s3⟩ := f
    exact ⟨s1, by rw [ux 22 (by omega) (by omega)]; exact s2, by rw [m12]; exact s3⟩
  · intro i hi
    have z0 : τ 18 i = 0 := by
      rcases (show i = 0 ∨ i = 1 by omega) with q | q <;> subst q
      · exact i0
      · exact i1
    refine ⟨?_, fun q => absurd z0 q⟩
    rw [u26, z0]; unfold zrN; rw [if_pos hi]
end OY
