-- THE RELATION of the class's store and the reference's
/-- a well of the class (rows O, V, P, S) and a state of the reference (row N, 23 places) -/
def WR (k n : Nat) (wt N O V P S : Nat → Int32) : Prop :=
  (∀ j, j < 10 → V j = N j) ∧ (O 4 = N 10 ∧ O 5 = N 11 ∧ O 0 = N 12 ∧ O 1 = N 13 ∧ O 3 = N 14 ∧ O 2 = N 15 ∧ O 7 = N 16) ∧ (iN 0 99 (O 0) ∧ iN 0 99 (O 1)) ∧ (∀ j, j < n → ∃ e w, e < w ∧ w ≤ 20 ∧ V j = nI e ∧ wt j = nI w) ∧ (∃ q, q ≤ 6 ∧ O 7 = nI q ∧ ∀ i, i < q → ∃ p s, p < k ∧ s < n ∧ P i = nI p ∧ S i = nI s ∧ N (17 + i) = nI (10 * p + s))
theorem WR.copy {k n : Nat} {wt N O V P S wt' N' O' V' P' S' : Nat → Int32} (h : WR k n wt N O V P S) (hw : ∀ j, j < n → wt' j = wt j) (hN : ∀ j, j < 23 → N' j = N j) (hO : ∀ j, j ≤ 7 → j ≠ 6 → O' j = O j) (hV : ∀ j, j < 10 → V' j = V j) (hP : ∀ j, j < 6 → P' j = P j) (hS : ∀ j, j < 6 → S' j = S j) (hn : n ≤ 10) : WR k n wt' N' O' V' P' S' := by
  obtain ⟨h1, ⟨a4, a5, a0, a1, a3, a2, a7⟩, ⟨b0, b1⟩, h2, q, hq, e7, h3⟩ := h
  refine ⟨fun j hj => ?_, ⟨?_, ?_, ?_, ?_, ?_, ?_, ?_⟩, ⟨?_, ?_⟩, fun j hj => ?_, q, hq, ?_, fun i hi => ?_⟩
  · rw [hV j hj, hN j (by omega)]; exact h1 j hj
  · rw [hO 4 (by decide) (by decide), hN 10 (by decide)]; exact a4
  · rw [hO 5 (by decide) (by decide), hN 11 (by decide)]; exact a5
  · rw [hO 0 (by decide) (by decide), hN 12 (by decide)]; exact a0
  · rw [hO 1 (by decide) (by decide), hN 13 (by decide)]; exact a1
  · rw [hO 3 (by decide) (by decide), hN 14 (by decide)]; exact a3
  · rw [hO 2 (by decide) (by decide), hN 15 (by decide)]; exact a2
  · rw [hO 7 (by decide) (by decide), hN 16 (by decide)]; exact a7
  · rw [hO 0 (by decide) (by decide)]; exact b0
  · rw [hO 1 (by decide) (by decide)]; exact b1
  · obtain ⟨e, w, g1, g2, g3, g4⟩ := h2 j hj
    exact ⟨e, w, g1, g2, by rw [hV j (by omega)]; exact g3, by rw [hw j hj]; exact g4⟩
  · rw [hO 7 (by decide) (by decide)]; exact e7
  · obtain ⟨p, s, g1, g2, g3, g4, g5⟩ := h3 i hi
    exact ⟨p, s, g1, g2, by rw [hP i (by omega)]; exact g3, by rw [hS i (by omega)]; exact g4, by rw [hN (17 + i) (by omega)]; exact g5⟩
def WRs (k n : Nat) (wt N : Nat → Int32) (σ : Nat → Nat → Int32) (i : Nat) : Prop := WR k n wt N (σ (29 + 4 * i)) (σ (29 + 4 * i + 1)) (σ (29 + 4 * i + 2)) (σ (29 + 4 * i + 3))
def RY (k n : Nat) (Y ar ow wt wo fr M0 m1 m2 m3 m4 m5 : Nat → Int32) : Prop :=
  BndC Y ar ow wt wo fr k n ∧ (Y 3 = nI k ∧ Y 5 = nI n ∧ vb (Y 0) ∧ (M0 0 = Y 0 ∧ M0 2 = Y 2 ∧ M0 3 = nI k ∧ M0 5 = nI n ∧ M0 9 = Y 10)) ∧ (∀ j, j < k → m1 j = ar j) ∧ (∀ j, j < n → m2 j = ow j ∧ m3 j = wt j ∧ m4 j = wo j + 50 ∧ m5 j = fr j)
def RT (len : Nat) (RD tx M0 m7 : Nat → Int32) : Prop := len ≤ 240 ∧ RD 1 = nI len ∧ M0 14 = nI len ∧ RD 2 = M0 15 ∧ m7 = tx ∧ ∀ j, j < len → 0 ≤ tx j
def RB (t : Nat) (B BS BH M0 m15 m16 : Nat → Int32) : Prop := t ≤ 15 ∧ B 0 = nI t ∧ M0 33 = nI t ∧ ∀ j, j < t → BS j = m15 j ∧ BH j = m16 j
def RS (sd : Nat) (G M0 : Nat → Int32) : Prop := sd < 2 ^ 31 ∧ G 0 = nI sd ∧ M0 12 = nI sd
def ring (nx ct j : Nat) : Nat := 2 + (nx + 16 - ct + j) % 16
def RP (k n nx ct : Nat) (wt : Nat → Int32) (σ : Nat → Nat → Int32) (M0 m14 : Nat → Int32) : Prop :=
  nx < 16 ∧ ct ≤ 16 ∧ σ 17 1 = nI nx ∧ σ 17 2 = nI ct ∧ M0 31 = nI ct ∧ ∀ j, j < ct → WRs k n wt (fun i => m14 (23 * j + i)) σ (ring nx ct j)
def RI (k n : Nat) (wt : Nat → Int32) (σ : Nat → Nat → Int32) (m17 m18 : Nat → Int32) : Prop :=
  ∀ i, i < 2 → σ 26 i = m18 i ∧ (¬ m18 i = 0 → WRs k n wt (fun j => m17 (24 * i + j)) σ (18 + i) ∧ σ 25 i = m17 (24 * i + 23) ∧ ∃ sd, sd < 2 ^ 31 ∧ m17 (24 * i + 23) = nI sd)
def Rl (y z k n nx ct len t sd : Nat) (σ μ : Nat → Nat → Int32) : Prop :=
  ((y = 3 ∧ z = 10) ∨ (y = 10 ∧ z = 3)) ∧ RY k n (σ y) (σ (y + 1)) (σ (y + 2)) (σ (y + 3)) (σ (y + 4)) (σ (y + 5)) (μ 0) (μ 1) (μ 2) (μ 3) (μ 4) (μ 5) ∧ RT len (σ 1) (σ 2) (μ 0) (μ 7) ∧ WRs k n (σ (y + 3)) (μ 6) σ 0 ∧ RP k n nx ct (σ (y + 3)) σ (μ 0) (μ 14) ∧ RB t (σ 19) (σ 20) (σ 21) (μ 0) (μ 15) (μ 16) ∧ RS sd (σ 22) (μ 0) ∧ RI k n (σ (y + 3)) σ (μ 17) (μ 18)
def Rel (y z : Nat) (σ μ : Nat → Nat → Int32) : Prop := ∃ k n nx ct len t sd, Rl y z k n nx ct len t sd σ μ
theorem WRs.fr {k n : Nat} {wt N wt' N' : Nat → Int32} {σ σ' : Nat → Nat → Int32} {i : Nat} (h : WRs k n wt N σ i) (hw : wt' = wt) (hN : N' = N) (h0 : ∀ r, 29 + 4 * i ≤ r → r ≤ 29 + 4 * i + 3 → σ' r = σ r) : WRs k n wt' N' σ' i := by
  unfold WRs
  rw [hw, hN, h0 _ (by omega) (by omega), h0 _ (by omega) (by omega), h0 _ (by omega) (by omega), h0 _ (by omega) (by omega)]
  exact h
theorem ring_lo (nx ct j : Nat) : 2 ≤ ring nx ct j ∧ ring nx ct j < 18 := by
  unfold ring
  have := Nat.mod_lt (nx + 16 - ct + j) (show 0 < 16 by decide)
  omega
theorem RP.fr {k n nx ct : Nat} {wt wt' : Nat → Int32} {σ σ' : Nat → Nat → Int32} {M0 m14 M0' m14' : Nat → Int32} (h : RP k n nx ct wt σ M0 m14) (hw : wt' = wt) (h1 : σ' 17 = σ 17) (h2 : ∀ r, 37 ≤ r → r ≤ 100 → σ' r = σ r) (h3 : M0' 31 = M0 31) (h4 : m14' = m14) : RP k n nx ct wt' σ' M0' m14' := by
  obtain ⟨a, b, c, d, e, f⟩ := h
  refine ⟨a, b, by rw [h1]; exact c, by rw [h1]; exact d, by rw [h3]; exact e, fun j hj => ?_⟩
  have := ring_lo nx ct j
  exact (f j hj).fr hw (by rw [h4]) (fun r r1 r2 => h2 r (by omega) (by omega))
theorem RI.fr {k n : Nat} {wt wt' : Nat → Int32} {σ σ' : Nat → Nat → Int32} {m17 m18 m17' m18' : Nat → Int32} (h : RI k n wt σ m17 m18) (hw : wt' = wt) (h1 : σ' 25 = σ 25) (h2 : σ' 26 = σ 26) (h3 : ∀ r, 101 ≤ r → r ≤ 108 → σ' r = σ r) (h4 : m17' = m17) (h5 : m18' = m18) : RI k n wt' σ' m17' m18' := by
  intro i hi
  obtain ⟨a, b⟩ := h i hi
  rw [h4, h5, h2, h1]
  exact ⟨a, fun q => ⟨((b q).1).fr hw rfl (fun r r1 r2 => h3 r (by omega) (by omega)), (b q).2⟩⟩
section RL
variable {y z k n nx ct len t sd : Nat} {σ μ σ' μ' : Nat → Nat → Int32}
theorem Rl.yz (h : Rl y z k n nx ct len t sd σ μ) : y = 3 ∨ y = 10 := by
  rcases h.1 with q | q <;> omega
/-- nothing has changed that counts -/
theorem Rl.g1 (h : Rl y z k n nx ct len t sd σ μ) (h1 : ∀ r, r ≠ y + 6 → r ≠ 27 → r ≠ 28 → ¬ (33 ≤ r ∧ r ≤ 36) → σ' r = σ r) (h2 : ∀ r, r ≠ 13 → μ' r = μ r) : Rl y z k n nx ct len t sd σ' μ' := by
  have hy := h.yz
  obtain ⟨h0, a, b, c, d, e, f, g⟩ := h
  have hw : σ' (y + 3) = σ (y + 3) := h1 _ (by omega) (by omega) (by omega) (by omega)
  refine ⟨h0, ?_, ?_, c.fr hw (h2 6 (by decide)) (fun r r1 r2 => h1 r (by omega) (by omega) (by omega) (by omega)), d.fr hw (h1 17 (by omega) (by decide) (by decide) (by omega)) (fun r r1 r2 => h1 r (by omega) (by omega) (by omega) (by omega)) (by rw [h2 0 (by decide)]) (h2 14 (by decide)), ?_, ?_, g.fr hw (h1 25 (by omega) (by decide) (by decide) (by omega)) (h1 26 (by omega) (by decide) (by decide) (by omega)) (fun r r1 r2 => h1 r (by omega) (by omega) (by omega) (by omega)) (h2 17 (by decide)) (h2 18 (by decide))⟩
  · rw [hw, h1 y (by omega) (by omega) (by omega) (by omega), h1 (y + 1) (by omega) (by omega) (by omega) (by omega), h1 (y + 2) (by omega) (by omega) (by omega) (by omega), h1 (y + 4) (by omega) (by omega) (by omega) (by omega), h1 (y + 5) (by omega) (by omega) (by omega) (by omega), h2 0 (by decide), h2 1 (by decide), h2 2 (by decide), h2 3 (by decide), h2 4 (by decide), h2 5 (by decide)]
    exact a
  · rw [h1 1 (by omega) (by decide) (by decide) (by omega), h1 2 (by omega) (by decide) (by decide) (by omega), h2 0 (by decide), h2 7 (by decide)]; exact b
  · rw [h1 19 (by omega) (by decide) (by decide) (by omega), h1 20 (by omega) (by decide) (by decide) (by omega), h1 21 (by omega) (by decide) (by decide) (by omega), h2 0 (by decide), h2 15 (by decide), h2 16 (by decide)]; exact e
  · rw [h1 22 (by omega) (by decide) (by decide) (by omega), h2 0 (by decide)]; exact f
end RL
-- what the class keeps of its past
def remX (σ : Nat → Nat → Int32) (nx ct : Nat) : Nat → Nat → Int32 := va_up (va_up (va_up (va_up (va_up σ (29 + 4 * (2 + nx)) (T_X3_remember_O2 (σ (29 + 4 * (2 + nx))) (σ (29 + 4 * (2 + nx) + 1)) (σ (29 + 4 * (2 + nx) + 2)) (σ (29 + 4 * (2 + nx) + 3)) (σ 17) (σ (29 + 4 * 0)) (σ (29 + 4 * 0 + 1)) (σ (29 + 4 * 0 + 2)) (σ (29 + 4 * 0 + 3)) nx ct)) (29 + 4 * (2 + nx) + 1) (T_X3_remember_V2 (σ (29 + 4 * (2 + nx))) (σ (29 + 4 * (2 + nx) + 1)) (σ (29 + 4 * (2 + nx) + 2)) (σ (29 + 4 * (2 + nx) + 3)) (σ 17) (σ (29 + 4 * 0)) (σ (29 + 4 * 0 + 1)) (σ (29 + 4 * 0 + 2)) (σ (29 + 4 * 0 + 3)) nx ct)) (29 + 4 * (2 + nx) + 2) (T_X3_remember_P2 (σ (29 + 4 * (2 + nx))) (σ (29 + 4 * (2 + nx) + 1)) (σ (29 + 4 * (2 + nx) + 2)) (σ (29 + 4 * (2 + nx) + 3)) (σ 17) (σ (29 + 4 * 0)) (σ (29 + 4 * 0 + 1)) (σ (29 + 4 * 0 + 2)) (σ (29 + 4 * 0 + 3)) nx ct)) (29 + 4 * (2 + nx) + 3) (T_X3_remember_S2 (σ (29 + 4 * (2 + nx))) (σ (29 + 4 * (2 + nx) + 1)) (σ (29 + 4 * (2 + nx) + 2)) (σ (29 + 4 * (2 + nx) + 3)) (σ 17) (σ (29 + 4 * 0)) (σ (29 + 4 * 0 + 1)) (σ (29 + 4 * 0 + 2)) (σ (29 + 4 * 0 + 3)) nx ct)) 17 (T_X3_remember_PA (σ (29 + 4 * (2 + nx))) (σ (29 + 4 * (2 + nx) + 1)) (σ (29 + 4 * (2 + nx) + 2)) (σ (29 + 4 * (2 + nx) + 3)) (σ 17) (σ (29 + 4 * 0)) (σ (29 + 4 * 0 + 1)) (σ (29 + 4 * 0 + 2)) (σ (29 + 4 * 0 + 3)) nx ct)
theorem remX_r (σ : Nat → Nat → Int32) {nx ct r : Nat} (h : r ≠ 17) (h2 : r < 29 + 4 * (2 + nx) ∨ 29 + 4 * (2 + nx) + 3 < r) : remX σ nx ct r = σ r := by
  unfold remX
  rw [va_Q h, va_Q (by omega), va_Q (by omega), va_Q (by omega), va_Q (by omega)]
theorem cpy_in {f g : Nat → Int32} {m j : Nat} (h : j < m) : va_cpy f g 0 0 m j = f j := by
  unfold va_cpy
  simp [h]
/-- a well copied holds what the other holds -/
theorem WR.cpy {k n : Nat} {wt N O V P S O2 V2 P2 S2 : Nat → Int32} (h : WR k n wt N O V P S) (hn : n ≤ 10) : WR k n wt N (T_X6_copyFrom_O O2 V2 P2 S2 O V P S) (T_X6_copyFrom_V O2 V2 P2 S2 O V P S) (T_X6_copyFrom_P O2 V2 P2 S2 O V P S) (T_X6_copyFrom_S O2 V2 P2 S2 O V P S) := by
  refine h.copy (fun _ _ => rfl) (fun _ _ => rfl) (fun j h7 h6 => ?_) (fun j hj => cpy_in hj) (fun j hj => cpy_in hj) (fun j hj => cpy_in hj) hn
  rcases (show j = 0 ∨ j = 1 ∨ j = 2 ∨ j = 3 ∨ j = 4 ∨ j = 5 ∨ j = 7 by omega) with e | e | e | e | e | e | e <;> subst e <;> rfl
theorem remT_14 (μ : Nat → Nat → Int32) (u : Nat) : remT μ u 14 = putN (remA (μ 14) u) (μ 6) (23 * remV u) 23 := by unfold remT; simp [up2, va_up]
theorem remT_31 (μ : Nat → Nat → Int32) (u : Nat) : remT μ u 0 31 = nI (remV u + 1) := by unfold remT; simp [up2, va_up, upd]
/-- both remember -/
theorem RP_rem {k n nx ct : Nat} {wt : Nat → Int32} {σ μ : Nat → Nat → Int32} (h : RP k n nx ct wt σ (μ 0) (μ 14)) (hw : WRs k n wt (μ 6) σ 0) (hn : n ≤ 10) : RP k n ((nx + 1) % 16) (min (ct + 1) 16) wt (remX σ nx ct) (remT μ ct 0) (remT μ ct 14) := by
  obtain ⟨a, b, c, d, e, f⟩ := h
  refine ⟨Nat.mod_lt _ (by decide), by omega, ?_, ?_, ?_, fun j hj => ?_⟩
  · unfold remX; rw [va_Qs]; rfl
  · unfold remX; rw [va_Qs]; rfl
  · rw [remT_31]; unfold remV
    by_cases h16 : ct = 16
    · rw [if_pos h16]; subst h16; rfl
    · rw [if_neg h16, show min (ct + 1) 16 = ct + 1 by omega]
  · by_cases hl : j + 1 = min (ct + 1) 16
    · -- the newest
      have er : ring ((nx + 1) % 16) (min (ct + 1) 16) j = 2 + nx := by unfold ring; omega
      have hW : WR k n wt (μ 6) _ _ _ _ := hw
      have hN : ∀ i, i < 23 → remT μ ct 14 (23 * j + i) = μ 6 i := by
        intro i hi
        have ej : j = remV ct := by unfold remV; split <;> omega
        rw [remT_14, putN, if_pos (by rw [ej]; omega), ej, Nat.add_sub_cancel_left]
      rw [er]
      have h4 : remX σ nx ct (29 + 4 * (2 + nx)) = T_X6_copyFrom_O (σ (29 + 4 * (2 + nx))) (σ (29 + 4 * (2 + nx) + 1)) (σ (29 + 4 * (2 + nx) + 2)) (σ (29 + 4 * (2 + nx) + 3)) (σ (29 + 4 * 0)) (σ (29 + 4 * 0 + 1)) (σ (29 + 4 * 0 + 2)) (σ (29 + 4 * 0 + 3)) := by
        unfold remX; rw [va_Q (by omega), va_Q (by omega), va_Q (by omega), va_Q (by omega), va_Qs]; rfl
      have h5 : remX σ nx ct (29 + 4 * (2 + nx) + 1) = T_X6_copyFrom_V (σ (29 + 4 * (2 + nx))) (σ (29 + 4 * (2 + nx) + 1)) (σ (29 + 4 * (2 + nx) + 2)) (σ (29 + 4 * (2 + nx) + 3)) (σ (29 + 4 * 0)) (σ (29 + 4 * 0 + 1)) (σ (29 + 4 * 0 + 2)) (σ (29 + 4 * 0 + 3)) := by
        unfold remX; rw [va_Q (by omega), va_Q (by omega), va_Q (by omega), va_Qs]; rfl
      have h6 : remX σ nx ct (29 + 4 * (2 + nx) + 2) = T_X6_copyFrom_P (σ (29 + 4 * (2 + nx))) (σ (29 + 4 * (2 + nx) + 1)) (σ (29 + 4 * (2 + nx) + 2)) (σ (29 + 4 * (2 + nx) + 3)) (σ (29 + 4 * 0)) (σ (29 + 4 * 0 + 1)) (σ (29 + 4 * 0 + 2)) (σ (29 + 4 * 0 + 3)) := by
        unfold remX; rw [va_Q (by omega), va_Q (by omega), va_Qs]; rfl
      have h7 : remX σ nx ct (29 + 4 * (2 + nx) + 3) = T_X6_copyFrom_S (σ (29 + 4 * (2 + nx))) (σ (29 + 4 * (2 + nx) + 1)) (σ (29 + 4 * (2 + nx) + 2)) (σ (29 + 4 * (2 + nx) + 3)) (σ (29 + 4 * 0)) (σ (29 + 4 * 0 + 1)) (σ (29 + 4 * 0 + 2)) (σ (29 + 4 * 0 + 3)) := by
        unfold remX; rw [va_Q (by omega), va_Qs]; rfl
      unfold WRs
      rw [h4, h5, h6, h7]
      exact (hW.cpy hn).copy (fun _ _ => rfl) hN (fun _ _ _ => rfl) (fun _ _ => rfl) (fun _ _ => rfl) (fun _ _ => rfl) hn
    · -- the elder ones
      have hj2 : j + 1 < min (ct + 1) 16 := by omega
      have er : ring ((nx + 1) % 16) (min (ct + 1) 16) j = ring nx ct (if ct = 16 then j + 1 else j) := by
        unfold ring; split <;> omega
      have hne : (nx + 16 - ct + (if ct = 16 then j + 1 else j)) % 16 ≠ nx := by split <;> omega
      have hr := ring_lo nx ct (if ct = 16 then j + 1 else j)
      have hr2 : ring nx ct (if ct = 16 then j + 1 else j) ≠ 2 + nx := by unfold ring; omega
      have h9 := f (if ct = 16 then j + 1 else j) (by split <;> omega)
      rw [er]
      have hfr := h9.fr (wt' := wt) (N' := fun i => μ 14 (23 * (if ct = 16 then j + 1 else j) + i)) (σ' := remX σ nx ct) rfl rfl (fun r r1 r2 => remX_r σ (by omega) (by omega))
      refine WR.copy hfr (fun _ _ => rfl) (fun i hi => ?_) (fun _ _ _ => rfl) (fun _ _ => rfl) (fun _ _ => rfl) (fun _ _ => rfl) hn
      show remT μ ct 14 (23 * j + i) = μ 14 (23 * (if ct = 16 then j + 1 else j) + i)
      rw [remT_14, putN, if_neg (by unfold remV; split <;> omega)]
      unfold remA
      split
      · unfold shN; rw [if_pos (by omega)]; congr 1; omega
      · rfl
section RM
variable {y z k n nx ct len t sd sd' : Nat} {σ μ σ' μ' : Nat → Nat → Int32}
/-- a call that is remembered, and changes what is now -/
theorem Rl.g3 (h : Rl y z k n nx ct len t sd σ μ) (h1 : ∀ r, r ≠ 22 → ¬ (29 ≤ r ∧ r ≤ 32) → σ' r = remX σ nx ct r) (h2 : ∀ r, r ≠ 0 → r ≠ 6 → μ' r = remT μ ct r) (h3 : ∀ j, j ≠ 12 → μ' 0 j = remT μ ct 0 j) (hs : RS sd' (σ' 22) (μ' 0)) (hw : WRs k n (σ (y + 3)) (μ' 6) σ' 0) : Rel y z σ' μ' := by
  have hy := h.yz
  obtain ⟨h0, a, b, c, d, e, f, g⟩ := h
  have hn : n ≤ 10 := a.1.1.2.1
  have hnx : nx < 16 := d.1
  have k1 : ∀ r, r ≠ 17 → r ≠ 22 → ¬ (29 ≤ r ∧ r ≤ 100) → σ' r = σ r := fun r q1 q2 q3 => (h1 r q2 (by omega)).trans (remX_r σ q1 (by omega))
  have k2 : ∀ r, r ≠ 0 → r ≠ 6 → r ≠ 14 → μ' r = μ r := fun r q1 q2 q3 => (h2 r q1 q2).trans (remT_r μ ct q1 q3)
  have k3 : ∀ j, j ≠ 12 → j ≠ 31 → μ' 0 j = μ 0 j := fun j q1 q2 => (h3 j q1).trans (remT_0 μ ct q2)
  have hwt : σ' (y + 3) = σ (y + 3) := k1 _ (by omega) (by omega) (by omega)
  refine ⟨k, n, (nx + 1) % 16, min (ct + 1) 16, len, t, sd', h0, ?_, ?_, ?_, ?_, ?_, hs, ?_⟩
  · obtain ⟨a1, ⟨a2, a3, a4, a5, a6, a7, a8, a9⟩, a10, a11⟩ := a
    rw [hwt, k1 y (by omega) (by omega) (by omega), k1 (y + 1) (by omega) (by omega) (by omega), k1 (y + 2) (by omega) (by omega) (by omega), k1 (y + 4) (by omega) (by omega) (by omega), k1 (y + 5) (by omega) (by omega) (by omega), k2 1 (by decide) (by decide) (by decide), k2 2 (by decide) (by decide) (by decide), k2 3 (by decide) (by decide) (by decide), k2 4 (by decide) (by decide) (by decide), k2 5 (by decide) (by decide) (by decide)]
    exact ⟨a1, ⟨a2, a3, a4, by rw [k3 0 (by decide) (by decide)]; exact a5, by rw [k3 2 (by decide) (by decide)]; exact a6, by rw [k3 3 (by decide) (by decide)]; exact a7, by rw [k3 5 (by decide) (by decide)]; exact a8, by rw [k3 9 (by decide) (by decide)]; exact a9⟩, a10, a11⟩
  · obtain ⟨b1, b2, b3, b4, b5, b6⟩ := b
    rw [k1 1 (by decide) (by decide) (by omega), k1 2 (by decide) (by decide) (by omega), k2 7 (by decide) (by decide) (by decide)]
    exact ⟨b1, b2, by rw [k3 14 (by decide) (by decide)]; exact b3, by rw [k3 15 (by decide) (by decide)]; exact b4, b5, b6⟩
  · rw [hwt]; exact hw
  · exact (RP_rem d c hn).fr hwt (h1 17 (by decide) (by omega)) (fun r r1 r2 => h1 r (by omega) (by omega)) (h3 31 (by decide)) (h2 14 (by decide) (by decide))
  · obtain ⟨b1, b2, b3, b4⟩ := e
    rw [k1 19 (by decide) (by decide) (by omega), k1 20 (by decide) (by decide) (by omega), k1 21 (by decide) (by decide) (by omega), k2 15 (by decide) (by decide) (by decide), k2 16 (by decide) (by decide) (by decide)]
    exact ⟨b1, b2, by rw [k3 33 (by decide) (by decide)]; exact b3, b4⟩
  · exact g.fr hwt (k1 25 (by decide) (by decide) (by omega)) (k1 26 (by decide) (by decide) (by omega)) (fun r r1 r2 => k1 r (by omega) (by omega) (by omega)) (k2 17 (by decide) (by decide) (by decide)) (k2 18 (by decide) (by decide) (by decide))
end RM
