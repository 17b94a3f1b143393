section OD
variable {y z k n nx ct len t sd : Nat} {σ μ : Nat → Nat → Int32} {v w x : Int32}
theorem xtS_lt (n k : Nat) {B : Nat} (hB : B = 2 ^ 31) : ∀ i sd, sd < B → xtS n k i sd < B := by
  intro i
  induction i with
  | zero => intro sd h; exact h
  | succ i ih => intro sd h; exact ih _ (xeS_lt n (xqS n k sd) hB)
theorem op_drift (h : Rl y z k n nx ct len t sd σ μ) : (if R_X8_refusalOfNights σ y v = 0 then xtO (σ (y + 1)) (σ (y + 2)) (σ (y + 3)) (σ y 2) n k (v.toNatClampNeg) sd (σ (29 + 4 * 0)) (σ (29 + 4 * 0 + 1)) 0 else R_X8_refusalOfNights σ y v) = R_X9_drift μ n k ct sd v ∧ Rel y z (if R_X8_refusalOfNights σ y v = 0 then va_up (va_up (va_up (remX σ nx ct) (29 + 4 * 0) (xtO (σ (y + 1)) (σ (y + 2)) (σ (y + 3)) (σ y 2) n k (v.toNatClampNeg) sd (σ (29 + 4 * 0)) (σ (29 + 4 * 0 + 1)))) (29 + 4 * 0 + 1) (xtV (σ (y + 1)) (σ (y + 2)) (σ (y + 3)) (σ y 2) n k (v.toNatClampNeg) sd (σ (29 + 4 * 0)) (σ (29 + 4 * 0 + 1)))) 22 (upd (σ 22) 0 (nI (xtS n k (v.toNatClampNeg) sd))) else σ) (T_X9_drift μ n k ct sd v) := by
  have hn := h.hn
  have hw := h.w0
  have a6 : μ 0 2 = σ y 2 := h.2.1.2.1.2.2.2.2.1
  have hsp : iN 0 20 (σ y 2) := h.2.1.1.1.2.2.2
  have a10 := h.2.1.2.2.1
  have a11 := h.2.1.2.2.2
  obtain ⟨D1, D2⟩ := WR.dr (ow := σ (y + 2)) (m2 := μ 2) (m3 := μ 3) (sp := σ y 2) hn hsp h.2.1.1.2.1 a10 (fun j hj => ⟨(a11 j hj).1, (a11 j hj).2.1⟩) (v.toNatClampNeg) sd (μ 6) (σ (29 + 4 * 0)) (σ (29 + 4 * 0 + 1)) hw
  have hlt := xtS_lt n k rfl (v.toNatClampNeg) sd h.hsd.1
  unfold R_X9_drift T_X9_drift
  rw [ref_e h, a6]
  by_cases c : R_X9_nightsRefused μ v = 0
  · rw [if_pos c, if_pos c, if_pos c, if_pos c]
    refine ⟨D2.2.1.2.2.1, ?_⟩
    refine h.g3 (sd' := xtS n k (v.toNatClampNeg) sd) (fun r r1 r2 => by rw [va_Q r1, va_Q (by omega), va_Q (by omega)]) (fun r r1 r2 => by rw [va_Q r2, up2_Q r1]) (fun j j1 => by rw [va_Q (by decide), up2_K j1]) ?_ ?_
    · refine ⟨hlt, ?_, ?_⟩
      · rw [va_Qs, upd_eq]
      · rw [va_Q (by decide), up2_S, D1]
    · unfold WRs
      rw [va_Qs, va_Q (show (29 + 4 * 0 : Nat) ≠ 22 by decide), va_Q (show (29 + 4 * 0 : Nat) ≠ 29 + 4 * 0 + 1 by decide), va_Qs, va_Q (show (29 + 4 * 0 + 1 : Nat) ≠ 22 by decide), va_Qs, va_Q (show (29 + 4 * 0 + 2 : Nat) ≠ 22 by decide), va_Q (show (29 + 4 * 0 + 2 : Nat) ≠ 29 + 4 * 0 + 1 by decide), va_Q (show (29 + 4 * 0 + 2 : Nat) ≠ 29 + 4 * 0 by decide), va_Q (show (29 + 4 * 0 + 3 : Nat) ≠ 22 by decide), va_Q (show (29 + 4 * 0 + 3 : Nat) ≠ 29 + 4 * 0 + 1 by decide), va_Q (show (29 + 4 * 0 + 3 : Nat) ≠ 29 + 4 * 0 by decide), remX_w _ (by omega), remX_w _ (by omega)]
      exact D2
  · rw [if_neg c, if_neg c, if_neg c, if_neg c]; exact ⟨rfl, h.rel⟩
theorem op_keep (h : Rl y z k n nx ct len t sd σ μ) : R_X8_keep σ v = R_X9_keep μ v ∧ Rel y z (T_X8_keep σ v) (T_X9_keep μ v) := by
  have hn := h.hn
  have hy := h.yz
  have hw := h.w0
  obtain ⟨p1, p2, p3, p4, p5, p6⟩ := h.2.2.2.2.1
  have hI := h.2.2.2.2.2.2.2
  obtain ⟨s1, s2, s3⟩ := h.hsd
  unfold R_X8_keep R_X9_keep T_X8_keep T_X9_keep
  by_cases c1 : v < 0
  · have c0 : ¬ (0 ≤ v ∧ v ≤ 1) := fun q => Int32.not_le.mpr c1 q.1
    rw [if_pos c1, if_neg c0, if_pos c1, if_neg c0]; exact ⟨rfl, h.rel⟩
  · rw [if_neg c1, if_neg c1]
    by_cases c2 : v < 2
    · obtain ⟨i, hi, rfl⟩ := nI_rng (n := 2) (by decide) c1 (Int32.not_le.mpr c2)
      have c0 : 0 ≤ nI i ∧ nI i ≤ 1 := ⟨Int32.not_lt.mp c1, nI_le (b := 1) (by omega) (by decide)⟩
      rw [if_pos c2, if_pos c0, if_pos c2, if_pos c0, nI_clamp (by omega)]
      refine ⟨rfl, Rl.rel (Rl.g4 (nx' := nx) (ct' := 0) (sd' := sd) h (fun r r1 _ r3 r4 _ r6 => by rw [va_Q r1, va_Q r4, va_Q r3, va_Q (by omega), va_Q (by omega), va_Q (by omega), va_Q (by omega)]) (fun r r1 _ _ r4 r5 => by rw [up2_Q r1, up2_Q r5, up2_Q r4, va_Q r4]) (fun j _ j2 => by rw [up2_K j2, up2_Q (by decide), up2_Q (by decide), va_Q (by decide)]) ?_ ?_ ?_ ?_)⟩
      · refine ⟨s1, ?_, ?_⟩
        · rw [va_Q (by decide), va_Q (by decide), va_Q (by decide), va_Q (by omega), va_Q (by omega), va_Q (by omega), va_Q (by omega)]; exact s2
        · rw [up2_K (by decide), up2_Q (by decide), up2_Q (by decide), va_Q (by decide)]; exact s3
      · exact (show WRs k n (σ (y + 3)) (μ 6) σ 0 from hw).fr rfl (by rw [up2_Q (by decide), up2_Q (by decide), up2_Q (by decide), va_Q (by decide)]) (fun r r1 r2 => by rw [va_Q (by omega), va_Q (by omega), va_Q (by omega), va_Q (by omega), va_Q (by omega), va_Q (by omega), va_Q (by omega)])
      · refine ⟨p1, by omega, ?_, ?_, ?_, fun j hj => absurd hj (by omega)⟩
        · rw [va_Qs]; exact p3
        · rw [va_Qs]; rfl
        · rw [up2_S]; rfl
      · intro i2 hi2
        have e18 : up2 (up2 (up2 (va_up μ 17 (putN (μ 17) (μ 6) (24 * i) 23)) 17 (24 * i + 23) (μ 0 12)) 18 i 1) 0 31 0 18 = upd (μ 18) i 1 := by
          rw [up2_Q (by decide), up2_row, up2_Q (by decide), va_Q (by decide)]
        have e17 : up2 (up2 (up2 (va_up μ 17 (putN (μ 17) (μ 6) (24 * i) 23)) 17 (24 * i + 23) (μ 0 12)) 18 i 1) 0 31 0 17 = upd (putN (μ 17) (μ 6) (24 * i) 23) (24 * i + 23) (μ 0 12) := by
          rw [up2_Q (by decide), up2_Q (by decide), up2_row, va_Qs]
        rw [e18, e17]
        rw [va_Q (show (26 : Nat) ≠ 17 by decide), va_Qs, va_Q (show (25 : Nat) ≠ 17 by decide), va_Q (show (25 : Nat) ≠ 26 by decide), va_Qs]
        unfold T_X2_take_KE T_X2_take_GR
        by_cases e : i2 = i
        · subst e
          rw [upd_eq, upd_eq, upd_eq, upd_eq]
          refine ⟨rfl, fun _ => ⟨?_, s2.trans s3.symm, sd, s1, s3⟩⟩
          unfold WRs
          have r0 : ∀ (S : Nat → Nat → Int32) (a b c d e f g : Nat → Int32), va_up (va_up (va_up (va_up (va_up (va_up (va_up S (29 + 4 * (18 + i2)) a) (29 + 4 * (18 + i2) + 1) b) (29 + 4 * (18 + i2) + 2) c) (29 + 4 * (18 + i2) + 3) d) 25 e) 26 f) 17 g (29 + 4 * (18 + i2)) = a ∧ va_up (va_up (va_up (va_up (va_up (va_up (va_up S (29 + 4 * (18 + i2)) a) (29 + 4 * (18 + i2) + 1) b) (29 + 4 * (18 + i2) + 2) c) (29 + 4 * (18 + i2) + 3) d) 25 e) 26 f) 17 g (29 + 4 * (18 + i2) + 1) = b ∧ va_up (va_up (va_up (va_up (va_up (va_up (va_up S (29 + 4 * (18 + i2)) a) (29 + 4 * (18 + i2) + 1) b) (29 + 4 * (18 + i2) + 2) c) (29 + 4 * (18 + i2) + 3) d) 25 e) 26 f) 17 g (29 + 4 * (18 + i2) + 2) = c ∧ va_up (va_up (va_up (va_up (va_up (va_up (va_up S (29 + 4 * (18 + i2)) a) (29 + 4 * (18 + i2) + 1) b) (29 + 4 * (18 + i2) + 2) c) (29 + 4 * (18 + i2) + 3) d) 25 e) 26 f) 17 g (29 + 4 * (18 + i2) + 3) = d := fun S a b c d e f g => by
            refine ⟨?_, ?_, ?_, ?_⟩
            · rw [va_Q (by omega), va_Q (by omega), va_Q (by omega), va_Q (by omega), va_Q (by omega), va_Q (by omega), va_Qs]
            · rw [va_Q (by omega), va_Q (by omega), va_Q (by omega), va_Q (by omega), va_Q (by omega), va_Qs]
            · rw [va_Q (by omega), va_Q (by omega), va_Q (by omega), va_Q (by omega), va_Qs]
            · rw [va_Q (by omega), va_Q (by omega), va_Q (by omega), va_Qs]
          rw [(r0 _ _ _ _ _ _ _ _).1, (r0 _ _ _ _ _ _ _ _).2.1, (r0 _ _ _ _ _ _ _ _).2.2.1, (r0 _ _ _ _ _ _ _ _).2.2.2]
          refine WR.copy (hw.cpy hn) (fun _ _ => rfl) (fun j hj => ?_) (fun _ _ _ => rfl) (fun _ _ => rfl) (fun _ _ => rfl) (fun _ _ => rfl) hn
          show upd (putN (μ 17) (μ 6) (24 * i2) 23) (24 * i2 + 23) (μ 0 12) (24 * i2 + j) = μ 6 j
          rw [upd_ne _ _ (by omega), putN, if_pos (by omega), Nat.add_sub_cancel_left]
        · obtain ⟨q1, q2⟩ := hI i2 hi2
          rw [upd_ne _ _ e, upd_ne _ _ e, upd_ne _ _ e]
          refine ⟨q1, fun qq => ?_⟩
          obtain ⟨q3, q4, q5⟩ := q2 qq
          have en : ∀ j, j ≤ 23 → upd (putN (μ 17) (μ 6) (24 * i) 23) (24 * i + 23) (μ 0 12) (24 * i2 + j) = μ 17 (24 * i2 + j) := fun j hj => by
            rw [upd_ne _ _ (by omega), putN, if_neg (by omega)]
          rw [en 23 (by omega)]
          refine ⟨?_, q4, q5⟩
          have q6 := q3.fr (wt' := σ (y + 3)) (N' := fun j => μ 17 (24 * i2 + j)) (σ' := (va_up (va_up (va_up (va_up (va_up (va_up (va_up σ (29 + 4 * (18 + i)) (T_X2_take_O2 (σ (29 + 4 * (18 + i))) (σ (29 + 4 * (18 + i) + 1)) (σ (29 + 4 * (18 + i) + 2)) (σ (29 + 4 * (18 + i) + 3)) (σ (29 + 4 * 0)) (σ (29 + 4 * 0 + 1)) (σ (29 + 4 * 0 + 2)) (σ (29 + 4 * 0 + 3)) (σ 22) (σ 25) (σ 26) i)) (29 + 4 * (18 + i) + 1) (T_X2_take_V2 (σ (29 + 4 * (18 + i))) (σ (29 + 4 * (18 + i) + 1)) (σ (29 + 4 * (18 + i) + 2)) (σ (29 + 4 * (18 + i) + 3)) (σ (29 + 4 * 0)) (σ (29 + 4 * 0 + 1)) (σ (29 + 4 * 0 + 2)) (σ (29 + 4 * 0 + 3)) (σ 22) (σ 25) (σ 26) i)) (29 + 4 * (18 + i) + 2) (T_X2_take_P2 (σ (29 + 4 * (18 + i))) (σ (29 + 4 * (18 + i) + 1)) (σ (29 + 4 * (18 + i) + 2)) (σ (29 + 4 * (18 + i) + 3)) (σ (29 + 4 * 0)) (σ (29 + 4 * 0 + 1)) (σ (29 + 4 * 0 + 2)) (σ (29 + 4 * 0 + 3)) (σ 22) (σ 25) (σ 26) i)) (29 + 4 * (18 + i) + 3) (T_X2_take_S2 (σ (29 + 4 * (18 + i))) (σ (29 + 4 * (18 + i) + 1)) (σ (29 + 4 * (18 + i) + 2)) (σ (29 + 4 * (18 + i) + 3)) (σ (29 + 4 * 0)) (σ (29 + 4 * 0 + 1)) (σ (29 + 4 * 0 + 2)) (σ (29 + 4 * 0 + 3)) (σ 22) (σ 25) (σ 26) i)) 25 (upd (σ 25) i (σ 22 0))) 26 (upd (σ 26) i 1)) 17 (T_X3_forget_PA (σ 17)))) rfl rfl (fun r r1 r2 => by rw [va_Q (by omega), va_Q (by omega), va_Q (by omega), va_Q (by omega), va_Q (by omega), va_Q (by omega), va_Q (by omega)])
          exact WR.copy q6 (fun _ _ => rfl) (fun j hj => en j (by omega)) (fun _ _ _ => rfl) (fun _ _ => rfl) (fun _ _ => rfl) (fun _ _ => rfl) hn
    · have c0 : ¬ (0 ≤ v ∧ v ≤ 1) := fun q => c2 (by
        obtain ⟨j, hj, rfl⟩ := nI_rng3 (n := 1) (by decide) q
        exact nI_lt (b := 2) (by omega) (by decide))
      rw [if_neg c2, if_neg c0, if_neg c2, if_neg c0]; exact ⟨rfl, h.rel⟩
theorem op_goBack (h : Rl y z k n nx ct len t sd σ μ) : R_X8_goBack σ v = R_X9_goBack μ v ∧ Rel y z (T_X8_goBack σ v) (T_X9_goBack μ v) := by
  have hn := h.hn
  have hy := h.yz
  obtain ⟨p1, p2, p3, p4, p5, p6⟩ := h.2.2.2.2.1
  have hI := h.2.2.2.2.2.2.2
  unfold R_X8_goBack R_X9_goBack T_X8_goBack T_X9_goBack
  by_cases c1 : v < 0
  · have c0 : ¬ (0 ≤ v ∧ v ≤ 1) := fun q => Int32.not_le.mpr c1 q.1
    rw [if_pos c1, if_neg c0, if_pos c1, if_neg c0]; exact ⟨rfl, h.rel⟩
  · rw [if_neg c1, if_neg c1]
    by_cases c2 : v < 2
    · obtain ⟨i, hi, rfl⟩ := nI_rng (n := 2) (by decide) c1 (Int32.not_le.mpr c2)
      have c0 : 0 ≤ nI i ∧ nI i ≤ 1 := ⟨Int32.not_lt.mp c1, nI_le (b := 1) (by omega) (by decide)⟩
      rw [if_pos c2, if_pos c0, if_pos c2, if_pos c0, nI_clamp (by omega)]
      obtain ⟨q1, q2⟩ := hI i hi
      rw [q1]
      by_cases c3 : μ 18 i = 0
      · rw [if_neg (fun q => q c3), if_pos c3, if_neg (fun q => q c3), if_pos c3]; exact ⟨rfl, h.rel⟩
      · rw [if_pos c3, if_neg c3, if_pos c3, if_neg c3]
        obtain ⟨q3, q4, sd2, q5, q6⟩ := q2 c3
        refine ⟨rfl, Rl.rel (Rl.g4 (nx' := nx) (ct' := 0) (sd' := sd2) h (fun r r1 r2 _ _ r5 _ => by rw [va_Q r1, va_Q r2, va_Q (by omega), va_Q (by omega), va_Q (by omega), va_Q (by omega)]) (fun r r1 r2 _ _ _ => by rw [up2_Q r1, up2_Q r1, va_Q r2]) (fun j j1 j2 => by rw [up2_K j2, up2_K j1, va_Q (by decide)]) ?_ ?_ ?_ ?_)⟩
        · refine ⟨q5, ?_, ?_⟩
          · rw [va_Q (by decide), va_Qs]; exact q4.trans q6
          · rw [up2_K (by decide), up2_S]; exact q6
        · unfold WRs
          have r0 : ∀ (S : Nat → Nat → Int32) (a b c d e f : Nat → Int32), va_up (va_up (va_up (va_up (va_up (va_up S (29 + 4 * 0) a) (29 + 4 * 0 + 1) b) (29 + 4 * 0 + 2) c) (29 + 4 * 0 + 3) d) 22 e) 17 f (29 + 4 * 0) = a ∧ va_up (va_up (va_up (va_up (va_up (va_up S (29 + 4 * 0) a) (29 + 4 * 0 + 1) b) (29 + 4 * 0 + 2) c) (29 + 4 * 0 + 3) d) 22 e) 17 f (29 + 4 * 0 + 1) = b ∧ va_up (va_up (va_up (va_up (va_up (va_up S (29 + 4 * 0) a) (29 + 4 * 0 + 1) b) (29 + 4 * 0 + 2) c) (29 + 4 * 0 + 3) d) 22 e) 17 f (29 + 4 * 0 + 2) = c ∧ va_up (va_up (va_up (va_up (va_up (va_up S (29 + 4 * 0) a) (29 + 4 * 0 + 1) b) (29 + 4 * 0 + 2) c) (29 + 4 * 0 + 3) d) 22 e) 17 f (29 + 4 * 0 + 3) = d := fun S a b c d e f => ⟨rfl, rfl, rfl, rfl⟩
          rw [(r0 _ _ _ _ _ _ _).1, (r0 _ _ _ _ _ _ _).2.1, (r0 _ _ _ _ _ _ _).2.2.1, (r0 _ _ _ _ _ _ _).2.2.2]
          refine WR.copy (WR.cpy q3 hn) (fun _ _ => rfl) (fun j hj => ?_) (fun _ _ _ => rfl) (fun _ _ => rfl) (fun _ _ => rfl) (fun _ _ => rfl) hn
          rw [up2_Q (by decide), up2_Q (by decide), va_Qs, putN, if_pos (by omega), Nat.sub_zero]
        · refine ⟨p1, by omega, ?_, ?_, ?_, fun j hj => absurd hj (by omega)⟩
          · rw [va_Qs]; exact p3
          · rw [va_Qs]; rfl
          · rw [up2_S]; rfl
        · exact hI.fr rfl (by rw [va_Q (by decide), va_Q (by decide), va_Q (by decide), va_Q (by decide), va_Q (by decide), va_Q (by decide)]) (by rw [va_Q (by decide), va_Q (by decide), va_Q (by decide), va_Q (by decide), va_Q (by decide), va_Q (by decide)]) (fun r r1 r2 => by rw [va_Q (by omega), va_Q (by omega), va_Q (by omega), va_Q (by omega), va_Q (by omega), va_Q (by omega)]) (by rw [up2_Q (by decide), up2_Q (by decide), va_Q (by decide)]) (by rw [up2_Q (by decide), up2_Q (by decide), va_Q (by decide)])
    · have c0 : ¬ (0 ≤ v ∧ v ≤ 1) := fun q => c2 (by
        obtain ⟨j, hj, rfl⟩ := nI_rng3 (n := 1) (by decide) q
        exact nI_lt (b := 2) (by omega) (by decide))
      rw [if_neg c2, if_neg c0, if_neg c2, if_neg c0]; exact ⟨rfl, h.rel⟩
end OD
