def PostY (σ τ : Nat → Nat → Int32) (v : Int32) (ps : Nat → Nat → Int32) : Prop :=
  τ 0 14 = 0 ∧ τ 0 15 = ps 0 2 ∧ τ 0 12 = σ 0 12 ∧ (∀ r, r = 7 ∨ (13 ≤ r ∧ r ≤ 17) → τ r = σ r) ∧
  (¬ ps 0 3 = 0 → v = -10 - ps 0 3 ∧ (∀ j, (j ≤ 13 ∨ 29 ≤ j) → τ 0 j = σ 0 j) ∧ (∀ r, (1 ≤ r ∧ r ≤ 6) ∨ r = 18 → τ r = σ r)) ∧
  (ps 0 3 = 0 → ∃ k n, BndC (ps 1) (ps 2) (ps 3) (ps 4) (ps 5) (ps 6) k n ∧ v = nI n ∧ ps 1 3 = nI k ∧ ps 1 5 = nI n ∧ vb (ps 1 0) ∧ iN 0 15 (ps 1 10) ∧ (τ 0 0 = ps 1 0 ∧ τ 0 2 = ps 1 2 ∧ τ 0 3 = nI k ∧ τ 0 5 = nI n ∧ τ 0 9 = ps 1 10 ∧ τ 0 31 = 0 ∧ τ 0 33 = 0) ∧ (∀ j, j < k → τ 1 j = ps 2 j) ∧ (∀ j, j < n → τ 2 j = ps 3 j ∧ τ 3 j = ps 4 j ∧ τ 4 j = ps 5 j + 50 ∧ τ 5 j = ps 6 j) ∧ (∀ j, j < 23 → τ 6 j = if j = 12 then ps 1 1 else 0) ∧ τ 18 0 = 0 ∧ τ 18 1 = 0)

theorem postY_f {σ : Nat → Nat → Int32} {len : Nat} {PS : Nat → Nat → Int32} {f : Int32} {c a k n : Nat} {ms ps : Nat → Nat → Int32} (h : LoopY (σ 7) (σ 0) len PS f c a k n ms ps) (hf : ¬ f = 0) : PostY σ (va_up (va_up (va_up (va_up (va_up (va_up (va_up (va_up (va_up (va_up (va_up (va_up (va_up σ 0 (upd (ms 0) 14 0)) 1 (σ 1)) 2 (σ 2)) 3 (σ 3)) 4 (σ 4)) 5 (σ 5)) 6 (σ 6)) 8 (ms 1)) 9 (ms 2)) 10 (ms 3)) 11 (ms 4)) 12 (ms 5)) 18 (σ 18)) ((-10) - f) PS := by
  obtain ⟨h3, _, hO, hQ, hF, _⟩ := h
  rw [psL_K _ (by rw [h3]; exact hf)] at hF
  subst hF
  refine ⟨rfl, hQ hf, hO 12 (by omega), fun r hr => ?_, fun _ => ⟨by rw [h3], fun j hj => ?_, fun r hr => ?_⟩, fun q => absurd (h3.symm.trans q) hf⟩
  · rcases (show r = 7 ∨ r = 13 ∨ r = 14 ∨ r = 15 ∨ r = 16 ∨ r = 17 by omega) with e | e | e | e | e | e <;> subst e <;> rfl
  · show upd (ms 0) 14 0 j = σ 0 j
    rw [upd_ne _ _ (by omega)]; exact hO j (by omega)
  · rcases (show r = 1 ∨ r = 2 ∨ r = 3 ∨ r = 4 ∨ r = 5 ∨ r = 6 ∨ r = 18 by omega) with e | e | e | e | e | e | e <;> subst e <;> rfl

theorem postY_o {σ : Nat → Nat → Int32} {len : Nat} {PS : Nat → Nat → Int32} {f : Int32} {c a k n : Nat} {ms ps : Nat → Nat → Int32} (h : LoopY (σ 7) (σ 0) len PS f c a k n ms ps) (hf : f = 0) (hl : len ≤ 240) (hge : len ≤ skB (σ 7) len a) : PostY σ (va_up (va_up (va_up (va_up (va_up (va_up (va_up (va_up (va_up (va_up (va_up (va_up (va_up σ 0 (upd (upd (T_X9_takeRead_O (upd (upd (ms 0) 16 (nI (skB (σ 7) len a))) 14 0) (σ 1) (σ 2) (σ 3) (σ 4) (σ 5) (σ 6) (ms 1) (ms 2) (ms 3) (ms 4) (ms 5) k n) 33 0) 31 0)) 1 (T_X9_takeRead_ar (upd (upd (ms 0) 16 (nI (skB (σ 7) len a))) 14 0) (σ 1) (σ 2) (σ 3) (σ 4) (σ 5) (σ 6) (ms 1) (ms 2) (ms 3) (ms 4) (ms 5) k n)) 2 (T_X9_takeRead_ow (upd (upd (ms 0) 16 (nI (skB (σ 7) len a))) 14 0) (σ 1) (σ 2) (σ 3) (σ 4) (σ 5) (σ 6) (ms 1) (ms 2) (ms 3) (ms 4) (ms 5) k n)) 3 (T_X9_takeRead_wt (upd (upd (ms 0) 16 (nI (skB (σ 7) len a))) 14 0) (σ 1) (σ 2) (σ 3) (σ 4) (σ 5) (σ 6) (ms 1) (ms 2) (ms 3) (ms 4) (ms 5) k n)) 4 (T_X9_takeRead_wo (upd (upd (ms 0) 16 (nI (skB (σ 7) len a))) 14 0) (σ 1) (σ 2) (σ 3) (σ 4) (σ 5) (σ 6) (ms 1) (ms 2) (ms 3) (ms 4) (ms 5) k n)) 5 (T_X9_takeRead_fr (upd (upd (ms 0) 16 (nI (skB (σ 7) len a))) 14 0) (σ 1) (σ 2) (σ 3) (σ 4) (σ 5) (σ 6) (ms 1) (ms 2) (ms 3) (ms 4) (ms 5) k n)) 6 (T_X9_takeRead_N (upd (upd (ms 0) 16 (nI (skB (σ 7) len a))) 14 0) (σ 1) (σ 2) (σ 3) (σ 4) (σ 5) (σ 6) (ms 1) (ms 2) (ms 3) (ms 4) (ms 5) k n)) 8 (ms 1)) 9 (ms 2)) 10 (ms 3)) 11 (ms 4)) 12 (ms 5)) 18 (upd (upd (σ 18) 0 0) 1 0)) ((T_X9_takeRead_O (upd (upd (ms 0) 16 (nI (skB (σ 7) len a))) 14 0) (σ 1) (σ 2) (σ 3) (σ 4) (σ 5) (σ 6) (ms 1) (ms 2) (ms 3) (ms 4) (ms 5) k n) 5) PS := by
  obtain ⟨h3, _, hO, _, hF, hI⟩ := h
  obtain ⟨hc, ha, e16, e4, hR, hB⟩ := hI hf
  have eA : psA ps = skB (σ 7) len a := by
    have := (skB_le (tx := σ 7) ha).2
    unfold psA; rw [e4]; exact nI_clamp (by omega)
  rw [psL_A _ (by rw [eA]; omega)] at hF
  subst hF
  obtain ⟨⟨r14, r15, r19, rvb, r0, r1⟩, ⟨r22, y3, r24, y5, r28, y10⟩, rar, rrows⟩ := hR
  have e19 : (upd (upd (ms 0) 16 (nI (skB (σ 7) len a))) 14 0) 19 = ps 1 0 := r19
  have e20 : (upd (upd (ms 0) 16 (nI (skB (σ 7) len a))) 14 0) 20 = ms 0 20 := rfl
  refine ⟨?_, ?_, ?_, fun r hr => ?_, fun q => absurd (h3.trans hf) q, fun _ => ⟨k, n, hB, ?_, y3, y5, rvb, y10, ⟨?_, ?_, ?_, ?_, ?_, rfl, rfl⟩, fun j hj => ?_, fun j hj => ⟨?_, ?_, ?_, ?_⟩, fun j hj => ?_, rfl, rfl⟩⟩
  · show T_X9_takeRead_O (upd (upd (ms 0) 16 (nI (skB (σ 7) len a))) 14 0) (σ 1) (σ 2) (σ 3) (σ 4) (σ 5) (σ 6) (ms 1) (ms 2) (ms 3) (ms 4) (ms 5) k n 14 = 0
    unfold T_X9_takeRead_O; split <;> rfl
  · show T_X9_takeRead_O (upd (upd (ms 0) 16 (nI (skB (σ 7) len a))) 14 0) (σ 1) (σ 2) (σ 3) (σ 4) (σ 5) (σ 6) (ms 1) (ms 2) (ms 3) (ms 4) (ms 5) k n 15 = _
    unfold T_X9_takeRead_O; split <;> exact r15
  · show T_X9_takeRead_O (upd (upd (ms 0) 16 (nI (skB (σ 7) len a))) 14 0) (σ 1) (σ 2) (σ 3) (σ 4) (σ 5) (σ 6) (ms 1) (ms 2) (ms 3) (ms 4) (ms 5) k n 12 = _
    unfold T_X9_takeRead_O; split <;> exact hO 12 (by omega)
  · rcases (show r = 7 ∨ r = 13 ∨ r = 14 ∨ r = 15 ∨ r = 16 ∨ r = 17 by omega) with e | e | e | e | e | e <;> subst e <;> rfl
  · unfold T_X9_takeRead_O; split <;> rfl
  · show T_X9_takeRead_O (upd (upd (ms 0) 16 (nI (skB (σ 7) len a))) 14 0) (σ 1) (σ 2) (σ 3) (σ 4) (σ 5) (σ 6) (ms 1) (ms 2) (ms 3) (ms 4) (ms 5) k n 0 = _
    unfold T_X9_takeRead_O; split <;> exact r19
  · show T_X9_takeRead_O (upd (upd (ms 0) 16 (nI (skB (σ 7) len a))) 14 0) (σ 1) (σ 2) (σ 3) (σ 4) (σ 5) (σ 6) (ms 1) (ms 2) (ms 3) (ms 4) (ms 5) k n 2 = _
    unfold T_X9_takeRead_O; split
    · rename_i q; exact (r0 (e19.symm.trans q)).2.symm
    · rename_i q; exact (r1 (fun z => q (e19.trans z))).2
  · show T_X9_takeRead_O (upd (upd (ms 0) 16 (nI (skB (σ 7) len a))) 14 0) (σ 1) (σ 2) (σ 3) (σ 4) (σ 5) (σ 6) (ms 1) (ms 2) (ms 3) (ms 4) (ms 5) k n 3 = _
    unfold T_X9_takeRead_O; split <;> rfl
  · show T_X9_takeRead_O (upd (upd (ms 0) 16 (nI (skB (σ 7) len a))) 14 0) (σ 1) (σ 2) (σ 3) (σ 4) (σ 5) (σ 6) (ms 1) (ms 2) (ms 3) (ms 4) (ms 5) k n 5 = _
    unfold T_X9_takeRead_O; split <;> rfl
  · show T_X9_takeRead_O (upd (upd (ms 0) 16 (nI (skB (σ 7) len a))) 14 0) (σ 1) (σ 2) (σ 3) (σ 4) (σ 5) (σ 6) (ms 1) (ms 2) (ms 3) (ms 4) (ms 5) k n 9 = _
    unfold T_X9_takeRead_O; split <;> exact r28
  · show T_X9_takeRead_ar (upd (upd (ms 0) 16 (nI (skB (σ 7) len a))) 14 0) (σ 1) (σ 2) (σ 3) (σ 4) (σ 5) (σ 6) (ms 1) (ms 2) (ms 3) (ms 4) (ms 5) k n j = _
    unfold T_X9_takeRead_ar; rw [ite_self, putN, if_pos (by omega)]; exact rar j hj
  · show T_X9_takeRead_ow (upd (upd (ms 0) 16 (nI (skB (σ 7) len a))) 14 0) (σ 1) (σ 2) (σ 3) (σ 4) (σ 5) (σ 6) (ms 1) (ms 2) (ms 3) (ms 4) (ms 5) k n j = _
    unfold T_X9_takeRead_ow; rw [ite_self, putN, if_pos (by omega)]; exact (rrows j hj).1
  · show T_X9_takeRead_wt (upd (upd (ms 0) 16 (nI (skB (σ 7) len a))) 14 0) (σ 1) (σ 2) (σ 3) (σ 4) (σ 5) (σ 6) (ms 1) (ms 2) (ms 3) (ms 4) (ms 5) k n j = _
    unfold T_X9_takeRead_wt; rw [ite_self, putN, if_pos (by omega)]; exact (rrows j hj).2.1
  · show T_X9_takeRead_wo (upd (upd (ms 0) 16 (nI (skB (σ 7) len a))) 14 0) (σ 1) (σ 2) (σ 3) (σ 4) (σ 5) (σ 6) (ms 1) (ms 2) (ms 3) (ms 4) (ms 5) k n j = _
    unfold T_X9_takeRead_wo; rw [ite_self, putN, if_pos (by omega)]; exact (rrows j hj).2.2.1
  · show T_X9_takeRead_fr (upd (upd (ms 0) 16 (nI (skB (σ 7) len a))) 14 0) (σ 1) (σ 2) (σ 3) (σ 4) (σ 5) (σ 6) (ms 1) (ms 2) (ms 3) (ms 4) (ms 5) k n j = _
    unfold T_X9_takeRead_fr; rw [ite_self, putN, if_pos (by omega)]; exact (rrows j hj).2.2.2
  · show T_X9_takeRead_N (upd (upd (ms 0) 16 (nI (skB (σ 7) len a))) 14 0) (σ 1) (σ 2) (σ 3) (σ 4) (σ 5) (σ 6) (ms 1) (ms 2) (ms 3) (ms 4) (ms 5) k n j = _
    unfold T_X9_takeRead_N
    by_cases h12 : j = 12
    · subst h12; rw [if_pos rfl]
      split
      · rename_i q; rw [upd_eq]; exact (r0 (e19.symm.trans q)).1.symm
      · rename_i q; rw [upd_eq]; exact (r1 (fun z => q (e19.trans z))).1
    · rw [if_neg h12]
      split <;> rw [upd_ne _ _ h12, putN, if_pos (by omega)]

theorem here_ge {tx : Nat → Int32} {len a : Nat} (h0 : ∀ j, j < len → 0 ≤ tx j) (c : ltr tx len a < 0) : len ≤ a := by
  rcases Nat.lt_or_ge a len with q | q
  · rw [ltr, if_pos q] at c; exact absurd (h0 a q) (Int32.not_le.mpr c)
  · exact q
theorem here_lt {tx : Nat → Int32} {len a : Nat} (c : ¬ ltr tx len a < 0) : a < len := by
  rcases Nat.lt_or_ge a len with q | q
  · exact q
  · rw [ltr, if_neg (by omega)] at c; exact absurd (by decide) c
