-- the reading, as steps of seven rows: 0 the reader's, 1 the yard's, 2 arms, 3 owners, 4 weights, 5 worths, 6 sources
def psA (ps : Nat → Nat → Int32) : Nat := (ps 0 4).toNatClampNeg
def psk (ps : Nat → Nat → Int32) : Nat := (ps 1 3).toNatClampNeg
def psn (ps : Nat → Nat → Int32) : Nat := (ps 1 5).toNatClampNeg
def psC (tx : Nat → Int32) (len : Nat) (ps : Nat → Nat → Int32) (r : Nat) : Nat → Int32 :=
  if r = 0 then upd (upd (upd (upd (ps 0) 4 (nI (ccA tx len (psA ps) (ps 0 2) (ps 0 5) (ps 1) (ps 2) (ps 3) (ps 4) (ps 5) (ps 6) (psk ps) (psn ps)))) 5 (ccN tx len (psA ps) (ps 0 2) (ps 0 5) (ps 1) (ps 2) (ps 3) (ps 4) (ps 5) (ps 6) (psk ps) (psn ps))) 3 (ccK tx len (psA ps) (ps 0 2) (ps 0 5) (ps 1) (ps 2) (ps 3) (ps 4) (ps 5) (ps 6) (psk ps) (psn ps))) 2 (ccP tx len (psA ps) (ps 0 2) (ps 0 5) (ps 1) (ps 2) (ps 3) (ps 4) (ps 5) (ps 6) (psk ps) (psn ps))
  else if r = 1 then cc_Y tx len (psA ps) (ps 0 2) (ps 0 5) (ps 1) (ps 2) (ps 3) (ps 4) (ps 5) (ps 6) (psk ps) (psn ps)
  else if r = 2 then cc_ar tx len (psA ps) (ps 0 2) (ps 0 5) (ps 1) (ps 2) (ps 3) (ps 4) (ps 5) (ps 6) (psk ps) (psn ps)
  else if r = 3 then cc_ow tx len (psA ps) (ps 0 2) (ps 0 5) (ps 1) (ps 2) (ps 3) (ps 4) (ps 5) (ps 6) (psk ps) (psn ps)
  else if r = 4 then cc_wt tx len (psA ps) (ps 0 2) (ps 0 5) (ps 1) (ps 2) (ps 3) (ps 4) (ps 5) (ps 6) (psk ps) (psn ps)
  else if r = 5 then cc_wo tx len (psA ps) (ps 0 2) (ps 0 5) (ps 1) (ps 2) (ps 3) (ps 4) (ps 5) (ps 6) (psk ps) (psn ps)
  else cc_fr tx len (psA ps) (ps 0 2) (ps 0 5) (ps 1) (ps 2) (ps 3) (ps 4) (ps 5) (ps 6) (psk ps) (psn ps)
def psB (tx : Nat → Int32) (len : Nat) (ps : Nat → Nat → Int32) (r : Nat) : Nat → Int32 := if r = 0 then upd (ps 0) 4 (nI (skB tx len (psA ps))) else ps r
def psL (tx : Nat → Int32) (len : Nat) : Nat → (Nat → Nat → Int32) → Nat → Nat → Int32
  | 0, ps => ps
  | f + 1, ps => if ps 0 3 = 0 then (if psA ps < len then psL tx len f (psB tx len (psC tx len ps)) else ps) else ps
theorem psL_t {tx : Nat → Int32} {len f : Nat} {ps : Nat → Nat → Int32} (h : ps 0 3 = 0) (h2 : psA ps < len) : psL tx len (f + 1) ps = psL tx len f (psB tx len (psC tx len ps)) := by rw [psL, if_pos h, if_pos h2]
theorem psL_K {tx : Nat → Int32} {len : Nat} (f : Nat) {ps : Nat → Nat → Int32} (h : ¬ ps 0 3 = 0) : psL tx len f ps = ps := by
  cases f with
  | zero => rfl
  | succ f => rw [psL, if_neg h]
theorem psL_A {tx : Nat → Int32} {len : Nat} (f : Nat) {ps : Nat → Nat → Int32} (h2 : ¬ psA ps < len) : psL tx len f ps = ps := by
  cases f with
  | zero => rfl
  | succ f =>
    rw [psL]
    by_cases h : ps 0 3 = 0
    · rw [if_pos h, if_neg h2]
    · rw [if_neg h]
/-- the counts stay within their bounds -/
theorem cc_k {tx : Nat → Int32} {len a : Nat} {P na : Int32} {Y ar ow wt wo fr : Nat → Int32} {k n : Nat} (hk : k ≤ 5) (ek : Y 3 = nI k) : ∃ k', k' ≤ 5 ∧ cc_Y tx len a P na Y ar ow wt wo fr k n 3 = nI k' := by
  unfold cc_Y
  split
  · rename_i hf
    split
    · rename_i hw
      have h5 := fw_p (by rw [← hw]; exact hf) ek hk
      split
      · exact ⟨k, hk, ek⟩
      · exact ⟨k + 1, h5, by unfold T_X7_addPerson_Y; rw [nI_1]; simp [upd]⟩
    · split
      · split
        · exact ⟨k, hk, ek⟩
        · exact ⟨k, hk, by unfold T_X7_addSaying_Y; simp [upd, ek]⟩
      · split
        · split
          · exact ⟨k, hk, ek⟩
          · exact ⟨k, hk, by simp [upd, ek]⟩
        · split
          · exact ⟨k, hk, ek⟩
          · exact ⟨k, hk, by unfold T_X7_addLink_Y; simp [upd, ek]⟩
  · exact ⟨k, hk, ek⟩
theorem cc_n {tx : Nat → Int32} {len a : Nat} {P na : Int32} {Y ar ow wt wo fr : Nat → Int32} {k n : Nat} (hn : n ≤ 10) (en : Y 5 = nI n) : ∃ n', n' ≤ 10 ∧ cc_Y tx len a P na Y ar ow wt wo fr k n 5 = nI n' := by
  unfold cc_Y
  split
  · rename_i hf
    split
    · split
      · exact ⟨n, hn, en⟩
      · exact ⟨n, hn, by unfold T_X7_addPerson_Y; simp [upd, en]⟩
    · split
      · rename_i hw
        have h10 := fw_s (by rw [← hw]; exact hf) en hn
        split
        · exact ⟨n, hn, en⟩
        · exact ⟨n + 1, h10, by unfold T_X7_addSaying_Y; rw [nI_1]; simp [upd]⟩
      · split
        · split
          · exact ⟨n, hn, en⟩
          · exact ⟨n, hn, by simp [upd, en]⟩
        · split
          · exact ⟨n, hn, en⟩
          · exact ⟨n, hn, by unfold T_X7_addLink_Y; simp [upd, en]⟩
  · exact ⟨n, hn, en⟩
theorem cc_A {tx : Nat → Int32} {len a : Nat} {P na : Int32} {Y ar ow wt wo fr : Nat → Int32} {k n : Nat} (ha : a ≤ len) : ccA tx len a P na Y ar ow wt wo fr k n ≤ len := by
  unfold ccA
  split
  · rename_i hf
    have h1 : a + 1 ≤ len := fw_in hf
    repeat' split
    · exact ceA_le (rnA_le h1)
    · exact ceA_le (rnA_le (rnA_le (rnA_le h1)))
    · exact ceA_le (rnA_le (rnA_le h1))
    · exact ceA_le (rnA_le (rnA_le h1))
  · exact ha
/-- the start of a reading -/
def ps0 (tx RD Y ar ow wt wo fr : Nat → Int32) (len : Nat) (r : Nat) : Nat → Int32 :=
  if r = 0 then upd (upd (upd (upd RD 4 0) 3 0) 2 (-1)) 4 (nI (skB tx len 0)) else if r = 1 then T_X7_clear_Y Y else if r = 2 then ar else if r = 3 then ow else if r = 4 then wt else if r = 5 then wo else fr
def rows7 (σ : Nat → Nat → Int32) (b : Nat) (ps : Nat → Nat → Int32) : Nat → Nat → Int32 := va_up (va_up (va_up (va_up (va_up (va_up (va_up σ 1 (ps 0)) b (ps 1)) (b + 1) (ps 2)) (b + 2) (ps 3)) (b + 3) (ps 4)) (b + 4) (ps 5)) (b + 5) (ps 6)
section PS
variable {tx : Nat → Int32} {len : Nat} {ps : Nat → Nat → Int32} {k n : Nat}
theorem psC_A (h : psA ps ≤ len) (hl : len ≤ 240) : psA (psC tx len ps) = ccA tx len (psA ps) (ps 0 2) (ps 0 5) (ps 1) (ps 2) (ps 3) (ps 4) (ps 5) (ps 6) (psk ps) (psn ps) := by
  have e : psC tx len ps 0 4 = nI (ccA tx len (psA ps) (ps 0 2) (ps 0 5) (ps 1) (ps 2) (ps 3) (ps 4) (ps 5) (ps 6) (psk ps) (psn ps)) := by
    unfold psC; simp [upd]
  show (psC tx len ps 0 4).toNatClampNeg = _
  rw [e]
  exact nI_clamp (Nat.lt_of_le_of_lt (cc_A h) (by omega))
theorem ps_a (h : psA ps ≤ len) (hl : len ≤ 240) : psB tx len (psC tx len ps) 0 4 = nI (skB tx len (ccA tx len (psA ps) (ps 0 2) (ps 0 5) (ps 1) (ps 2) (ps 3) (ps 4) (ps 5) (ps 6) (psk ps) (psn ps))) := by
  unfold psB; rw [psC_A h hl]; simp [upd]
theorem ps_l (h : ps 0 1 = nI len) : psB tx len (psC tx len ps) 0 1 = nI len := by
  unfold psB psC; simp [upd, h]
theorem ps_k (hk : k ≤ 5) (ek : ps 1 3 = nI k) (e9 : psk ps = k) : ∃ k', k' ≤ 5 ∧ psB tx len (psC tx len ps) 1 3 = nI k' := by
  have := cc_k (tx := tx) (len := len) (a := psA ps) (P := ps 0 2) (na := ps 0 5) (Y := ps 1) (ar := ps 2) (ow := ps 3) (wt := ps 4) (wo := ps 5) (fr := ps 6) (k := psk ps) (n := psn ps) (by rw [e9]; exact hk) (by rw [e9]; exact ek)
  exact this
theorem ps_n (hn : n ≤ 10) (en : ps 1 5 = nI n) (e9 : psn ps = n) : ∃ n', n' ≤ 10 ∧ psB tx len (psC tx len ps) 1 5 = nI n' := by
  have := cc_n (tx := tx) (len := len) (a := psA ps) (P := ps 0 2) (na := ps 0 5) (Y := ps 1) (ar := ps 2) (ow := ps 3) (wt := ps 4) (wo := ps 5) (fr := ps 6) (k := psk ps) (n := psn ps) (by rw [e9]; exact hn) (by rw [e9]; exact en)
  exact this
theorem ps_row0 (h : psA ps ≤ len) (hl : len ≤ 240) : psB tx len (psC tx len ps) 0 = upd (psC tx len ps 0) 4 (nI (skB tx len (ccA tx len (psA ps) (ps 0 2) (ps 0 5) (ps 1) (ps 2) (ps 3) (ps 4) (ps 5) (ps 6) (psk ps) (psn ps)))) := by
  rw [← psC_A h hl]; rfl
end PS
