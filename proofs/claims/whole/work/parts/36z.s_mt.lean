-- the reference's value of figures
def vM (tx : Nat → Int32) (a : Nat) : Nat → Int32
  | 0 => 0
  | d + 1 => if vM tx a d ≤ 10000 then 10 * vM tx a d + tx (a + d) - 48 else vM tx a d
/-- a figure's value -/
theorem fig_v {c : Int32} (h : isF c) : ∃ j : Nat, j < 10 ∧ c = nI (48 + j) := by
  obtain ⟨j, hj, e⟩ := nI_of (x := c) (Int32.not_lt.mpr (Int32.le_trans (by decide) h.1))
  subst e
  have h1 := (nI_leI (a := 48) (by decide) hj).mp h.1
  have h2 := (nI_leI (b := 57) hj (by decide)).mp h.2
  exact ⟨j - 48, by omega, by congr 1; omega⟩
theorem vM_s {x : Nat} {c : Int32} (h : isF c) (hx : x < 1000) : ∃ y : Nat, y < 10 * x + 10 ∧ 10 * nI x + c - 48 = nI y ∧ nI x * 10 + c - 48 = nI y := by
  obtain ⟨j, hj, rfl⟩ := fig_v h
  have e1 : (10 : Int32) * nI x = nI (10 * x) := pk_mul 10 x
  have e2 : nI x * (10 : Int32) = nI (10 * x) := by rw [show (10 : Int32) = nI 10 from rfl, pk_mul, Nat.mul_comm]
  have e3 : nI (10 * x) + nI (48 + j) - 48 = nI (10 * x + j) := by
    rw [nI_add, show (48 : Int32) = nI 48 from rfl, show 10 * x + (48 + j) = (10 * x + j) + 48 by omega]; exact nI_subk _ 48
  exact ⟨10 * x + j, by omega, by rw [e1, e3], by rw [e2, e3]⟩
theorem vM_X (tx : Nat → Int32) (a : Nat) : ∀ d, d ≤ 3 → (∀ i, i < d → isF (tx (a + i))) → vM tx a d = vX tx a d ∧ ∃ x : Nat, x < 10 ^ d ∧ vX tx a d = nI x := by
  intro d
  induction d with
  | zero => intro _ _; exact ⟨rfl, 0, by decide, rfl⟩
  | succ d ih =>
    intro hd hf
    obtain ⟨h1, x, hx, h2⟩ := ih (by omega) (fun i hi => hf i (by omega))
    have hx3 : x < 1000 := Nat.lt_of_lt_of_le hx (Nat.le_trans (Nat.pow_le_pow_right (by decide) (show d ≤ 2 by omega)) (by decide))
    obtain ⟨y, hy, h3, h4⟩ := vM_s (hf d (by omega)) hx3
    have hle : vM tx a d ≤ 10000 := by rw [h1, h2]; exact nI_le (b := 10000) (by omega) (by decide)
    refine ⟨?_, y, ?_, ?_⟩
    · rw [vM, if_pos hle, vX, if_pos (by omega), h1, h2, h3, h4]
    · rw [Nat.pow_succ]; omega
    · rw [vX, if_pos (by omega), h2, h4]
theorem ed_fig (tx : Nat → Int32) (len : Nat) : ∀ f a i, a + i < edF tx len f a → isF (tx (a + i)) := by
  intro f
  induction f with
  | zero => intro a i h; rw [edF] at h; omega
  | succ f ih =>
    intro a i h
    rw [edF] at h
    split at h
    · rename_i q
      cases i with
      | zero => exact q.2
      | succ i => have := ih (a + 1) i (by omega); rw [show a + (i + 1) = a + 1 + i by omega]; exact this
    · omega
theorem edD_fig {tx : Nat → Int32} {len a i : Nat} (h : a + i < edD tx len a) : isF (tx (a + i)) := ed_fig tx len _ a i h
theorem edD_pos {tx : Nat → Int32} {len a : Nat} (h : a < len) (c : isF (tx a)) : a + 1 ≤ edD tx len a := by
  rw [← edD_t h c]; exact (edD_le (by omega)).1
theorem vM_of {tx : Nat → Int32} {len a d : Nat} (h3 : d ≤ 3) (hd : a + d = edD tx len a) : vM tx a d = vX tx a d := (vM_X tx a d h3 (fun i hi => edD_fig (len := len) (by omega))).1
theorem in_lh (v lo hi : Int32) : bi (lo.toInt64 ≤ v.toInt64 ∧ v.toInt64 ≤ hi.toInt64) = bi (lo ≤ v ∧ v ≤ hi) := in_32 v lo hi
def mnN (tx : Nat → Int32) (len a : Nat) (na : Int32) : Int32 := if isF (ltr tx len (skB tx len a)) then nI (skB tx len a) else na
def mnV (tx : Nat → Int32) (len a : Nat) (nu : Int32) : Int32 := if isF (ltr tx len (skB tx len a)) then vM tx (skB tx len a) (edD tx len (skB tx len a) - skB tx len a) else nu
def mnP (tx : Nat → Int32) (len a : Nat) (P lo hi : Int32) : Int32 := if rnF tx len a lo hi = 0 then P else nI (skB tx len a)
theorem lt_in {tx : Nat → Int32} {len a : Nat} (c : isF (ltr tx len a)) : a < len := by
  rcases Nat.lt_or_ge a len with q | q
  · exact q
  · rw [ltr, if_neg (by omega)] at c; exact absurd c.1 (by decide)
theorem mt_i (f : Nat → Int32) (x y : Int32) : upd (upd (upd f 18 x) 17 y) 16 x = upd (upd (upd f 16 x) 18 x) 17 y := by
  rw [upd_sw _ (show (17 : Nat) ≠ 16 by decide), upd_sw _ (show (18 : Nat) ≠ 16 by decide)]
theorem mt_n (f : Nat → Int32) (x v a v2 a2 : Int32) : upd (upd (upd f 18 x) 17 v2) 16 a2 = upd (upd (upd (upd (upd f 18 x) 17 v) 16 a) 17 v2) 16 a2 := by
  rw [upd_sw _ (show (16 : Nat) ≠ 17 by decide), upd_u, upd_u]
section MR
variable {tx : Nat → Int32} {len a d : Nat} {P na nu lo hi : Int32} {σ : Nat → Nat → Int32}
theorem mrF_1 (c : ¬ isF (ltr tx len (skB tx len a))) : rnF tx len a lo hi = 1 := rnF_1 (edD_f (fun q => c (by rw [ltr, if_pos q.1]; exact q.2)))
theorem mrF_0 (h : ¬ edD tx len (skB tx len a) = skB tx len a) (h2 : ¬ 3 < edD tx len (skB tx len a) - skB tx len a) (e : vM tx (skB tx len a) (edD tx len (skB tx len a) - skB tx len a) = vX tx (skB tx len a) (edD tx len (skB tx len a) - skB tx len a)) (c : lo ≤ vM tx (skB tx len a) (edD tx len (skB tx len a) - skB tx len a) ∧ vM tx (skB tx len a) (edD tx len (skB tx len a) - skB tx len a) ≤ hi) : rnF tx len a lo hi = 0 := by
  rw [e] at c; exact rnF_0 h h2 (Int32.not_lt.mpr c.1) c.2
theorem mrF_n (h : ¬ edD tx len (skB tx len a) = skB tx len a) (h2 : ¬ 3 < edD tx len (skB tx len a) - skB tx len a) (e : vM tx (skB tx len a) (edD tx len (skB tx len a) - skB tx len a) = vX tx (skB tx len a) (edD tx len (skB tx len a) - skB tx len a)) (c : ¬ (lo ≤ vM tx (skB tx len a) (edD tx len (skB tx len a) - skB tx len a) ∧ vM tx (skB tx len a) (edD tx len (skB tx len a) - skB tx len a) ≤ hi)) : rnF tx len a lo hi = 2 := by
  rw [e] at c
  by_cases h3 : vX tx (skB tx len a) (edD tx len (skB tx len a) - skB tx len a) < lo
  · exact rnF_3 h h2 h3
  · exact rnF_4 h h2 h3 (fun q => c ⟨Int32.not_lt.mp h3, q⟩)
theorem mt_1 (hf : rnF (σ 7) len a lo hi = 1) (c : ¬ isF (ltr (σ 7) len (skB (σ 7) len a))) (ena : σ 0 18 = na) (enu : σ 0 17 = nu) : up2 (up2 (up2 (up2 σ 0 16 (nI (edD (σ 7) len (skB (σ 7) len a)))) 0 18 (mnN (σ 7) len a na)) 0 17 (mnV (σ 7) len a nu)) 0 15 (mnP (σ 7) len a P lo hi) = va_up σ 0 (upd (upd (σ 0) 16 (nI (skB (σ 7) len a))) 15 (nI (skB (σ 7) len a))) := by
  rw [mnN, mnV, mnP, if_neg c, if_neg c, hf, if_neg (by decide), edD_f (fun q => c (by rw [ltr, if_pos q.1]; exact q.2))]
  simp only [up2, va_up_self, bx_uu]
  congr 1
  funext j
  by_cases h1 : j = 15
  · subst h1; simp [upd]
  · by_cases h2 : j = 17
    · subst h2; simp [upd, enu]
    · by_cases h3 : j = 18
      · subst h3; simp [upd, ena]
      · simp [upd, h1, h2, h3]
theorem mt_0 (hf : rnF (σ 7) len a lo hi = 0) (c : isF (ltr (σ 7) len (skB (σ 7) len a))) (hd : skB (σ 7) len a + d = edD (σ 7) len (skB (σ 7) len a)) (eP : σ 0 15 = P) : up2 (up2 (up2 (up2 σ 0 16 (nI (edD (σ 7) len (skB (σ 7) len a)))) 0 18 (mnN (σ 7) len a na)) 0 17 (mnV (σ 7) len a nu)) 0 15 (mnP (σ 7) len a P lo hi) = va_up σ 0 (upd (upd (upd (σ 0) 18 (nI (skB (σ 7) len a))) 17 (vM (σ 7) (skB (σ 7) len a) d)) 16 (nI (skB (σ 7) len a + d))) := by
  rw [mnN, mnV, mnP, if_pos c, if_pos c, hf, if_pos rfl, ← hd, Nat.add_sub_cancel_left]
  simp only [up2, va_up_self, bx_uu]
  congr 1
  funext j
  by_cases h1 : j = 15
  · subst h1; simp [upd, eP]
  · by_cases h2 : j = 16
    · subst h2; simp [upd]
    · by_cases h3 : j = 17
      · subst h3; simp [upd]
      · simp [upd, h1, h2, h3]
theorem mt_2 (hf : rnF (σ 7) len a lo hi = 2) (c : isF (ltr (σ 7) len (skB (σ 7) len a))) (hd : skB (σ 7) len a + d = edD (σ 7) len (skB (σ 7) len a)) : up2 (up2 (up2 (up2 σ 0 16 (nI (edD (σ 7) len (skB (σ 7) len a)))) 0 18 (mnN (σ 7) len a na)) 0 17 (mnV (σ 7) len a nu)) 0 15 (mnP (σ 7) len a P lo hi) = va_up σ 0 (upd (upd (upd (upd (σ 0) 18 (nI (skB (σ 7) len a))) 17 (vM (σ 7) (skB (σ 7) len a) d)) 16 (nI (skB (σ 7) len a + d))) 15 (nI (skB (σ 7) len a))) := by
  rw [mnN, mnV, mnP, if_pos c, if_pos c, hf, if_neg (by decide), ← hd, Nat.add_sub_cancel_left]
  simp only [up2, va_up_self, bx_uu]
  congr 1
  funext j
  by_cases h1 : j = 15
  · subst h1; simp [upd]
  · by_cases h2 : j = 16
    · subst h2; simp [upd]
    · by_cases h3 : j = 17
      · subst h3; simp [upd]
      · simp [upd, h1, h2, h3]
end MR
