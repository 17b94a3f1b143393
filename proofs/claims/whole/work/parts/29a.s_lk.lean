-- a link's two numbers: wrong if not from a lower to a higher, or told before
def lkB (fr : Nat → Int32) (v1 v2 : Int32) : Prop := v2 ≤ v1 ∨ hasB (fr v2.toNatClampNeg) v1
theorem rnV_in {tx : Nat → Int32} {len a : Nat} {K lo hi : Int32} (h : rnK tx len a K lo hi = 0) : K = 0 ∧ ¬ rnV tx len a K lo hi < lo ∧ rnV tx len a K lo hi ≤ hi := by
  unfold rnK at h
  by_cases hK : K = 0
  · rw [if_pos hK] at h
    have e : rnV tx len a K lo hi = vX tx (skB tx len a) (edD tx len (skB tx len a) - skB tx len a) := (if_pos hK).trans (if_pos h)
    refine ⟨hK, ?_⟩
    rw [e]
    unfold rnF at h
    split at h
    · exact absurd h (by decide)
    · split at h
      · exact absurd h (by decide)
      · split at h
        · exact absurd h (by decide)
        · split at h
          · rename_i q1 q2; exact ⟨q1, q2⟩
          · exact absurd h (by decide)
  · rw [if_neg hK] at h; exact absurd h hK
theorem rg_n {v : Int32} {n : Nat} (hn : n ≤ 10) (h1 : ¬ v < 0) (h2 : v ≤ nI n - 1) : ∃ p, p < n ∧ v = nI p := nI_rng (by omega) h1 ((pred_le (by omega)).mp h2)
theorem lk_v {tx : Nat → Int32} {len a n : Nat} {K : Int32} (hn : n ≤ 10) (h : rnK tx len (rnA tx len a K) (rnK tx len a K 0 (nI n - 1)) 0 (nI n - 1) = 0) : ∃ p s, p < n ∧ s < n ∧ rnV tx len a K 0 (nI n - 1) = nI p ∧ rnV tx len (rnA tx len a K) (rnK tx len a K 0 (nI n - 1)) 0 (nI n - 1) = nI s := by
  obtain ⟨h1, h2, h3⟩ := rnV_in h
  obtain ⟨h4, h5, h6⟩ := rnV_in h1
  obtain ⟨p, hp, ep⟩ := rg_n hn h5 h6
  obtain ⟨s, hs, es⟩ := rg_n hn h2 h3
  exact ⟨p, s, hp, hs, ep, es⟩
def lkK (fr : Nat → Int32) (K v1 v2 : Int32) : Int32 := if K = 0 then (if v2 ≤ v1 then 4 else if hasB (fr v2.toNatClampNeg) v1 then 4 else 0) else K
def lkP (fr : Nat → Int32) (K v1 v2 P na : Int32) : Int32 := if K = 0 then (if v2 ≤ v1 then na else if hasB (fr v2.toNatClampNeg) v1 then na else P) else P
