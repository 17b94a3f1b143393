-- the reference's clauses
def vb (x : Int32) : Prop := x = 0 ∨ x = 1
theorem vb_n {x : Int32} (h : vb x) : narrow .boolean (.int x) = .int x := by rcases h with h | h <;> subst h <;> rfl
theorem vb_f {x : Int32} (h : vb x) : fits .boolean (.int x) = true := by rcases h with h | h <;> subst h <;> rfl
theorem rnF_k (tx : Nat → Int32) (len a : Nat) (lo hi : Int32) : rnF tx len a lo hi = 0 ∨ rnF tx len a lo hi = 1 ∨ rnF tx len a lo hi = 2 := by
  unfold rnF
  split
  · exact Or.inr (Or.inl rfl)
  · split
    · exact Or.inr (Or.inr rfl)
    · split
      · exact Or.inr (Or.inr rfl)
      · split
        · exact Or.inl rfl
        · exact Or.inr (Or.inr rfl)
theorem rnF_le {tx : Nat → Int32} {len a : Nat} {lo hi : Int32} (h : rnF tx len a lo hi ≤ 0) : rnF tx len a lo hi = 0 := by
  rcases rnF_k tx len a lo hi with q | q | q
  · exact q
  · rw [q] at h; exact absurd h (by decide)
  · rw [q] at h; exact absurd h (by decide)
theorem rnF_in {tx : Nat → Int32} {len a : Nat} {lo hi : Int32} (h : rnF tx len a lo hi = 0) : ¬ edD tx len (skB tx len a) = skB tx len a ∧ ¬ 3 < edD tx len (skB tx len a) - skB tx len a ∧ ¬ vX tx (skB tx len a) (edD tx len (skB tx len a) - skB tx len a) < lo ∧ vX tx (skB tx len a) (edD tx len (skB tx len a) - skB tx len a) ≤ hi := by
  unfold rnF at h
  split at h
  · exact absurd h (by decide)
  · rename_i q0
    split at h
    · exact absurd h (by decide)
    · rename_i q1
      split at h
      · exact absurd h (by decide)
      · rename_i q2
        split at h
        · rename_i q3; exact ⟨q0, q1, q2, q3⟩
        · exact absurd h (by decide)
theorem rn_fig {tx : Nat → Int32} {len a : Nat} (h : ¬ edD tx len (skB tx len a) = skB tx len a) : isF (ltr tx len (skB tx len a)) := by
  by_cases c : isF (ltr tx len (skB tx len a))
  · exact c
  · exact absurd (edD_f (fun q => c (by rw [ltr, if_pos q.1]; exact q.2))) h
/-- a number that is right: its value is the class's -/
theorem mnV_e {tx : Nat → Int32} {len a : Nat} {lo hi nu : Int32} (ha : a ≤ len) (h : rnF tx len a lo hi = 0) : mnV tx len a nu = vX tx (skB tx len a) (edD tx len (skB tx len a) - skB tx len a) := by
  obtain ⟨h1, h2, _, _⟩ := rnF_in h
  have hl := edD_le (tx := tx) (skB_le (tx := tx) ha).2
  rw [mnV, if_pos (rn_fig h1)]
  exact vM_of (len := len) (by omega) (by omega)
theorem mnN_e {tx : Nat → Int32} {len a : Nat} {lo hi na : Int32} (h : rnF tx len a lo hi = 0) : mnN tx len a na = nI (skB tx len a) := by
  rw [mnN, if_pos (rn_fig (rnF_in h).1)]
theorem mk_v {tx : Nat → Int32} {len a n : Nat} (nu : Int32) (hn : n ≤ 10) (ha : a ≤ len) (h : rnF tx len a 0 (nI n - 1) ≤ 0) : ∃ s, s < n ∧ mnV tx len a nu = nI s := by
  have h0 := rnF_le h
  obtain ⟨_, _, h3, h4⟩ := rnF_in h0
  rw [mnV_e ha h0]
  exact rg_n hn h3 h4
theorem nI_pm (k : Nat) : nI k + 1 - 1 = nI k := by rw [nI_1]; exact nI_subk k 1
theorem lt_w {tx : Nat → Int32} {len a : Nat} {x : Int32} (hx : x ≠ -1) (c : ltr tx len a = x) : a < len := by
  rcases Nat.lt_or_ge a len with q | q
  · exact q
  · rw [ltr, if_neg (by omega)] at c; exact absurd c.symm hx
section KP
variable {ad : Nat → Nat} {cy : Nat → ClassId}
theorem kp9_0 (f : Nat → Int32) (v : Int32) : cfM ad cy (upd f 0 v) 0 = .inr (9, List.set [.int (f 0), .int (f 1), .int (f 2), .int (f 3), .ref (ad 1), .int (f 5), .ref (ad 2), .ref (ad 3), .ref (ad 4), .int (f 9), .ref (ad 5), .ref (ad 6), .int (f 12), .ref (ad 7), .int (f 14), .int (f 15), .int (f 16), .int (f 17), .int (f 18), .int (f 19), .int (f 20), .int (f 21), .int (f 22), .ref (ad 8), .int (f 24), .ref (ad 9), .ref (ad 10), .ref (ad 11), .int (f 28), .ref (ad 12), .ref (ad 13), .int (f 31), .ref (ad 14), .int (f 33), .ref (ad 15), .ref (ad 16), .ref (ad 17), .ref (ad 18)] 0 (.int v)) := rfl
theorem kp9_1 (f : Nat → Int32) (v : Int32) : cfM ad cy (upd f 1 v) 0 = .inr (9, List.set [.int (f 0), .int (f 1), .int (f 2), .int (f 3), .ref (ad 1), .int (f 5), .ref (ad 2), .ref (ad 3), .ref (ad 4), .int (f 9), .ref (ad 5), .ref (ad 6), .int (f 12), .ref (ad 7), .int (f 14), .int (f 15), .int (f 16), .int (f 17), .int (f 18), .int (f 19), .int (f 20), .int (f 21), .int (f 22), .ref (ad 8), .int (f 24), .ref (ad 9), .ref (ad 10), .ref (ad 11), .int (f 28), .ref (ad 12), .ref (ad 13), .int (f 31), .ref (ad 14), .int (f 33), .ref (ad 15), .ref (ad 16), .ref (ad 17), .ref (ad 18)] 1 (.int v)) := rfl
theorem kp9_2 (f : Nat → Int32) (v : Int32) : cfM ad cy (upd f 2 v) 0 = .inr (9, List.set [.int (f 0), .int (f 1), .int (f 2), .int (f 3), .ref (ad 1), .int (f 5), .ref (ad 2), .ref (ad 3), .ref (ad 4), .int (f 9), .ref (ad 5), .ref (ad 6), .int (f 12), .ref (ad 7), .int (f 14), .int (f 15), .int (f 16), .int (f 17), .int (f 18), .int (f 19), .int (f 20), .int (f 21), .int (f 22), .ref (ad 8), .int (f 24), .ref (ad 9), .ref (ad 10), .ref (ad 11), .int (f 28), .ref (ad 12), .ref (ad 13), .int (f 31), .ref (ad 14), .int (f 33), .ref (ad 15), .ref (ad 16), .ref (ad 17), .ref (ad 18)] 2 (.int v)) := rfl
theorem kp9_3 (f : Nat → Int32) (v : Int32) : cfM ad cy (upd f 3 v) 0 = .inr (9, List.set [.int (f 0), .int (f 1), .int (f 2), .int (f 3), .ref (ad 1), .int (f 5), .ref (ad 2), .ref (ad 3), .ref (ad 4), .int (f 9), .ref (ad 5), .ref (ad 6), .int (f 12), .ref (ad 7), .int (f 14), .int (f 15), .int (f 16), .int (f 17), .int (f 18), .int (f 19), .int (f 20), .int (f 21), .int (f 22), .ref (ad 8), .int (f 24), .ref (ad 9), .ref (ad 10), .ref (ad 11), .int (f 28), .ref (ad 12), .ref (ad 13), .int (f 31), .ref (ad 14), .int (f 33), .ref (ad 15), .ref (ad 16), .ref (ad 17), .ref (ad 18)] 3 (.int v)) := rfl
theorem kp9_5 (f : Nat → Int32) (v : Int32) : cfM ad cy (upd f 5 v) 0 = .inr (9, List.set [.int (f 0), .int (f 1), .int (f 2), .int (f 3), .ref (ad 1), .int (f 5), .ref (ad 2), .ref (ad 3), .ref (ad 4), .int (f 9), .ref (ad 5), .ref (ad 6), .int (f 12), .ref (ad 7), .int (f 14), .int (f 15), .int (f 16), .int (f 17), .int (f 18), .int (f 19), .int (f 20), .int (f 21), .int (f 22), .ref (ad 8), .int (f 24), .ref (ad 9), .ref (ad 10), .ref (ad 11), .int (f 28), .ref (ad 12), .ref (ad 13), .int (f 31), .ref (ad 14), .int (f 33), .ref (ad 15), .ref (ad 16), .ref (ad 17), .ref (ad 18)] 5 (.int v)) := rfl
theorem kp9_9 (f : Nat → Int32) (v : Int32) : cfM ad cy (upd f 9 v) 0 = .inr (9, List.set [.int (f 0), .int (f 1), .int (f 2), .int (f 3), .ref (ad 1), .int (f 5), .ref (ad 2), .ref (ad 3), .ref (ad 4), .int (f 9), .ref (ad 5), .ref (ad 6), .int (f 12), .ref (ad 7), .int (f 14), .int (f 15), .int (f 16), .int (f 17), .int (f 18), .int (f 19), .int (f 20), .int (f 21), .int (f 22), .ref (ad 8), .int (f 24), .ref (ad 9), .ref (ad 10), .ref (ad 11), .int (f 28), .ref (ad 12), .ref (ad 13), .int (f 31), .ref (ad 14), .int (f 33), .ref (ad 15), .ref (ad 16), .ref (ad 17), .ref (ad 18)] 9 (.int v)) := rfl
theorem kp9_12 (f : Nat → Int32) (v : Int32) : cfM ad cy (upd f 12 v) 0 = .inr (9, List.set [.int (f 0), .int (f 1), .int (f 2), .int (f 3), .ref (ad 1), .int (f 5), .ref (ad 2), .ref (ad 3), .ref (ad 4), .int (f 9), .ref (ad 5), .ref (ad 6), .int (f 12), .ref (ad 7), .int (f 14), .int (f 15), .int (f 16), .int (f 17), .int (f 18), .int (f 19), .int (f 20), .int (f 21), .int (f 22), .ref (ad 8), .int (f 24), .ref (ad 9), .ref (ad 10), .ref (ad 11), .int (f 28), .ref (ad 12), .ref (ad 13), .int (f 31), .ref (ad 14), .int (f 33), .ref (ad 15), .ref (ad 16), .ref (ad 17), .ref (ad 18)] 12 (.int v)) := rfl
theorem kp9_14 (f : Nat → Int32) (v : Int32) : cfM ad cy (upd f 14 v) 0 = .inr (9, List.set [.int (f 0), .int (f 1), .int (f 2), .int (f 3), .ref (ad 1), .int (f 5), .ref (ad 2), .ref (ad 3), .ref (ad 4), .int (f 9), .ref (ad 5), .ref (ad 6), .int (f 12), .ref (ad 7), .int (f 14), .int (f 15), .int (f 16), .int (f 17), .int (f 18), .int (f 19), .int (f 20), .int (f 21), .int (f 22), .ref (ad 8), .int (f 24), .ref (ad 9), .ref (ad 10), .ref (ad 11), .int (f 28), .ref (ad 12), .ref (ad 13), .int (f 31), .ref (ad 14), .int (f 33), .ref (ad 15), .ref (ad 16), .ref (ad 17), .ref (ad 18)] 14 (.int v)) := rfl
theorem kp9_15 (f : Nat → Int32) (v : Int32) : cfM ad cy (upd f 15 v) 0 = .inr (9, List.set [.int (f 0), .int (f 1), .int (f 2), .int (f 3), .ref (ad 1), .int (f 5), .ref (ad 2), .ref (ad 3), .ref (ad 4), .int (f 9), .ref (ad 5), .ref (ad 6), .int (f 12), .ref (ad 7), .int (f 14), .int (f 15), .int (f 16), .int (f 17), .int (f 18), .int (f 19), .int (f 20), .int (f 21), .int (f 22), .ref (ad 8), .int (f 24), .ref (ad 9), .ref (ad 10), .ref (ad 11), .int (f 28), .ref (ad 12), .ref (ad 13), .int (f 31), .ref (ad 14), .int (f 33), .ref (ad 15), .ref (ad 16), .ref (ad 17), .ref (ad 18)] 15 (.int v)) := rfl
theorem kp9_16 (f : Nat → Int32) (v : Int32) : cfM ad cy (upd f 16 v) 0 = .inr (9, List.set [.int (f 0), .int (f 1), .int (f 2), .int (f 3), .ref (ad 1), .int (f 5), .ref (ad 2), .ref (ad 3), .ref (ad 4), .int (f 9), .ref (ad 5), .ref (ad 6), .int (f 12), .ref (ad 7), .int (f 14), .int (f 15), .int (f 16), .int (f 17), .int (f 18), .int (f 19), .int (f 20), .int (f 21), .int (f 22), .ref (ad 8), .int (f 24), .ref (ad 9), .ref (ad 10), .ref (ad 11), .int (f 28), .ref (ad 12), .ref (ad 13), .int (f 31), .ref (ad 14), .int (f 33), .ref (ad 15), .ref (ad 16), .ref (ad 17), .ref (ad 18)] 16 (.int v)) := rfl
theorem kp9_17 (f : Nat → Int32) (v : Int32) : cfM ad cy (upd f 17 v) 0 = .inr (9, List.set [.int (f 0), .int (f 1), .int (f 2), .int (f 3), .ref (ad 1), .int (f 5), .ref (ad 2), .ref (ad 3), .ref (ad 4), .int (f 9), .ref (ad 5), .ref (ad 6), .int (f 12), .ref (ad 7), .int (f 14), .int (f 15), .int (f 16), .int (f 17), .int (f 18), .int (f 19), .int (f 20), .int (f 21), .int (f 22), .ref (ad 8), .int (f 24), .ref (ad 9), .ref (ad 10), .ref (ad 11), .int (f 28), .ref (ad 12), .ref (ad 13), .int (f 31), .ref (ad 14), .int (f 33), .ref (ad 15), .ref (ad 16), .ref (ad 17), .ref (ad 18)] 17 (.int v)) := rfl
theorem kp9_18 (f : Nat → Int32) (v : Int32) : cfM ad cy (upd f 18 v) 0 = .inr (9, List.set [.int (f 0), .int (f 1), .int (f 2), .int (f 3), .ref (ad 1), .int (f 5), .ref (ad 2), .ref (ad 3), .ref (ad 4), .int (f 9), .ref (ad 5), .ref (ad 6), .int (f 12), .ref (ad 7), .int (f 14), .int (f 15), .int (f 16), .int (f 17), .int (f 18), .int (f 19), .int (f 20), .int (f 21), .int (f 22), .ref (ad 8), .int (f 24), .ref (ad 9), .ref (ad 10), .ref (ad 11), .int (f 28), .ref (ad 12), .ref (ad 13), .int (f 31), .ref (ad 14), .int (f 33), .ref (ad 15), .ref (ad 16), .ref (ad 17), .ref (ad 18)] 18 (.int v)) := rfl
theorem kp9_19 (f : Nat → Int32) (v : Int32) : cfM ad cy (upd f 19 v) 0 = .inr (9, List.set [.int (f 0), .int (f 1), .int (f 2), .int (f 3), .ref (ad 1), .int (f 5), .ref (ad 2), .ref (ad 3), .ref (ad 4), .int (f 9), .ref (ad 5), .ref (ad 6), .int (f 12), .ref (ad 7), .int (f 14), .int (f 15), .int (f 16), .int (f 17), .int (f 18), .int (f 19), .int (f 20), .int (f 21), .int (f 22), .ref (ad 8), .int (f 24), .ref (ad 9), .ref (ad 10), .ref (ad 11), .int (f 28), .ref (ad 12), .ref (ad 13), .int (f 31), .ref (ad 14), .int (f 33), .ref (ad 15), .ref (ad 16), .ref (ad 17), .ref (ad 18)] 19 (.int v)) := rfl
theorem kp9_20 (f : Nat → Int32) (v : Int32) : cfM ad cy (upd f 20 v) 0 = .inr (9, List.set [.int (f 0), .int (f 1), .int (f 2), .int (f 3), .ref (ad 1), .int (f 5), .ref (ad 2), .ref (ad 3), .ref (ad 4), .int (f 9), .ref (ad 5), .ref (ad 6), .int (f 12), .ref (ad 7), .int (f 14), .int (f 15), .int (f 16), .int (f 17), .int (f 18), .int (f 19), .int (f 20), .int (f 21), .int (f 22), .ref (ad 8), .int (f 24), .ref (ad 9), .ref (ad 10), .ref (ad 11), .int (f 28), .ref (ad 12), .ref (ad 13), .int (f 31), .ref (ad 14), .int (f 33), .ref (ad 15), .ref (ad 16), .ref (ad 17), .ref (ad 18)] 20 (.int v)) := rfl
theorem kp9_21 (f : Nat → Int32) (v : Int32) : cfM ad cy (upd f 21 v) 0 = .inr (9, List.set [.int (f 0), .int (f 1), .int (f 2), .int (f 3), .ref (ad 1), .int (f 5), .ref (ad 2), .ref (ad 3), .ref (ad 4), .int (f 9), .ref (ad 5), .ref (ad 6), .int (f 12), .ref (ad 7), .int (f 14), .int (f 15), .int (f 16), .int (f 17), .int (f 18), .int (f 19), .int (f 20), .int (f 21), .int (f 22), .ref (ad 8), .int (f 24), .ref (ad 9), .ref (ad 10), .ref (ad 11), .int (f 28), .ref (ad 12), .ref (ad 13), .int (f 31), .ref (ad 14), .int (f 33), .ref (ad 15), .ref (ad 16), .ref (ad 17), .ref (ad 18)] 21 (.int v)) := rfl
theorem kp9_22 (f : Nat → Int32) (v : Int32) : cfM ad cy (upd f 22 v) 0 = .inr (9, List.set [.int (f 0), .int (f 1), .int (f 2), .int (f 3), .ref (ad 1), .int (f 5), .ref (ad 2), .ref (ad 3), .ref (ad 4), .int (f 9), .ref (ad 5), .ref (ad 6), .int (f 12), .ref (ad 7), .int (f 14), .int (f 15), .int (f 16), .int (f 17), .int (f 18), .int (f 19), .int (f 20), .int (f 21), .int (f 22), .ref (ad 8), .int (f 24), .ref (ad 9), .ref (ad 10), .ref (ad 11), .int (f 28), .ref (ad 12), .ref (ad 13), .int (f 31), .ref (ad 14), .int (f 33), .ref (ad 15), .ref (ad 16), .ref (ad 17), .ref (ad 18)] 22 (.int v)) := rfl
theorem kp9_24 (f : Nat → Int32) (v : Int32) : cfM ad cy (upd f 24 v) 0 = .inr (9, List.set [.int (f 0), .int (f 1), .int (f 2), .int (f 3), .ref (ad 1), .int (f 5), .ref (ad 2), .ref (ad 3), .ref (ad 4), .int (f 9), .ref (ad 5), .ref (ad 6), .int (f 12), .ref (ad 7), .int (f 14), .int (f 15), .int (f 16), .int (f 17), .int (f 18), .int (f 19), .int (f 20), .int (f 21), .int (f 22), .ref (ad 8), .int (f 24), .ref (ad 9), .ref (ad 10), .ref (ad 11), .int (f 28), .ref (ad 12), .ref (ad 13), .int (f 31), .ref (ad 14), .int (f 33), .ref (ad 15), .ref (ad 16), .ref (ad 17), .ref (ad 18)] 24 (.int v)) := rfl
theorem kp9_28 (f : Nat → Int32) (v : Int32) : cfM ad cy (upd f 28 v) 0 = .inr (9, List.set [.int (f 0), .int (f 1), .int (f 2), .int (f 3), .ref (ad 1), .int (f 5), .ref (ad 2), .ref (ad 3), .ref (ad 4), .int (f 9), .ref (ad 5), .ref (ad 6), .int (f 12), .ref (ad 7), .int (f 14), .int (f 15), .int (f 16), .int (f 17), .int (f 18), .int (f 19), .int (f 20), .int (f 21), .int (f 22), .ref (ad 8), .int (f 24), .ref (ad 9), .ref (ad 10), .ref (ad 11), .int (f 28), .ref (ad 12), .ref (ad 13), .int (f 31), .ref (ad 14), .int (f 33), .ref (ad 15), .ref (ad 16), .ref (ad 17), .ref (ad 18)] 28 (.int v)) := rfl
theorem kp9_31 (f : Nat → Int32) (v : Int32) : cfM ad cy (upd f 31 v) 0 = .inr (9, List.set [.int (f 0), .int (f 1), .int (f 2), .int (f 3), .ref (ad 1), .int (f 5), .ref (ad 2), .ref (ad 3), .ref (ad 4), .int (f 9), .ref (ad 5), .ref (ad 6), .int (f 12), .ref (ad 7), .int (f 14), .int (f 15), .int (f 16), .int (f 17), .int (f 18), .int (f 19), .int (f 20), .int (f 21), .int (f 22), .ref (ad 8), .int (f 24), .ref (ad 9), .ref (ad 10), .ref (ad 11), .int (f 28), .ref (ad 12), .ref (ad 13), .int (f 31), .ref (ad 14), .int (f 33), .ref (ad 15), .ref (ad 16), .ref (ad 17), .ref (ad 18)] 31 (.int v)) := rfl
theorem kp9_33 (f : Nat → Int32) (v : Int32) : cfM ad cy (upd f 33 v) 0 = .inr (9, List.set [.int (f 0), .int (f 1), .int (f 2), .int (f 3), .ref (ad 1), .int (f 5), .ref (ad 2), .ref (ad 3), .ref (ad 4), .int (f 9), .ref (ad 5), .ref (ad 6), .int (f 12), .ref (ad 7), .int (f 14), .int (f 15), .int (f 16), .int (f 17), .int (f 18), .int (f 19), .int (f 20), .int (f 21), .int (f 22), .ref (ad 8), .int (f 24), .ref (ad 9), .ref (ad 10), .ref (ad 11), .int (f 28), .ref (ad 12), .ref (ad 13), .int (f 31), .ref (ad 14), .int (f 33), .ref (ad 15), .ref (ad 16), .ref (ad 17), .ref (ad 18)] 33 (.int v)) := rfl
end KP
