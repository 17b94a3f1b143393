/-- the first c places moved by one -/
def lqN (f : Nat → Int32) (c : Nat) : Nat → Int32 := fun j => if j < c then f (j + 1) else f j
theorem lqN_0 (f : Nat → Int32) : lqN f 0 = f := by funext j; simp [lqN]
theorem lqN_s (f : Nat → Int32) (c : Nat) : upd (lqN f c) c (f (c + 1)) = lqN f (c + 1) := by
  funext j
  by_cases h : j = c
  · subst h; simp [upd, lqN]
  · simp only [upd, if_neg h, lqN]
    by_cases h2 : j < c
    · rw [if_pos h2, if_pos (by omega)]
    · rw [if_neg h2, if_neg (by omega)]
theorem lqN_at (f : Nat → Int32) {c j : Nat} (h : c ≤ j) : lqN f c j = f j := by simp [lqN]; omega
theorem mx_0 {q : Nat} (h : q < 2 ^ 31) : (if nI q < 0 then (0 : Int32) else nI q) = nI q := if_neg (nI_pos h)
