section FG
variable {al w l : Int32}
theorem frog_pf (c : w ≤ al - w) (c2 : l ≤ al - w) : l ≤ frogP al w := by rw [frogP, if_pos c]; exact c2
theorem frog_pt (c : w ≤ al - w) (c2 : ¬ l ≤ al - w) : ¬ l ≤ frogP al w := by rw [frogP, if_pos c]; exact c2
theorem frog_nf (c : ¬ w ≤ al - w) (c2 : l ≤ w) : l ≤ frogP al w := by rw [frogP, if_neg c]; exact c2
theorem frog_nt (c : ¬ w ≤ al - w) (c2 : ¬ l ≤ w) : ¬ l ≤ frogP al w := by rw [frogP, if_neg c]; exact c2
theorem frog_vp (c : w ≤ al - w) : frogP al w = al - w := if_pos c
theorem frog_vn (c : ¬ w ≤ al - w) : frogP al w = w := if_neg c
end FG
