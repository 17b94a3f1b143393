theorem rnA_le {tx : Nat → Int32} {len a : Nat} {K : Int32} (h : a ≤ len) : rnA tx len a K ≤ len := by
  unfold rnA; split
  · exact (edD_le (skB_le h).2).2
  · exact h
theorem ceA_le {tx : Nat → Int32} {len a : Nat} {K : Int32} (h : a ≤ len) : ceA tx len a K ≤ len := by
  unfold ceA; split
  · split
    · rename_i q
      have h1 := (skB_le (tx := tx) h).2
      rcases Nat.lt_or_ge (skB tx len a) len with z | z
      · exact z
      · rw [ltr, if_neg (by omega)] at q; exact absurd q (by decide)
    · exact (skB_le h).2
  · exact h
-- what a reader's row comes to
theorem rd_n1 (f : Nat → Int32) (a1 n1 k1 p1 a2 k2 p2 : Int32) : upd (upd (upd (upd f 4 a2) 5 n1) 3 k2) 2 p2 = upd (upd (upd (upd (upd (upd (upd f 4 a1) 5 n1) 3 k1) 2 p1) 4 a2) 3 k2) 2 p2 := by
  funext j
  by_cases h2 : j = 2
  · subst h2; simp [upd]
  · by_cases h3 : j = 3
    · subst h3; simp [upd]
    · by_cases h4 : j = 4
      · subst h4; simp [upd]
      · by_cases h5 : j = 5
        · subst h5; simp [upd]
        · simp [upd, h2, h3, h4, h5]
theorem rd_n2 (f : Nat → Int32) (a0 n0 k0 p0 a1 n1 k1 p1 a2 k2 p2 : Int32) : upd (upd (upd (upd f 4 a2) 5 n1) 3 k2) 2 p2 = upd (upd (upd (upd (upd (upd (upd (upd (upd (upd (upd f 4 a0) 5 n0) 3 k0) 2 p0) 4 a1) 5 n1) 3 k1) 2 p1) 4 a2) 3 k2) 2 p2 := by
  funext j
  by_cases h2 : j = 2
  · subst h2; simp [upd]
  · by_cases h3 : j = 3
    · subst h3; simp [upd]
    · by_cases h4 : j = 4
      · subst h4; simp [upd]
      · by_cases h5 : j = 5
        · subst h5; simp [upd]
        · simp [upd, h2, h3, h4, h5]
theorem rd_n2b (f : Nat → Int32) (a0 n0 k0 p0 a1 n1 k1 p1 kb pb a2 k2 p2 : Int32) : upd (upd (upd (upd f 4 a2) 5 n1) 3 k2) 2 p2 = upd (upd (upd (upd (upd (upd (upd (upd (upd (upd (upd (upd (upd f 4 a0) 5 n0) 3 k0) 2 p0) 4 a1) 5 n1) 3 k1) 2 p1) 3 kb) 2 pb) 4 a2) 3 k2) 2 p2 := by
  funext j
  by_cases h2 : j = 2
  · subst h2; simp [upd]
  · by_cases h3 : j = 3
    · subst h3; simp [upd]
    · by_cases h4 : j = 4
      · subst h4; simp [upd]
      · by_cases h5 : j = 5
        · subst h5; simp [upd]
        · simp [upd, h2, h3, h4, h5]
theorem rd_n3 (f : Nat → Int32) (a9 n9 k9 p9 a0 n0 k0 p0 a1 n1 k1 p1 a2 k2 p2 : Int32) : upd (upd (upd (upd f 4 a2) 5 n1) 3 k2) 2 p2 = upd (upd (upd (upd (upd (upd (upd (upd (upd (upd (upd (upd (upd (upd (upd f 4 a9) 5 n9) 3 k9) 2 p9) 4 a0) 5 n0) 3 k0) 2 p0) 4 a1) 5 n1) 3 k1) 2 p1) 4 a2) 3 k2) 2 p2 := by
  funext j
  by_cases h2 : j = 2
  · subst h2; simp [upd]
  · by_cases h3 : j = 3
    · subst h3; simp [upd]
    · by_cases h4 : j = 4
      · subst h4; simp [upd]
      · by_cases h5 : j = 5
        · subst h5; simp [upd]
        · simp [upd, h2, h3, h4, h5]
/-- the reader's row and others: one store of rows -/
theorem st_rd {σ : Nat → Nat → Int32} {a n k p : Int32} {f : Nat → Int32} (h : upd (upd (upd (upd (σ 1) 4 a) 5 n) 3 k) 2 p = f) : up2 (up2 (up2 (up2 σ 1 4 a) 1 5 n) 1 3 k) 1 2 p = va_up σ 1 f := by
  rw [← h]; simp only [up2, va_up_self, bx_uu]
