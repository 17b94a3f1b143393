def fwN (Y : Nat → Int32) (w : Int32) : Int32 :=
  if w = 121 then (if Y 0 = 0 then 0 else 3)
  else if w = 112 then (if Y 0 = 0 then 1 else if 5 ≤ Y 3 then 3 else 0)
  else if w = 115 then (if Y 0 = 0 then 1 else if 10 ≤ Y 5 then 3 else 0)
  else if w = 102 then (if Y 0 = 0 then 1 else if Y 10 < 15 then 0 else 3)
  else 1
theorem n1 : ¬ (121 : Int32) = 112 := by decide
theorem n2 : ¬ (121 : Int32) = 115 := by decide
theorem n3 : ¬ (121 : Int32) = 102 := by decide
theorem n4 : ¬ (112 : Int32) = 115 := by decide
theorem n5 : ¬ (112 : Int32) = 102 := by decide
theorem n6 : ¬ (115 : Int32) = 102 := by decide
theorem n7 : ¬ (112 : Int32) = 121 := by decide
theorem n8 : ¬ (115 : Int32) = 121 := by decide
theorem n9 : ¬ (115 : Int32) = 112 := by decide
theorem fw_eq (Y : Nat → Int32) (w : Int32) : R_X4_faultOfWord Y w = fwN Y w := by
  unfold R_X4_faultOfWord fwN
  by_cases h1 : w = 121
  · subst h1; simp only [if_true, if_neg n1, if_neg n2, if_neg n3]
  · simp only [if_neg h1]
    by_cases h2 : w = 112
    · subst h2; simp only [if_true, if_neg n4, if_neg n5]
    · simp only [if_neg h2]
      by_cases h3 : w = 115
      · subst h3; simp only [if_true, if_neg n6]
      · simp only [if_neg h3]
theorem fw_p {Y : Nat → Int32} {k : Nat} (h : fwN Y 112 = 0) (ek : Y 3 = nI k) (hk : k ≤ 5) : k < 5 := by
  rcases Nat.lt_or_ge k 5 with q | q
  · exact q
  · have e : k = 5 := by omega
    unfold fwN at h
    rw [if_neg n7, if_pos rfl, ek, e] at h
    split at h
    · exact absurd h (by decide)
    · rw [if_pos (show (5 : Int32) ≤ nI 5 by decide)] at h; exact absurd h (by decide)
theorem fw_s {Y : Nat → Int32} {n : Nat} (h : fwN Y 115 = 0) (en : Y 5 = nI n) (hn : n ≤ 10) : n < 10 := by
  rcases Nat.lt_or_ge n 10 with q | q
  · exact q
  · have e : n = 10 := by omega
    unfold fwN at h
    rw [if_neg n8, if_neg n9, if_pos rfl, en, e] at h
    split at h
    · exact absurd h (by decide)
    · rw [if_pos (show (10 : Int32) ≤ nI 10 by decide)] at h; exact absurd h (by decide)
theorem fw_in {Y tx : Nat → Int32} {len a : Nat} (h : fwN Y (ltr tx len a) = 0) : a < len := by
  rcases Nat.lt_or_ge a len with q | q
  · exact q
  · rw [ltr, if_neg (by omega)] at h
    exact absurd h (by unfold fwN; simp only [if_neg (show ¬ (-1 : Int32) = 121 by decide), if_neg (show ¬ (-1 : Int32) = 112 by decide), if_neg (show ¬ (-1 : Int32) = 115 by decide), if_neg (show ¬ (-1 : Int32) = 102 by decide)]; decide)
theorem rd_0 (f : Nat → Int32) (x a n k p : Int32) : upd (upd (upd (upd f 4 a) 5 n) 3 k) 2 p = upd (upd (upd (upd (upd f 4 x) 4 a) 5 n) 3 k) 2 p := by rw [upd_u]
theorem rd_b {f : Nat → Int32} {a n : Int32} (k p : Int32) (ha : f 4 = a) (hn : f 5 = n) : upd (upd (upd (upd f 4 a) 5 n) 3 k) 2 p = upd (upd f 3 k) 2 p := by rw [upd_self _ _ ha, upd_self _ _ hn]
