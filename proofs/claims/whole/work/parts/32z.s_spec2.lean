def turnQ (N : Nat → Int32) (q : Nat) : Nat → Int32 := upd (qsN (upd N 16 (nI q)) q) (17 + q) 0
def turnN (ar ow wt N : Nat → Int32) (q pp ss : Nat) : Nat → Int32 :=
  if R_X9_pourNow ar ow wt (turnQ N q) pp ss ≤ 0 then T_X9_pourNow ar ow wt (turnQ N q) pp ss
  else if hasB (T_X9_pourNow ar ow wt (turnQ N q) pp ss 10) (nI ss) then T_X9_pourNow ar ow wt (turnQ N q) pp ss
  else T_X9_lineUp (T_X9_pourNow ar ow wt (turnQ N q) pp ss) q (N 17)
section TN
variable {ar ow wt N : Nat → Int32} {q pp ss : Nat}
theorem turnN_a (c : R_X9_pourNow ar ow wt (turnQ N q) pp ss ≤ 0) : turnN ar ow wt N q pp ss = T_X9_pourNow ar ow wt (turnQ N q) pp ss := if_pos c
theorem turnN_b (c : ¬ R_X9_pourNow ar ow wt (turnQ N q) pp ss ≤ 0) (c2 : hasB (T_X9_pourNow ar ow wt (turnQ N q) pp ss 10) (nI ss)) : turnN ar ow wt N q pp ss = T_X9_pourNow ar ow wt (turnQ N q) pp ss := (if_neg c).trans (if_pos c2)
theorem turnN_c (c : ¬ R_X9_pourNow ar ow wt (turnQ N q) pp ss ≤ 0) (c2 : ¬ hasB (T_X9_pourNow ar ow wt (turnQ N q) pp ss 10) (nI ss)) : turnN ar ow wt N q pp ss = T_X9_lineUp (T_X9_pourNow ar ow wt (turnQ N q) pp ss) q (N 17) := (if_neg c).trans (if_neg c2)
end TN
theorem pourNow_hi (ar ow wt N : Nat → Int32) (p : Nat) {s j : Nat} (hs : s < 10) (hj : 16 ≤ j) : T_X9_pourNow ar ow wt N p s j = N j := by
  have h1 : j ≠ 12 := by omega
  have h2 : j ≠ 15 := by omega
  have h3 : j ≠ s := by omega
  have h4 : j ≠ 10 := by omega
  unfold T_X9_pourNow
  repeat' split
  all_goals simp [upd, h1, h2, h3, h4]
theorem turnQ_16 (N : Nat → Int32) (q : Nat) : turnQ N q 16 = nI q := by
  unfold turnQ
  rw [pk_un (by omega), qsN_at _ (Or.inl (by decide)), pk_us]
