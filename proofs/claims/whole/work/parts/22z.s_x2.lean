/-- the first c places made 0 -/
def zrN (f : Nat → Int32) (c : Nat) : Nat → Int32 := fun j => if j < c then 0 else f j
theorem zrN_0 (f : Nat → Int32) : zrN f 0 = f := by funext j; simp [zrN]
theorem zrN_s (f : Nat → Int32) (c : Nat) : upd (zrN f c) c 0 = zrN f (c + 1) := by
  funext j
  by_cases h : j = c
  · subst h; simp [upd, zrN]
  · simp only [upd, if_neg h, zrN]
    by_cases h2 : j < c
    · rw [if_pos h2, if_pos (by omega)]
    · rw [if_neg h2, if_neg (by omega)]
theorem pourOn_7 (ar ow wt O V : Nat → Int32) (p s : Nat) : T_X6_pourOn_O ar ow wt O V p s 7 = O 7 := by
  unfold T_X6_pourOn_O
  repeat' split
  all_goals simp [upd]
theorem lqO_7 (O P S : Nat → Int32) (q : Nat) : T_X6_leaveQueue_O O P S q 7 = nI q := by unfold T_X6_leaveQueue_O; simp [upd]
noncomputable def lcJ : Nat → Nat → Nat
  | 0, sd => sd
  | j + 1, sd => lcJ j (lcg (lcg sd))
noncomputable def xcO (ar ow wt : Nat → Int32) (n k : Nat) : Nat → Nat → (Nat → Int32) → (Nat → Int32) → Nat → Int32
  | 0, _, O, _ => O
  | j + 1, sd, O, V => xcO ar ow wt n k j (lcg (lcg sd)) (T_X6_pourOn_O ar ow wt O V (lcg sd / 65536 % k) (lcg (lcg sd) / 65536 % n)) (T_X6_pourOn_V ar ow wt O V (lcg sd / 65536 % k) (lcg (lcg sd) / 65536 % n))
noncomputable def xcV (ar ow wt : Nat → Int32) (n k : Nat) : Nat → Nat → (Nat → Int32) → (Nat → Int32) → Nat → Int32
  | 0, _, _, V => V
  | j + 1, sd, O, V => xcV ar ow wt n k j (lcg (lcg sd)) (T_X6_pourOn_O ar ow wt O V (lcg sd / 65536 % k) (lcg (lcg sd) / 65536 % n)) (T_X6_pourOn_V ar ow wt O V (lcg sd / 65536 % k) (lcg (lcg sd) / 65536 % n))
noncomputable def xqS (n k sd : Nat) : Nat := if nI k ≤ 0 then sd else if nI n ≤ 0 then sd else lcJ 3 sd
noncomputable def xqO (ar ow wt : Nat → Int32) (n k sd : Nat) (O V : Nat → Int32) : Nat → Int32 := if nI k ≤ 0 then O else if nI n ≤ 0 then O else xcO ar ow wt n k 3 sd O V
noncomputable def xqV (ar ow wt : Nat → Int32) (n k sd : Nat) (O V : Nat → Int32) : Nat → Int32 := if nI k ≤ 0 then V else if nI n ≤ 0 then V else xcV ar ow wt n k 3 sd O V
noncomputable def xeS (n sd : Nat) : Nat := if nI (lcg sd / 65536 % 4) = 0 then lcg (lcg sd) else if nI (lcg sd / 65536 % 4) = 1 then (if nI n ≤ 0 then lcg sd else lcg (lcg sd)) else lcg sd
noncomputable def xeO (n sd : Nat) (O V : Nat → Int32) : Nat → Int32 := if nI (lcg sd / 65536 % 4) = 0 then upd O 1 (nI (lcg (lcg sd) / 65536 % 30)) else if nI (lcg sd / 65536 % 4) = 1 then (if nI n ≤ 0 then O else T_X6_sayAgain_O O V (lcg (lcg sd) / 65536 % n)) else O
noncomputable def xeV (n sd : Nat) (O V : Nat → Int32) : Nat → Int32 := if nI (lcg sd / 65536 % 4) = 0 then V else if nI (lcg sd / 65536 % 4) = 1 then (if nI n ≤ 0 then V else T_X6_sayAgain_V O V (lcg (lcg sd) / 65536 % n)) else V
noncomputable def xaS (n k sd : Nat) : Nat := xeS n (xqS n k sd)
noncomputable def xaO (ar ow wt : Nat → Int32) (n k sd : Nat) (O V : Nat → Int32) : Nat → Int32 := xeO n (xqS n k sd) (xqO ar ow wt n k sd O V) (xqV ar ow wt n k sd O V)
noncomputable def xaV (ar ow wt : Nat → Int32) (n k sd : Nat) (O V : Nat → Int32) : Nat → Int32 := xeV n (xqS n k sd) (xqO ar ow wt n k sd O V) (xqV ar ow wt n k sd O V)
theorem lcJ_s (j sd : Nat) : lcJ (j + 1) sd = lcJ j (lcg (lcg sd)) := rfl
theorem lcJ_lt {B : Nat} (hB : B = 2 ^ 31) (j : Nat) : ∀ sd : Nat, sd < B → lcJ j sd < B := by
  induction j with
  | zero => intro sd h; exact h
  | succ j ih => intro sd _; rw [lcJ_s]; exact ih _ (by rw [hB]; exact lcg_lt _)
theorem xqS_lt {n k sd : Nat} {B : Nat} (hB : B = 2 ^ 31) (h : sd < B) : xqS n k sd < B := by
  unfold xqS; repeat' split
  · exact h
  · exact h
  · exact lcJ_lt hB _ _ h
theorem xeS_lt (n sd : Nat) {B : Nat} (hB : B = 2 ^ 31) : xeS n sd < B := by
  unfold xeS; rw [hB]; repeat' split
  all_goals exact lcg_lt _
theorem upd_self (f : Nat → Int32) (k : Nat) {x : Int32} (h : f k = x) : upd f k x = f := by
  funext j; by_cases hj : j = k
  · subst hj; simp [upd, h]
  · simp [upd, hj]
theorem upd_u (f : Nat → Int32) (k : Nat) (x y : Int32) : upd (upd f k x) k y = upd f k y := by
  funext j; by_cases h : j = k <;> simp [upd, h]
theorem nz_X {n : Nat} (h : ¬ nI n ≤ 0) : 0 < n := by
  rcases Nat.eq_zero_or_pos n with q | q
  · exact absurd (by rw [q]; decide) h
  · exact q
/-- nights of drift -/
noncomputable def xdS (n k : Nat) : Nat → Nat → Nat
  | 0, sd => sd
  | c + 1, sd => xaS n k (xdS n k c sd)
theorem xdS_s (n k c sd : Nat) : xdS n k (c + 1) sd = xaS n k (xdS n k c sd) := rfl
theorem xdS_lt {n k sd : Nat} {B : Nat} (hB : B = 2 ^ 31) (h : sd < B) (c : Nat) : xdS n k c sd < B := by
  cases c with
  | zero => exact h
  | succ c => rw [xdS_s]; unfold xaS; exact xeS_lt _ _ hB
