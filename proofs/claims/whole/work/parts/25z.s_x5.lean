/-- the least so far, and which -/
def minN (l0 : Int32) (cost : Nat → Int32) : Nat → Int32 × Int32
  | 0 => (-1, l0)
  | i + 1 => if (minN l0 cost i).2 ≤ cost i then minN l0 cost i else (nI i, cost i)
section MN
variable {l0 : Int32} {cost : Nat → Int32} {i : Nat} {v : Int32}
theorem minN_f1 (E : cost i = v) (c : (minN l0 cost i).2 ≤ v) : (minN l0 cost (i + 1)).1 = (minN l0 cost i).1 := by rw [← E] at c; rw [minN, if_pos c]
theorem minN_f2 (E : cost i = v) (c : (minN l0 cost i).2 ≤ v) : (minN l0 cost (i + 1)).2 = (minN l0 cost i).2 := by rw [← E] at c; rw [minN, if_pos c]
theorem minN_t1 (E : cost i = v) (c : ¬ (minN l0 cost i).2 ≤ v) : (minN l0 cost (i + 1)).1 = nI i := by rw [← E] at c; rw [minN, if_neg c]
theorem minN_t2 (E : cost i = v) (c : ¬ (minN l0 cost i).2 ≤ v) : (minN l0 cost (i + 1)).2 = v := by rw [← E] at c ⊢; rw [minN, if_neg c]
end MN
/-- what the riddle has gathered of the first c sets -/
def goX (wt fr : Nat → Int32) (n : Nat) (h x : Int32) (c : Nat) : Bool := decide (nI c &&& h = 0 ∧ (sumN wt (nI c) n = x ∧ holdN fr (nI c) n = h))
def gaO (g : Nat → Bool) (R0 : Nat → Int32) : Nat → Nat → Int32
  | 0 => R0
  | c + 1 => if g c = true then upd (upd (gaO g R0 c) 0 (gaO g R0 c 0 + 1)) 1 (gaO g R0 c 1 &&& nI c) else gaO g R0 c
def gaW (g : Nat → Bool) (W0 : Nat → Int32) : Nat → Nat → Int32
  | 0 => W0
  | c + 1 => if g c = true then tlN (gaW g W0 c) (nI c) 10 else gaW g W0 c
theorem go_n1 {wt fr : Nat → Int32} {n : Nat} {h x : Int32} {c : Nat} (q : ¬ nI c &&& h = 0) : ¬ goX wt fr n h x c = true := fun z => q (of_decide_eq_true z).1
theorem go_n2 {wt fr : Nat → Int32} {n : Nat} {h x : Int32} {c : Nat} (q : ¬ sumN wt (nI c) n = x) : ¬ goX wt fr n h x c = true := fun z => q (of_decide_eq_true z).2.1
theorem go_n3 {wt fr : Nat → Int32} {n : Nat} {h x : Int32} {c : Nat} (q : ¬ holdN fr (nI c) n = h) : ¬ goX wt fr n h x c = true := fun z => q (of_decide_eq_true z).2.2
theorem go_y {wt fr : Nat → Int32} {n : Nat} {h x : Int32} {c : Nat} (q1 : nI c &&& h = 0) (q2 : sumN wt (nI c) n = x) (q3 : holdN fr (nI c) n = h) : goX wt fr n h x c = true := decide_eq_true ⟨q1, q2, q3⟩
/-- how many stay alike at worst -/
def alX (cn : Int32) (W : Nat → Int32) (c : Nat) : Int32 := if W c < cn - W c then cn - W c else W c
/-- drought, as the class reckons it -/
def drX (v sp lev : Int32) : Nat → Nat → Int32
  | 0, _ => -1
  | j + 1, c => if lev + nI c * sp < v then drX v sp lev j (c + 1) else nI c
noncomputable def xtS (n k : Nat) : Nat → Nat → Nat
  | 0, sd => sd
  | c + 1, sd => xtS n k c (xaS n k sd)
noncomputable def xtO (ar ow wt : Nat → Int32) (sp : Int32) (n k : Nat) : Nat → Nat → (Nat → Int32) → (Nat → Int32) → Nat → Int32
  | 0, _, O, _ => O
  | c + 1, sd, O, V => xtO ar ow wt sp n k c (xaS n k sd) (T_X6_passNight_O (xaO ar ow wt n k sd O V) sp) (xaV ar ow wt n k sd O V)
noncomputable def xtV (ar ow wt : Nat → Int32) (sp : Int32) (n k : Nat) : Nat → Nat → (Nat → Int32) → (Nat → Int32) → Nat → Int32
  | 0, _, _, V => V
  | c + 1, sd, O, V => xtV ar ow wt sp n k c (xaS n k sd) (T_X6_passNight_O (xaO ar ow wt n k sd O V) sp) (xaV ar ow wt n k sd O V)
theorem rfX {c1 c2 c3 c4 : Prop} [Decidable c1] [Decidable c2] [Decidable c3] [Decidable c4] (h : (if c1 then (-1000000002 : Int32) else (if c2 then (if c3 then (-1000000003) else (if c4 then 0 else (-1000000004))) else (-1000000002))) = 0) : ¬ c1 ∧ c2 := by
  by_cases h1 : c1
  · rw [if_pos h1] at h; exact absurd h (by decide)
  · by_cases h2 : c2
    · exact ⟨h1, h2⟩
    · rw [if_neg h1, if_neg h2] at h; exact absurd h (by decide)
theorem nI_60x {v : Int32} (c : ¬ v < 1 ∧ v ≤ 60) : ∃ j : Nat, j < 61 ∧ v = nI j := nI_60 ⟨Int32.not_lt.mp c.1, c.2⟩
theorem nI_rng4 {x : Int32} {n : Nat} {m : Int32} (h0 : ¬ x < 0) (h1 : x < m) (hm : m = nI n := by rfl) (hn : n < 2 ^ 31 := by omega) : ∃ j : Nat, j < n ∧ x = nI j := nI_rng hn h0 (by rw [← hm]; exact Int32.not_le.mpr h1)
theorem nz_ne {n : Nat} (c : ¬ nI n = 0) : 0 < n := by
  rcases Nat.eq_zero_or_pos n with h | h
  · exact absurd (by rw [h]; rfl) c
  · exact h
theorem pos_q {u : Nat} (c : ¬ nI u = 0) : ∃ q, u = q + 1 := ⟨u - 1, by have := nz_ne c; omega⟩
