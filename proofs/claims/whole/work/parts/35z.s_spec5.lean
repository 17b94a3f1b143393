/-- the most so far among 1, 2 .., and which -/
def maxN (m0 : Int32) (val : Nat → Int32) : Nat → Int32 × Int32
  | 0 => (0, m0)
  | i + 1 => if val (i + 1) ≤ (maxN m0 val i).2 then maxN m0 val i else (nI (i + 1), val (i + 1))
section MX
variable {m0 : Int32} {val : Nat → Int32} {i : Nat} {v : Int32}
theorem maxN_f1 (E : val (i + 1) = v) (c : v ≤ (maxN m0 val i).2) : (maxN m0 val (i + 1)).1 = (maxN m0 val i).1 := by rw [← E] at c; rw [maxN, if_pos c]
theorem maxN_f2 (E : val (i + 1) = v) (c : v ≤ (maxN m0 val i).2) : (maxN m0 val (i + 1)).2 = (maxN m0 val i).2 := by rw [← E] at c; rw [maxN, if_pos c]
theorem maxN_t1 (E : val (i + 1) = v) (c : ¬ v ≤ (maxN m0 val i).2) : (maxN m0 val (i + 1)).1 = nI (i + 1) := by rw [← E] at c; rw [maxN, if_neg c]
theorem maxN_t2 (E : val (i + 1) = v) (c : ¬ v ≤ (maxN m0 val i).2) : (maxN m0 val (i + 1)).2 = v := by rw [← E] at c ⊢; rw [maxN, if_neg c]
end MX
/-- what a set costs, if it may be unsaid and leaves what is asked -/
def stC (wt fr N : Nat → Int32) (fe : Int32) (n : Nat) (h t : Int32) (i : Nat) : Int32 :=
  if nI i &&& (fe ^^^ (-1)) = 0 ∧ h &&& (holdN fr (N 10 ||| nI i) n ^^^ (-1)) = 0 ∧ t &&& holdN fr (N 10 ||| nI i) n = 0 then sumN (fun j => wt j - N j) (nI i) n else 1000000
/-- what is left in worth, if it may be unsaid for so many pails -/
def beV (wo wt fr N : Nat → Int32) (fe : Int32) (n : Nat) (v : Int32) (i : Nat) : Int32 :=
  if nI i &&& (fe ^^^ (-1)) = 0 ∧ ¬ v < sumN (fun j => wt j - N j) (nI i) n then sumN (fun j => wo j - 50) (holdN fr (N 10 ||| nI i) n) n else (-1000000)
/-- drought: nights from c on -/
def drtN (v sp : Int32) : Nat → Nat → Int32 → Int32
  | 0, _, _ => -1
  | j + 1, c, lev => if lev < v then drtN v sp j (c + 1) (R_X9_filled lev sp) else nI c
