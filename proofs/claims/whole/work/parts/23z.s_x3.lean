theorem two_pos (n : Nat) : 1 ≤ 2 ^ n := Nat.one_le_two_pow
/-- the cheapest so far among those that fit, and what it costs -/
def gdX (fr O : Nat → Int32) (n : Nat) (h t : Int32) (c : Nat) : Bool := decide (nI c &&& (O 4 ||| O 5) = 0 ∧ (holdN fr (O 4 ||| nI c) n &&& h = h ∧ holdN fr (O 4 ||| nI c) n &&& t = 0))
def cpX (wt V : Nat → Int32) (n : Nat) (c : Nat) : Int32 := sumN (fun j => wt j - V j) (nI c) n
def chX (g : Nat → Bool) (f : Nat → Int32) : Nat → Int32 × Int32
  | 0 => (-1, 0)
  | c + 1 => if g c = true then (if (chX g f c).1 = -1 then (nI c, f c) else if (chX g f c).2 ≤ f c then chX g f c else (nI c, f c)) else chX g f c
section CX
variable {g : Nat → Bool} {f : Nat → Int32} {c : Nat} {fr O : Nat → Int32} {n : Nat} {h t : Int32}
theorem chX_n (hg : ¬ (nI c &&& (O 4 ||| O 5) = 0 ∧ (holdN fr (O 4 ||| nI c) n &&& h = h ∧ holdN fr (O 4 ||| nI c) n &&& t = 0))) : chX (gdX fr O n h t) f (c + 1) = chX (gdX fr O n h t) f c := if_neg (fun q => hg (of_decide_eq_true q))
theorem chX_a (hg : nI c &&& (O 4 ||| O 5) = 0 ∧ (holdN fr (O 4 ||| nI c) n &&& h = h ∧ holdN fr (O 4 ||| nI c) n &&& t = 0)) (c1 : (chX (gdX fr O n h t) f c).1 = -1) : chX (gdX fr O n h t) f (c + 1) = (nI c, f c) := (if_pos (decide_eq_true hg)).trans (if_pos c1)
theorem chX_b (hg : nI c &&& (O 4 ||| O 5) = 0 ∧ (holdN fr (O 4 ||| nI c) n &&& h = h ∧ holdN fr (O 4 ||| nI c) n &&& t = 0)) (c1 : ¬ (chX (gdX fr O n h t) f c).1 = -1) (c2 : (chX (gdX fr O n h t) f c).2 ≤ f c) : chX (gdX fr O n h t) f (c + 1) = chX (gdX fr O n h t) f c := (if_pos (decide_eq_true hg)).trans ((if_neg c1).trans (if_pos c2))
theorem chX_c (hg : nI c &&& (O 4 ||| O 5) = 0 ∧ (holdN fr (O 4 ||| nI c) n &&& h = h ∧ holdN fr (O 4 ||| nI c) n &&& t = 0)) (c1 : ¬ (chX (gdX fr O n h t) f c).1 = -1) (c2 : ¬ (chX (gdX fr O n h t) f c).2 ≤ f c) : chX (gdX fr O n h t) f (c + 1) = (nI c, f c) := (if_pos (decide_eq_true hg)).trans ((if_neg c1).trans (if_neg c2))
end CX
/-- the best so far among 1, 2 .. -/
def gbX (wt O V : Nat → Int32) (n : Nat) (v : Int32) (c : Nat) : Bool := decide (nI c &&& (O 4 ||| O 5) = 0 ∧ ¬ v < sumN (fun j => wt j - V j) (nI c) n)
def wbX (wo fr O : Nat → Int32) (n : Nat) (c : Nat) : Int32 := sumN wo (holdN fr (O 4 ||| nI c) n) n
def bsX (g : Nat → Bool) (f : Nat → Int32) (m0 : Int32) : Nat → Int32 × Int32
  | 0 => (0, m0)
  | c + 1 => if g (c + 1) = true then (if f (c + 1) ≤ (bsX g f m0 c).2 then bsX g f m0 c else (nI (c + 1), f (c + 1))) else bsX g f m0 c
section BX
variable {f : Nat → Int32} {c : Nat} {wt O V : Nat → Int32} {n : Nat} {v m0 : Int32}
theorem bsX_n (hg : ¬ (nI (c + 1) &&& (O 4 ||| O 5) = 0 ∧ ¬ v < sumN (fun j => wt j - V j) (nI (c + 1)) n)) : bsX (gbX wt O V n v) f m0 (c + 1) = bsX (gbX wt O V n v) f m0 c := if_neg (fun q => hg (of_decide_eq_true q))
theorem bsX_b (hg : nI (c + 1) &&& (O 4 ||| O 5) = 0 ∧ ¬ v < sumN (fun j => wt j - V j) (nI (c + 1)) n) (c2 : f (c + 1) ≤ (bsX (gbX wt O V n v) f m0 c).2) : bsX (gbX wt O V n v) f m0 (c + 1) = bsX (gbX wt O V n v) f m0 c := (if_pos (decide_eq_true hg)).trans (if_pos c2)
theorem bsX_c (hg : nI (c + 1) &&& (O 4 ||| O 5) = 0 ∧ ¬ v < sumN (fun j => wt j - V j) (nI (c + 1)) n) (c2 : ¬ f (c + 1) ≤ (bsX (gbX wt O V n v) f m0 c).2) : bsX (gbX wt O V n v) f m0 (c + 1) = (nI (c + 1), f (c + 1)) := (if_pos (decide_eq_true hg)).trans (if_neg c2)
end BX
/-- the first wrong entry from c on -/
def judN (is : Int32) (bo bk : Nat → Int32) : Nat → Nat → Int32
  | 0, _ => -1
  | j + 1, c => if bi (hasB is (bo c)) = bk c then judN is bo bk j (c + 1) else nI c
theorem rn_16 {nx : Nat} (h : nx < 16) : nI nx + 1 - (nI nx + 1) / 16 * 16 = nI ((nx + 1) % 16) := by
  rw [nI_1]; exact pk_rem (d := 16) (by omega) (by decide) (by decide)
theorem mn_16 {ct : Nat} (h : ct ≤ 16) : (if 16 < nI ct + 1 then (16 : Int32) else nI ct + 1) = nI (min (ct + 1) 16) := by
  rw [nI_1]
  rcases Nat.lt_or_ge 16 (ct + 1) with q | q
  · exact (if_pos (nI_lt (a := 16) q (by omega))).trans (by rw [Nat.min_eq_right (by omega)]; rfl)
  · exact (if_neg (nI_nlt (b := ct + 1) (a := 16) q (by decide))).trans (by rw [Nat.min_eq_left (by omega)])
theorem rb_16 {nx : Nat} (h : nx < 16) : nI nx + 16 - 1 - (nI nx + 16 - 1) / 16 * 16 = nI ((nx + 15) % 16) := by
  have e : nI nx + 16 - 1 = nI (nx + 15) := by
    rw [show (16 : Int32) = nI 16 from rfl, nI_add, show nx + 16 = (nx + 15) + 1 from rfl]; exact nI_pred _
  rw [e]; exact pk_rem (d := 16) (by omega) (by decide) (by decide)
theorem sb_1 {ct : Nat} (h : 0 < ct) : nI ct - 1 = nI (ct - 1) := by
  obtain ⟨q, rfl⟩ : ∃ q, ct = q + 1 := ⟨ct - 1, by omega⟩
  exact nI_pred q
