-- the text, by places
def skF (tx : Nat → Int32) (len : Nat) : Nat → Nat → Nat
  | 0, a => a
  | f + 1, a => if a < len ∧ tx a = 32 then skF tx len f (a + 1) else a
def skB (tx : Nat → Int32) (len a : Nat) : Nat := skF tx len (len - a) a
theorem skB_t {tx : Nat → Int32} {len a : Nat} (h : a < len) (c : tx a = 32) : skB tx len (a + 1) = skB tx len a := by
  unfold skB
  rw [show len - a = (len - (a + 1)) + 1 by omega, skF, if_pos ⟨h, c⟩]
theorem skB_f {tx : Nat → Int32} {len a : Nat} (c : ¬ (a < len ∧ tx a = 32)) : skB tx len a = a := by
  unfold skB
  cases len - a with
  | zero => rfl
  | succ f => rw [skF, if_neg c]
theorem skF_le (tx : Nat → Int32) (len : Nat) : ∀ f a, a ≤ len → a ≤ skF tx len f a ∧ skF tx len f a ≤ len := by
  intro f
  induction f with
  | zero => intro a h; exact ⟨Nat.le_refl _, h⟩
  | succ f ih =>
    intro a h
    rw [skF]
    split
    · rename_i q
      have := ih (a + 1) q.1
      exact ⟨by omega, this.2⟩
    · exact ⟨Nat.le_refl _, h⟩
theorem skB_le {tx : Nat → Int32} {len a : Nat} (h : a ≤ len) : a ≤ skB tx len a ∧ skB tx len a ≤ len := skF_le tx len _ a h
def ltr (tx : Nat → Int32) (len a : Nat) : Int32 := if a < len then tx a else -1
abbrev isF (c : Int32) : Prop := 48 ≤ c ∧ c ≤ 57
def edF (tx : Nat → Int32) (len : Nat) : Nat → Nat → Nat
  | 0, a => a
  | f + 1, a => if a < len ∧ isF (tx a) then edF tx len f (a + 1) else a
def edD (tx : Nat → Int32) (len a : Nat) : Nat := edF tx len (len - a) a
theorem edD_t {tx : Nat → Int32} {len a : Nat} (h : a < len) (c : isF (tx a)) : edD tx len (a + 1) = edD tx len a := by
  unfold edD
  rw [show len - a = (len - (a + 1)) + 1 by omega, edF, if_pos ⟨h, c⟩]
theorem edD_f {tx : Nat → Int32} {len a : Nat} (c : ¬ (a < len ∧ isF (tx a))) : edD tx len a = a := by
  unfold edD
  cases len - a with
  | zero => rfl
  | succ f => rw [edF, if_neg c]
theorem edF_le (tx : Nat → Int32) (len : Nat) : ∀ f a, a ≤ len → a ≤ edF tx len f a ∧ edF tx len f a ≤ len := by
  intro f
  induction f with
  | zero => intro a h; exact ⟨Nat.le_refl _, h⟩
  | succ f ih =>
    intro a h
    rw [edF]
    split
    · rename_i q
      have := ih (a + 1) q.1
      exact ⟨by omega, this.2⟩
    · exact ⟨Nat.le_refl _, h⟩
theorem edD_le {tx : Nat → Int32} {len a : Nat} (h : a ≤ len) : a ≤ edD tx len a ∧ edD tx len a ≤ len := edF_le tx len _ a h
/-- the value of at most three figures from a on -/
def vX (tx : Nat → Int32) (a : Nat) : Nat → Int32
  | 0 => 0
  | d + 1 => if d < 3 then vX tx a d * 10 + tx (a + d) - 48 else vX tx a d
theorem upd_sw (f : Nat → Int32) {j k : Nat} (h : j ≠ k) (x y : Int32) : upd (upd f j x) k y = upd (upd f k y) j x := by
  funext q
  by_cases h1 : q = j
  · subst h1; simp [upd, h]
  · by_cases h2 : q = k
    · subst h2; simp [upd, h1]
    · simp [upd, h1, h2]
theorem nI_sba (a d : Nat) : nI (a + d) - nI a = nI d := by rw [Nat.add_comm]; exact nI_subk d a
-- a number, as the class reads it: where it ends, where it began, the fault, its place, its value
def rnF (tx : Nat → Int32) (len a : Nat) (lo hi : Int32) : Int32 :=
  if edD tx len (skB tx len a) = skB tx len a then 1
  else if 3 < edD tx len (skB tx len a) - skB tx len a then 2
  else if vX tx (skB tx len a) (edD tx len (skB tx len a) - skB tx len a) < lo then 2
  else if vX tx (skB tx len a) (edD tx len (skB tx len a) - skB tx len a) ≤ hi then 0 else 2
def rnA (tx : Nat → Int32) (len a : Nat) (K : Int32) : Nat := if K = 0 then edD tx len (skB tx len a) else a
def rnN (tx : Nat → Int32) (len a : Nat) (K na : Int32) : Int32 := if K = 0 then nI (skB tx len a) else na
def rnK (tx : Nat → Int32) (len a : Nat) (K lo hi : Int32) : Int32 := if K = 0 then rnF tx len a lo hi else K
def rnP (tx : Nat → Int32) (len a : Nat) (K P lo hi : Int32) : Int32 := if K = 0 then (if rnF tx len a lo hi = 0 then P else nI (skB tx len a)) else P
def rnV (tx : Nat → Int32) (len a : Nat) (K lo hi : Int32) : Int32 := if K = 0 then (if rnF tx len a lo hi = 0 then vX tx (skB tx len a) (edD tx len (skB tx len a) - skB tx len a) else -1) else -1
theorem lt_e {tx : Nat → Int32} {len a : Nat} {x : Int32} (h : a < len) (c : ltr tx len a = x) : tx a = x := by rw [← c, ltr, if_pos h]
-- the end of a clause
def ceR (tx : Nat → Int32) (len a : Nat) (K : Int32) : Int32 := if K = 0 then (if ltr tx len (skB tx len a) = 59 then 1 else 0) else 0
def ceA (tx : Nat → Int32) (len a : Nat) (K : Int32) : Nat := if K = 0 then (if ltr tx len (skB tx len a) = 59 then skB tx len a + 1 else skB tx len a) else a
def ceK (tx : Nat → Int32) (len a : Nat) (K : Int32) : Int32 := if K = 0 then (if ltr tx len (skB tx len a) = 59 then 0 else 1) else K
def ceP (tx : Nat → Int32) (len a : Nat) (K P : Int32) : Int32 := if K = 0 then (if ltr tx len (skB tx len a) = 59 then P else nI (skB tx len a)) else P
section CE
variable {σ : Nat → Nat → Int32} {len a : Nat} {K P : Int32}
theorem ce_a (c : ¬ K = 0) (ea : σ 1 4 = nI a) (eK : σ 1 3 = K) (eP : σ 1 2 = P) : up2 (up2 (up2 σ 1 4 (nI (ceA (σ 2) len a K))) 1 3 (ceK (σ 2) len a K)) 1 2 (ceP (σ 2) len a K P) = va_up σ 1 (σ 1) := by
  rw [ceA, ceK, ceP, if_neg c, if_neg c, if_neg c, up2_self σ 1 4 ea, up2_self σ 1 3 eK, up2_self σ 1 2 eP, va_self]
theorem ce_b (c : K = 0) (c2 : ¬ ltr (σ 2) len (skB (σ 2) len a) = 59) (eK : σ 1 3 = K) (eP : σ 1 2 = P) : up2 (up2 (up2 σ 1 4 (nI (ceA (σ 2) len a K))) 1 3 (ceK (σ 2) len a K)) 1 2 (ceP (σ 2) len a K P) = va_up σ 1 (upd (upd (upd (σ 1) 4 (nI (skB (σ 2) len a))) 3 1) 2 (nI (skB (σ 2) len a))) := by
  rw [ceA, ceK, ceP, if_pos c, if_pos c, if_pos c, if_neg c2, if_neg c2, if_neg c2]
  simp only [up2, va_up_self, bx_uu]
theorem ce_c (c : K = 0) (c2 : ltr (σ 2) len (skB (σ 2) len a) = 59) (eK : σ 1 3 = K) (eP : σ 1 2 = P) : up2 (up2 (up2 σ 1 4 (nI (ceA (σ 2) len a K))) 1 3 (ceK (σ 2) len a K)) 1 2 (ceP (σ 2) len a K P) = va_up σ 1 (upd (upd (σ 1) 4 (nI (skB (σ 2) len a))) 4 (nI (skB (σ 2) len a) + 1)) := by
  rw [ceA, ceK, ceP, if_pos c, if_pos c, if_pos c, if_pos c2, if_pos c2, if_pos c2, nI_1, upd_u]
  simp only [up2, va_up_self, bx_uu]
  congr 1
  funext j
  by_cases h2 : j = 2
  · subst h2; simp [upd, eP]
  · by_cases h3 : j = 3
    · subst h3; simp [upd, eK, c]
    · simp [upd, h2, h3]
end CE
theorem lt_F {tx : Nat → Int32} {len a : Nat} (h : a < len) (c : isF (ltr tx len a)) : isF (tx a) := by rw [ltr, if_pos h] at c; exact c
theorem vX_t {tx : Nat → Int32} {len a d : Nat} (h : d < 3) (h2 : a + d < len) : vX tx a (d + 1) = vX tx a d * 10 + ltr tx len (a + d) - 48 := by rw [vX, if_pos h, ltr, if_pos h2]
section RN
variable {tx : Nat → Int32} {len a d : Nat} {K P na lo hi k : Int32} {σ : Nat → Nat → Int32}
theorem rnF_1 (h : edD tx len (skB tx len a) = skB tx len a) : rnF tx len a lo hi = 1 := if_pos h
theorem rnF_2 (h : ¬ edD tx len (skB tx len a) = skB tx len a) (h2 : 3 < edD tx len (skB tx len a) - skB tx len a) : rnF tx len a lo hi = 2 := (if_neg h).trans (if_pos h2)
theorem rnF_3 (h : ¬ edD tx len (skB tx len a) = skB tx len a) (h2 : ¬ 3 < edD tx len (skB tx len a) - skB tx len a) (h3 : vX tx (skB tx len a) (edD tx len (skB tx len a) - skB tx len a) < lo) : rnF tx len a lo hi = 2 := (if_neg h).trans ((if_neg h2).trans (if_pos h3))
theorem rnF_0 (h : ¬ edD tx len (skB tx len a) = skB tx len a) (h2 : ¬ 3 < edD tx len (skB tx len a) - skB tx len a) (h3 : ¬ vX tx (skB tx len a) (edD tx len (skB tx len a) - skB tx len a) < lo) (h4 : vX tx (skB tx len a) (edD tx len (skB tx len a) - skB tx len a) ≤ hi) : rnF tx len a lo hi = 0 := (if_neg h).trans ((if_neg h2).trans ((if_neg h3).trans (if_pos h4)))
theorem rnF_4 (h : ¬ edD tx len (skB tx len a) = skB tx len a) (h2 : ¬ 3 < edD tx len (skB tx len a) - skB tx len a) (h3 : ¬ vX tx (skB tx len a) (edD tx len (skB tx len a) - skB tx len a) < lo) (h4 : ¬ vX tx (skB tx len a) (edD tx len (skB tx len a) - skB tx len a) ≤ hi) : rnF tx len a lo hi = 2 := (if_neg h).trans ((if_neg h2).trans ((if_neg h3).trans (if_neg h4)))
theorem rnV_0 (c : K = 0) (h : rnF tx len a lo hi = 0) (ed : d = edD tx len (skB tx len a) - skB tx len a) : rnV tx len a K lo hi = vX tx (skB tx len a) d := by rw [ed]; exact (if_pos c).trans (if_pos h)
theorem rnV_n (c : K = 0) (h : rnF tx len a lo hi = k) (hk : ¬ k = 0) : rnV tx len a K lo hi = -1 := (if_pos c).trans (if_neg (by rw [h]; exact hk))
theorem rn_a (c : ¬ K = 0) (ea : σ 1 4 = nI a) (eK : σ 1 3 = K) (eP : σ 1 2 = P) (ena : σ 1 5 = na) : up2 (up2 (up2 (up2 σ 1 4 (nI (rnA (σ 2) len a K))) 1 5 (rnN (σ 2) len a K na)) 1 3 (rnK (σ 2) len a K lo hi)) 1 2 (rnP (σ 2) len a K P lo hi) = va_up σ 1 (σ 1) := by
  rw [rnA, rnN, rnK, rnP, if_neg c, if_neg c, if_neg c, if_neg c, up2_self σ 1 4 ea, up2_self σ 1 5 ena, up2_self σ 1 3 eK, up2_self σ 1 2 eP, va_self]
theorem rn_0 (c : K = 0) (h : rnF (σ 2) len a lo hi = 0) (hd : skB (σ 2) len a + d = edD (σ 2) len (skB (σ 2) len a)) (eK : σ 1 3 = K) (eP : σ 1 2 = P) : up2 (up2 (up2 (up2 σ 1 4 (nI (rnA (σ 2) len a K))) 1 5 (rnN (σ 2) len a K na)) 1 3 (rnK (σ 2) len a K lo hi)) 1 2 (rnP (σ 2) len a K P lo hi) = va_up σ 1 (upd (upd (σ 1) 5 (nI (skB (σ 2) len a))) 4 (nI (skB (σ 2) len a + d))) := by
  rw [rnA, rnN, rnK, rnP, if_pos c, if_pos c, if_pos c, if_pos c, h, if_pos rfl, hd]
  simp only [up2, va_up_self, bx_uu]
  congr 1
  funext j
  by_cases h2 : j = 2
  · subst h2; simp [upd, eP]
  · by_cases h3 : j = 3
    · subst h3; simp [upd, eK, c]
    · by_cases h4 : j = 4
      · subst h4; simp [upd]
      · simp [upd, h2, h3, h4]
theorem rn_n (c : K = 0) (h : rnF (σ 2) len a lo hi = k) (hk : ¬ k = 0) (hd : skB (σ 2) len a + d = edD (σ 2) len (skB (σ 2) len a)) (eK : σ 1 3 = K) (eP : σ 1 2 = P) : up2 (up2 (up2 (up2 σ 1 4 (nI (rnA (σ 2) len a K))) 1 5 (rnN (σ 2) len a K na)) 1 3 (rnK (σ 2) len a K lo hi)) 1 2 (rnP (σ 2) len a K P lo hi) = va_up σ 1 (upd (upd (upd (upd (σ 1) 5 (nI (skB (σ 2) len a))) 4 (nI (skB (σ 2) len a + d))) 3 k) 2 (nI (skB (σ 2) len a))) := by
  rw [rnA, rnN, rnK, rnP, if_pos c, if_pos c, if_pos c, if_pos c, h, if_neg hk, hd]
  simp only [up2, va_up_self, bx_uu]
  congr 1
  funext j
  by_cases h2 : j = 2
  · subst h2; simp [upd]
  · by_cases h3 : j = 3
    · subst h3; simp [upd]
    · by_cases h4 : j = 4
      · subst h4; simp [upd]
      · simp [upd, h2, h3, h4]
theorem rn_n1 (c : K = 0) (h : rnF (σ 2) len a lo hi = k) (hk : ¬ k = 0) (hd : skB (σ 2) len a + d = edD (σ 2) len (skB (σ 2) len a)) (hd0 : d = 0) (eK : σ 1 3 = K) (eP : σ 1 2 = P) : up2 (up2 (up2 (up2 σ 1 4 (nI (rnA (σ 2) len a K))) 1 5 (rnN (σ 2) len a K na)) 1 3 (rnK (σ 2) len a K lo hi)) 1 2 (rnP (σ 2) len a K P lo hi) = va_up σ 1 (upd (upd (upd (upd (σ 1) 5 (nI (skB (σ 2) len a))) 4 (nI (skB (σ 2) len a + d))) 3 k) 2 (nI (skB (σ 2) len a + d))) := by
  subst hd0; exact rn_n c h hk hd eK eP
end RN
