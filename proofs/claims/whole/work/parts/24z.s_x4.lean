theorem nI_or (a b : Nat) : nI a ||| nI b = nI (a ||| b) := by
  apply Int32.toBitVec_inj.1
  show BitVec.ofNat 32 a ||| BitVec.ofNat 32 b = BitVec.ofNat 32 (a ||| b)
  apply BitVec.eq_of_getLsbD_eq
  intro i hi
  simp [BitVec.getLsbD_ofNat, hi]
theorem nI_and (a b : Nat) : nI a &&& nI b = nI (a &&& b) := by
  apply Int32.toBitVec_inj.1
  show BitVec.ofNat 32 a &&& BitVec.ofNat 32 b = BitVec.ofNat 32 (a &&& b)
  apply BitVec.eq_of_getLsbD_eq
  intro i hi
  simp [BitVec.getLsbD_ofNat, hi]
theorem holdN_rng (fr : Nat → Int32) (u : Int32) : ∀ i, i ≤ 10 → ∃ k, k < 2 ^ i ∧ holdN fr u i = nI k := by
  intro i
  induction i with
  | zero => intro _; exact ⟨0, by decide, rfl⟩
  | succ i ih =>
    intro h
    obtain ⟨k, hk, e⟩ := ih (by omega)
    have hp : 2 ^ (i + 1) = 2 ^ i + 2 ^ i := by rw [Nat.pow_succ]; omega
    unfold holdN
    split
    · refine ⟨k ||| 2 ^ i, Nat.or_lt_two_pow (by omega) (by omega), ?_⟩
      rw [e, shl1 (by omega), nI_or]
    · exact ⟨k, by omega, e⟩
/-- what one has with it is among what one had -/
theorem and_rng {x y : Int32} {k B : Nat} (hk : k < B) (hB : B ≤ 1024) (e : x = nI k) : ∃ j, j < B ∧ x &&& y = nI j := by
  subst e
  refine ⟨k &&& y.toBitVec.toNat, Nat.lt_of_le_of_lt Nat.and_le_left hk, ?_⟩
  have : y = nI y.toBitVec.toNat := by
    apply Int32.toBitVec_inj.1
    show y.toBitVec = BitVec.ofNat 32 y.toBitVec.toNat
    simp
  rw [this, nI_and]
  congr 2
  show _ = (BitVec.ofNat 32 y.toBitVec.toNat).toNat
  simp
theorem fallN_rng (fr : Nat → Int32) (u s : Int32) {n : Nat} (hn : n ≤ 10) : ∃ j, j < 1024 ∧ fallN fr u s n = nI j := by
  obtain ⟨k, hk, e⟩ := holdN_rng fr u n hn
  exact and_rng (Nat.lt_of_lt_of_le hk (pow_le hn)) (Nat.le_refl _) e
def dInX (w : Int32) (g : Nat → Int32) : Nat → Int32
  | 0 => 0
  | a + 1 => if hasB w (nI a) then (if dInX w g a < g a + 1 then g a + 1 else dInX w g a) else dInX w g a
def dRowX (fr : Nat → Int32) (g0 : Nat → Int32) : Nat → Nat → Int32
  | 0 => g0
  | k + 1 => upd (dRowX fr g0 k) k (dInX (fr k) (dRowX fr g0 k) k)
def dLast (fr : Nat → Int32) (g0 : Nat → Int32) : Nat → Int32
  | 0 => 0
  | k + 1 => dInX (fr k) (dRowX fr g0 k) k
theorem nI_m1 (j : Nat) : nI j + (-1) = nI j - 1 := (Int32.sub_eq_add_neg _ _).symm
def strN (ow fr : Nat → Int32) (v : Int32) : Nat → Int32
  | 0 => 0
  | c + 1 => strN ow fr v c ||| (if ow c = v then fr c else 0)
def lnX (ow : Nat → Int32) (st v : Int32) : Nat → Int32
  | 0 => 0
  | c + 1 => lnX ow st v c ||| (if hasB st (nI c) ∧ ¬ ow c = v then (1 : Int32) <<< (ow c &&& 31) else 0)
/-- one set told -/
def tlN (W : Nat → Int32) (u : Int32) (c : Nat) : Nat → Int32 := fun j => if j < c then W j + ((u >>> (nI j &&& 31)) &&& 1) else W j
theorem tlN_0 (W : Nat → Int32) (u : Int32) : tlN W u 0 = W := by funext j; simp [tlN]
theorem tlN_s (W : Nat → Int32) (u : Int32) (c : Nat) : upd (tlN W u c) c (W c + ((u >>> (nI c &&& 31)) &&& 1)) = tlN W u (c + 1) := by
  funext j
  by_cases h : j = c
  · subst h; simp [upd, tlN]
  · simp only [upd, if_neg h, tlN]
    by_cases h2 : j < c
    · rw [if_pos h2, if_pos (by omega)]
    · rw [if_neg h2, if_neg (by omega)]
theorem tlN_at (W : Nat → Int32) (u : Int32) {c j : Nat} (h : c ≤ j) : tlN W u c j = W j := by simp [tlN]; omega
