-- numbers between bounds, as the reference tests them (through longs)
theorem in_32 (x a b : Int32) : bi (a.toInt64 ≤ x.toInt64 ∧ x.toInt64 ≤ b.toInt64) = bi (a ≤ x ∧ x ≤ b) := by
  refine bi_congr ?_
  simp [Int32.le_iff_toInt_le, Int64.le_iff_toInt_le]
theorem in_0_255 (x : Int32) : bi ((0 : Int64) ≤ x.toInt64 ∧ x.toInt64 ≤ 255) = bi (0 ≤ x ∧ x ≤ 255) := in_32 x 0 255
theorem in_0_1 (x : Int32) : bi ((0 : Int64) ≤ x.toInt64 ∧ x.toInt64 ≤ 1) = bi (0 ≤ x ∧ x ≤ 1) := in_32 x 0 1
theorem in_0_2 (x : Int32) : bi ((0 : Int64) ≤ x.toInt64 ∧ x.toInt64 ≤ 2) = bi (0 ≤ x ∧ x ≤ 2) := in_32 x 0 2
theorem in_1_60 (x : Int32) : bi ((1 : Int64) ≤ x.toInt64 ∧ x.toInt64 ≤ 60) = bi (1 ≤ x ∧ x ≤ 60) := in_32 x 1 60
theorem in_0_60 (x : Int32) : bi ((0 : Int64) ≤ x.toInt64 ∧ x.toInt64 ≤ 60) = bi (0 ≤ x ∧ x ≤ 60) := in_32 x 0 60
theorem in_0_99 (x : Int32) : bi ((0 : Int64) ≤ x.toInt64 ∧ x.toInt64 ≤ 99) = bi (0 ≤ x ∧ x ≤ 99) := in_32 x 0 99
theorem in_0_100 (x : Int32) : bi ((0 : Int64) ≤ x.toInt64 ∧ x.toInt64 ≤ 100) = bi (0 ≤ x ∧ x ≤ 100) := in_32 x 0 100
theorem in_0_200 (x : Int32) : bi ((0 : Int64) ≤ x.toInt64 ∧ x.toInt64 ≤ 200) = bi (0 ≤ x ∧ x ≤ 200) := in_32 x 0 200
theorem in_48_57 (x : Int32) : bi ((48 : Int64) ≤ x.toInt64 ∧ x.toInt64 ≤ 57) = bi (48 ≤ x ∧ x ≤ 57) := in_32 x 48 57
theorem pred_le {v : Int32} {k : Nat} (hk : k < 2 ^ 30) : v ≤ nI k - 1 ↔ ¬ nI k ≤ v := by
  have h1 : (nI k - 1).toInt = (k : Int) - 1 := pk_sub_toInt (a := k) (b := 1) hk (by decide)
  have h2 : (nI k).toInt = (k : Int) := nI_toInt (by omega)
  rw [Int32.le_iff_toInt_le, Int32.le_iff_toInt_le, h1, h2]
  omega
theorem in_cnt (v : Int32) {k : Nat} (hk : k < 2 ^ 30) : bi ((0 : Int64) ≤ v.toInt64 ∧ v.toInt64 ≤ (nI k - 1).toInt64) = bi (0 ≤ v ∧ ¬ nI k ≤ v) :=
  (in_32 v 0 (nI k - 1)).trans (bi_congr (and_congr Iff.rfl (pred_le hk)))
theorem shl1 {n : Nat} (hn : n ≤ 10) : (1 : Int32) <<< (nI n &&& 31) = nI (2 ^ n) := by
  rcases (show n = 0 ∨ n = 1 ∨ n = 2 ∨ n = 3 ∨ n = 4 ∨ n = 5 ∨ n = 6 ∨ n = 7 ∨ n = 8 ∨ n = 9 ∨ n = 10 by omega) with rfl | rfl | rfl | rfl | rfl | rfl | rfl | rfl | rfl | rfl | rfl <;> decide
theorem in_set (v : Int32) {n : Nat} (hn : n ≤ 10) : bi ((0 : Int64) ≤ v.toInt64 ∧ v.toInt64 ≤ (((1 : Int32) <<< (nI n &&& 31)) - 1).toInt64) = bi (0 ≤ v ∧ ¬ nI (2 ^ n) ≤ v) := by
  rw [shl1 hn]
  exact in_cnt v (Nat.lt_of_le_of_lt (Nat.pow_le_pow_right (by decide) hn) (by decide))
/-- how many of ten bits -/
def bitsN (u : Int32) : Nat → Int32
  | 0 => 0
  | i + 1 => bitsN u i + ((u >>> (nI i &&& 31)) &&& 1)
/-- the heaviest so far, and with how many it falls -/
def heavN (fr : Nat → Int32) (u : Int32) (n : Nat) : Nat → Int32 × Int32
  | 0 => (-1, 0)
  | i + 1 => if bitsN (fallN fr u (nI i) n) 10 ≤ (heavN fr u n i).2 then heavN fr u n i else (nI i, bitsN (fallN fr u (nI i) n) 10)
section HV
variable {fr : Nat → Int32} {u : Int32} {n i : Nat}
theorem heavN_f1 (c : bitsN (fallN fr u (nI i) n) 10 ≤ (heavN fr u n i).2) : (heavN fr u n (i + 1)).1 = (heavN fr u n i).1 := by rw [heavN, if_pos c]
theorem heavN_f2 (c : bitsN (fallN fr u (nI i) n) 10 ≤ (heavN fr u n i).2) : (heavN fr u n (i + 1)).2 = (heavN fr u n i).2 := by rw [heavN, if_pos c]
theorem heavN_t1 (c : ¬ bitsN (fallN fr u (nI i) n) 10 ≤ (heavN fr u n i).2) : (heavN fr u n (i + 1)).1 = nI i := by rw [heavN, if_neg c]
theorem heavN_t2 (c : ¬ bitsN (fallN fr u (nI i) n) 10 ≤ (heavN fr u n i).2) : (heavN fr u n (i + 1)).2 = bitsN (fallN fr u (nI i) n) 10 := by rw [heavN, if_neg c]
end HV
/-- whose sayings -/
def saidN (ow : Nat → Int32) (v : Int32) : Nat → Int32
  | 0 => 0
  | i + 1 => saidN ow v i ||| (if ow i = v then (1 : Int32) <<< (nI i &&& 31) else 0)
theorem saidN_t {ow : Nat → Int32} {v : Int32} {i : Nat} (c : ow i = v) : saidN ow v (i + 1) = saidN ow v i ||| ((1 : Int32) <<< (nI i &&& 31)) := by rw [saidN, if_pos c]
theorem saidN_f {ow : Nat → Int32} {v : Int32} {i : Nat} (c : ¬ ow i = v) : saidN ow v (i + 1) = saidN ow v i ||| 0 := by rw [saidN, if_neg c]
def allN (ar : Nat → Int32) : Nat → Int32
  | 0 => 0
  | i + 1 => allN ar i + ar i
/-- depths, as the reference fills them -/
def dInM (w : Int32) (g : Nat → Int32) : Nat → Int32
  | 0 => 0
  | a + 1 => if hasB w (nI a) ∧ dInM w g a ≤ g a then g a + 1 else dInM w g a
def dRowM (fr : Nat → Int32) (g0 : Nat → Int32) : Nat → Nat → Int32
  | 0 => g0
  | k + 1 => upd (dRowM fr g0 k) k (dInM (fr k) (dRowM fr g0 k) k)
theorem dInM_t {w : Int32} {g : Nat → Int32} {a : Nat} (h1 : hasB w (nI a)) (h2 : ¬ g a < dInM w g a) : dInM w g (a + 1) = g a + 1 := by rw [dInM, if_pos ⟨h1, Int32.not_lt.mp h2⟩]
theorem dInM_f {w : Int32} {g : Nat → Int32} {a : Nat} (h1 : ¬ hasB w (nI a)) : dInM w g (a + 1) = dInM w g a := by rw [dInM, if_neg (fun q => h1 q.1)]
theorem dInM_g {w : Int32} {g : Nat → Int32} {a : Nat} (h2 : g a < dInM w g a) : dInM w g (a + 1) = dInM w g a := by rw [dInM, if_neg (fun q => absurd h2 (Int32.not_lt.mpr q.2))]
theorem vu_up (σ : Nat → Nat → Int32) (r k : Nat) (f : Nat → Int32) (v : Int32) : up2 (va_up σ r f) r k v = va_up σ r (upd f k v) := by
  simp [up2, va_up, bx_uu]
theorem upd_upd (f : Nat → Int32) (k : Nat) (x y : Int32) : upd (upd f k x) k y = upd f k y := by
  funext j; by_cases h : j = k <;> simp [upd, h]
/-- roots, from k - 1 down to 0 -/
def rtD (fr : Nat → Int32) : Nat → Int32 → Int32 → Int32
  | 0, _, r => r
  | k + 1, a, r => if hasB a (nI k) then rtD fr k (a ||| fr k) (r ||| (if fr k = 0 then (1 : Int32) <<< (nI k &&& 31) else 0)) else rtD fr k a r
theorem dn_t {j : Nat} (hj : j < 2 ^ 31) (c : nI j + (-1) < 0) : j = 0 := by
  rcases Nat.eq_zero_or_pos j with h | h
  · exact h
  · obtain ⟨q, rfl⟩ : ∃ q, j = q + 1 := ⟨j - 1, by omega⟩
    rw [pk_m1] at c
    exact absurd c (nI_pos (by omega))
theorem dn_f {j : Nat} (c : ¬ nI j + (-1) < 0) : ∃ q, j = q + 1 := by
  rcases Nat.eq_zero_or_pos j with h | h
  · subst h; exact absurd (by decide) c
  · exact ⟨j - 1, by omega⟩
def leanI (ow fr : Nat → Int32) (v : Int32) (s : Nat) (acc : Int32) : Nat → Int32
  | 0 => acc
  | a + 1 => leanI ow fr v s acc a ||| (if ow s = v ∧ hasB (fr s) (nI a) ∧ ¬ ow a = v then (1 : Int32) <<< (ow a &&& 31) else 0)
def leanN (ow fr : Nat → Int32) (v : Int32) : Nat → Int32
  | 0 => 0
  | s + 1 => leanI ow fr v s (leanN ow fr v s) s
def leftN (lev : Int32) (ar : Nat → Int32) (al : Int32) : Nat → Int32
  | 0 => lev
  | i + 1 => leftN lev ar al i - lev * ar i / al
/-- a row with n places from a on put from another -/
def putN (f g : Nat → Int32) (a n : Nat) : Nat → Int32 := fun j => if a ≤ j ∧ j < a + n then g (j - a) else f j
theorem putN_0 (f g : Nat → Int32) (a : Nat) : putN f g a 0 = f := by funext j; simp [putN]; omega
theorem putN_s (f g : Nat → Int32) (a n : Nat) : upd (putN f g a n) (a + n) (g n) = putN f g a (n + 1) := by
  funext j
  by_cases h : j = a + n
  · subst h; simp [upd, putN]
  · simp only [upd, if_neg h, putN]
    by_cases h2 : a ≤ j ∧ j < a + n
    · rw [if_pos h2, if_pos (by omega)]
    · rw [if_neg h2, if_neg (by omega)]
/-- the past moved by one, the first k places of it -/
def shN (f : Nat → Int32) (k : Nat) : Nat → Int32 := fun j => if j < k then f (j + 23) else f j
theorem shN_0 (f : Nat → Int32) : shN f 0 = f := by funext j; simp [shN]
theorem shN_s (f : Nat → Int32) (k : Nat) : upd (shN f k) k (f (k + 23)) = shN f (k + 1) := by
  funext j
  by_cases h : j = k
  · subst h; simp [upd, shN]
  · simp only [upd, if_neg h, shN]
    by_cases h2 : j < k
    · rw [if_pos h2, if_pos (by omega)]
    · rw [if_neg h2, if_neg (by omega)]
theorem shN_at (f : Nat → Int32) {k j : Nat} (h : k ≤ j) : shN f k j = f j := by simp [shN]; omega
/-- a step of the whole store, n times -/
def itS (f : (Nat → Nat → Int32) → Nat → Nat → Int32) : Nat → (Nat → Nat → Int32) → Nat → Nat → Int32
  | 0, s => s
  | i + 1, s => f (itS f i s)
-- what the reference keeps of its past
def remA (P : Nat → Int32) (u : Nat) : Nat → Int32 := if u = 16 then shN P 345 else P
def remV (u : Nat) : Nat := if u = 16 then 15 else u
theorem remV_le {u : Nat} (h : u ≤ 16) : remV u ≤ 15 := by unfold remV; split <;> omega
def remT (σ : Nat → Nat → Int32) (u : Nat) : Nat → Nat → Int32 := up2 (va_up σ 14 (putN (remA (σ 14) u) (σ 6) (23 * remV u) 23)) 0 31 (nI (remV u + 1))
theorem remT_r (σ : Nat → Nat → Int32) (u : Nat) {r : Nat} (h0 : r ≠ 0) (h14 : r ≠ 14) : remT σ u r = σ r := by unfold remT; simp [up2, va_up, h0, h14]
theorem remT_0 (σ : Nat → Nat → Int32) (u : Nat) {k : Nat} (h : k ≠ 31) : remT σ u 0 k = σ 0 k := by unfold remT; simp [up2, va_up, upd, h]
theorem st_sw (σ : Nat → Nat → Int32) {r q : Nat} (h : r ≠ q) (k : Nat) (x : Int32) (f : Nat → Int32) : va_up (up2 σ q k x) r f = up2 (va_up σ r f) q k x := by
  funext a
  by_cases h1 : a = r
  · subst h1; simp [up2, va_up, h]
  · by_cases h2 : a = q
    · subst h2; simp [up2, va_up, h1]
    · simp [up2, va_up, h1, h2]
theorem up2_self (σ : Nat → Nat → Int32) (r k : Nat) {v : Int32} (h : σ r k = v) : up2 σ r k v = σ := by
  funext a; by_cases h1 : a = r
  · subst h1; simp only [up2, va_up, if_pos]; funext j; by_cases h2 : j = k
    · subst h2; simp [upd, h]
    · simp [upd, h2]
  · simp [up2, va_up, h1]
theorem up2_uu (σ : Nat → Nat → Int32) (r k : Nat) (v w : Int32) : up2 (up2 σ r k v) r k w = up2 σ r k w := by
  funext a; by_cases h1 : a = r
  · subst h1; simp only [up2, va_up, if_pos]; funext j; by_cases h2 : j = k <;> simp [upd, h2]
  · simp [up2, va_up, h1]
theorem nI_subk (k c : Nat) : nI (k + c) - nI c = nI k := (pk_sub (by omega)).trans (by rw [Nat.add_sub_cancel])
theorem nI_lin (a b c : Nat) : nI a * nI b + nI c = nI (a * b + c) := by rw [pk_mul, nI_add]
theorem nI_rng2 {x : Int32} {n : Nat} (c : 0 ≤ x ∧ ¬ nI n ≤ x) (hn : n < 2 ^ 31) : ∃ j : Nat, j < n ∧ x = nI j := nI_rng hn (Int32.not_lt.mpr c.1) c.2
theorem nI_rng3 {x : Int32} {n : Nat} (hn : n < 2 ^ 30) (c : 0 ≤ x ∧ x ≤ nI n) : ∃ j : Nat, j < n + 1 ∧ x = nI j := by
  obtain ⟨j, hj, rfl⟩ := nI_of (Int32.not_lt.mpr c.1)
  exact ⟨j, by have := (nI_leI hj (by omega)).mp c.2; omega, rfl⟩
theorem lt_of_ne {t N : Nat} (h : t ≤ N) (hN : N < 2 ^ 31) (c : ¬ nI t = nI N) : t < N := by
  rcases Nat.lt_or_ge t N with q | q
  · exact q
  · exact absurd (by rw [show t = N by omega]) c
theorem eq_of_nI {t N : Nat} (h : t < 2 ^ 31) (hN : N < 2 ^ 31) (c : nI t = nI N) : t = N := (nI_eq h hN).mp c
-- draws
/-- by choice, so that the kernel does not reckon with it -/
noncomputable def lcg (sd : Nat) : Nat := Classical.choose (⟨(sd * 1103515245 + 12345) % 2147483648, rfl⟩ : ∃ x : Nat, x = (sd * 1103515245 + 12345) % 2147483648)
theorem lcg_eq (sd : Nat) : lcg sd = (sd * 1103515245 + 12345) % 2147483648 := Classical.choose_spec (⟨(sd * 1103515245 + 12345) % 2147483648, rfl⟩ : ∃ x : Nat, x = (sd * 1103515245 + 12345) % 2147483648)
theorem lcg_lt (sd : Nat) : lcg sd < 2 ^ 31 := by rw [lcg_eq]; exact Nat.mod_lt _ (by decide)
theorem lcg_M {sd : Nat} (h : sd < 2 ^ 31) : ((nI sd).toInt64 * 1103515245 + 12345 - ((nI sd).toInt64 * 1103515245 + 12345) / 2147483648 * 2147483648).toInt32 = nI (lcg sd) := by
  have e : (nI sd).toInt64 * 1103515245 + 12345 = lN (sd * 1103515245 + 12345) := by
    rw [nI_l h, show (1103515245 : Int64) = lN 1103515245 from rfl, show (12345 : Int64) = lN 12345 from rfl, lN_mul, lN_add]
  rw [e, show (2147483648 : Int64) = lN 2147483648 from rfl, pk_lRem (by omega) (by decide) (by decide), lN_i, lcg_eq]
theorem dr_M {sd m : Nat} (hm : 0 < m) (h2 : m < 2 ^ 31) : nI (lcg sd) / 65536 - nI (lcg sd) / 65536 / nI m * nI m = nI (lcg sd / 65536 % m) := by
  have e : nI (lcg sd) / 65536 = nI (lcg sd / 65536) := pk_div (d := 65536) (lcg_lt sd) (by decide) (by decide)
  have := lcg_lt sd
  rw [e, pk_rem (Nat.lt_of_le_of_lt (Nat.div_le_self _ _) this) hm h2]
/-- the queue's first k places moved by one (rows from 17 on) -/
def qsN (N : Nat → Int32) (k : Nat) : Nat → Int32 := fun j => if 17 ≤ j ∧ j < 17 + k then N (j + 1) else N j
theorem qsN_0 (N : Nat → Int32) : qsN N 0 = N := by funext j; simp [qsN]; omega
theorem qsN_s (N : Nat → Int32) (k : Nat) : upd (qsN N k) (17 + k) (N (17 + k + 1)) = qsN N (k + 1) := by
  funext j
  by_cases h : j = 17 + k
  · subst h; simp [upd, qsN]
  · simp only [upd, if_neg h, qsN]
    by_cases h2 : 17 ≤ j ∧ j < 17 + k
    · rw [if_pos h2, if_pos (by omega)]
    · rw [if_neg h2, if_neg (by omega)]
theorem qsN_at (N : Nat → Int32) {k j : Nat} (h : j < 17 ∨ 17 + k ≤ j) : qsN N k j = N j := by unfold qsN; rw [if_neg (by omega)]
-- a row's step, n times
def itN (f : (Nat → Int32) → Nat → Int32) : Nat → (Nat → Int32) → Nat → Int32
  | 0, s => s
  | i + 1, s => f (itN f i s)
-- odds
def oddN (q : Int64) : Nat → Int64
  | 0 => 1000000000
  | i + 1 => oddN q i * q / 100
-- sets
abbrev cb (wt fr : Nat → Int32) (n : Nat) (h c u : Int32) : Prop := sumN wt u n = c ∧ holdN fr u n = h
def manN (wt fr : Nat → Int32) (n : Nat) (h c w : Int32) : Nat → Int32
  | 0 => 0
  | i + 1 => manN wt fr n h c w i + (if nI i &&& w = w ∧ cb wt fr n h c (nI i) then 1 else 0)
def eachN (wt fr : Nat → Int32) (n : Nat) (h c : Int32) : Nat → Int32
  | 0 => -1
  | i + 1 => if cb wt fr n h c (nI i) then (if 0 ≤ eachN wt fr n h c i then eachN wt fr n h c i &&& nI i else nI i) else eachN wt fr n h c i
def frogP (al wi : Int32) : Int32 := if wi ≤ al - wi then al - wi else wi
/-- the best to ask so far, and how many it leaves at worst; f s: how many have s -/
def frogN (al : Int32) (f : Nat → Int32) : Nat → Int32 × Int32
  | 0 => (-1, al)
  | i + 1 => if (frogN al f i).2 ≤ frogP al (f i) then frogN al f i else (nI i, frogP al (f i))
theorem frogN_f1 {al : Int32} {f : Nat → Int32} {i : Nat} (c : (frogN al f i).2 ≤ frogP al (f i)) : (frogN al f (i + 1)).1 = (frogN al f i).1 := by rw [frogN, if_pos c]
theorem frogN_f2 {al : Int32} {f : Nat → Int32} {i : Nat} (c : (frogN al f i).2 ≤ frogP al (f i)) : (frogN al f (i + 1)).2 = (frogN al f i).2 := by rw [frogN, if_pos c]
theorem frogN_t1 {al : Int32} {f : Nat → Int32} {i : Nat} (c : ¬ (frogN al f i).2 ≤ frogP al (f i)) : (frogN al f (i + 1)).1 = nI i := by rw [frogN, if_neg c]
theorem frogN_t2 {al : Int32} {f : Nat → Int32} {i : Nat} (c : ¬ (frogN al f i).2 ≤ frogP al (f i)) : (frogN al f (i + 1)).2 = frogP al (f i) := by rw [frogN, if_neg c]
theorem pow_le {n : Nat} (hn : n ≤ 10) : 2 ^ n ≤ 1024 := Nat.pow_le_pow_right (by decide) hn
theorem ite_p {c : Prop} [Decidable c] (h : c) : (1 : Int32) = (if c then 1 else 0) := (if_pos h).symm
theorem ite_n {c : Prop} [Decidable c] (h : ¬ c) : (0 : Int32) = (if c then 1 else 0) := (if_neg h).symm
theorem va_selfR (σ : Nat → Nat → Int32) (r : Nat) {f : Nat → Int32} (h : σ r = f) : va_up σ r f = σ := by rw [← h, va_self]
theorem nI_60 {v : Int32} (c : 1 ≤ v ∧ v ≤ 60) : ∃ j : Nat, j < 61 ∧ v = nI j := nI_rng3 (n := 60) (by decide) ⟨Int32.le_trans (by decide) c.1, c.2⟩
theorem nr_v {c1 c2 c3 : Prop} [Decidable c1] [Decidable c2] [Decidable c3] (h : (if c1 then (if c2 then (-1000000003 : Int32) else (if c3 then 0 else (-1000000004))) else (-1000000002)) = 0) : c1 := by
  by_cases h1 : c1
  · exact h1
  · rw [if_neg h1] at h; exact absurd h (by decide)
theorem nI_17 (i : Nat) : (17 : Int32) + nI i + 1 = nI (17 + i + 1) := by rw [show (17 : Int32) = nI 17 from rfl, nI_add, nI_1]
theorem dv10 {p s : Nat} (h : p < 10 ∧ s < 10) : nI (10 * p + s) / 10 = nI p := (pk_div (d := 10) (by omega) (by decide) (by decide)).trans (by congr 1; omega)
theorem rm10 {p s : Nat} (h : p < 10 ∧ s < 10) : nI (10 * p + s) - nI (10 * p + s) / 10 * 10 = nI s := (pk_rem (d := 10) (by omega) (by decide) (by decide)).trans (by congr 1; omega)
