def tysW (cy : Nat → ClassId) : List (ClassId × FieldType) := [(cy 0, .int), (cy 1, .boolean), (cy 2, .object "UnsaidWell$Well")]
-- the class's object: 0 itself; 1, 2 the reader; 3..9 and 10..16 the two yards; 17, 18 the past; 19..21 the book; 22 the draws; 23..26 the images; 27, 28 the riddle; well i at 29 + 4 i
def cYo (ad : Nat → Nat) (b : Nat) (f : Nat → Int32) : va_E := .inr (7, [.int (f 0), .int (f 1), .int (f 2), .int (f 3), .ref (ad (b + 1)), .int (f 5), .ref (ad (b + 2)), .ref (ad (b + 3)), .ref (ad (b + 4)), .ref (ad (b + 5)), .int (f 10), .ref (ad (b + 6))])
def cWo (ad : Nat → Nat) (b : Nat) (f : Nat → Int32) : va_E := .inr (6, [.int (f 0), .int (f 1), .int (f 2), .int (f 3), .int (f 4), .int (f 5), .ref (ad (b + 1)), .int (f 7), .ref (ad (b + 2)), .ref (ad (b + 3))])
def cIa (cy : Nat → ClassId) (len : Nat) (f : Nat → Int32) : va_E := .inl (cy 0, len, .inl f)
def cZa (cy : Nat → ClassId) (len : Nat) (f : Nat → Int32) : va_E := .inl (cy 1, len, .inl f)
def cOa (cy : Nat → ClassId) (len : Nat) (g : Nat → Option Nat) : va_E := .inl (cy 2, len, .inr (.inr (.inr (.inr g))))
def cfX (ad : Nat → Nat) (cy : Nat → ClassId) (y z : Nat) (f : Nat → Int32) (r : Nat) : va_E :=
  if r = 0 then .inr (8, [.ref (ad 1), .ref (ad y), .ref (ad z), .ref (ad (29 + 4 * 0)), .ref (ad (29 + 4 * 1)), .ref (ad 17), .ref (ad 19), .ref (ad 22), .ref (ad 23), .ref (ad 27)])
  else if r = 1 then .inr (4, [.ref (ad 2), .int (f 1), .int (f 2), .int (f 3), .int (f 4), .int (f 5)])
  else if r = 2 then cIa cy 240 f
  else if r = 3 then cYo ad 3 f
  else if r = 4 then cIa cy 5 f
  else if r ≤ 9 then cIa cy 10 f
  else if r = 10 then cYo ad 10 f
  else if r = 11 then cIa cy 5 f
  else if r ≤ 16 then cIa cy 10 f
  else if r = 17 then .inr (3, [.ref (ad 18), .int (f 1), .int (f 2)])
  else if r = 18 then cOa cy 16 (fun i => some (ad (29 + 4 * (2 + i))))
  else if r = 19 then .inr (0, [.int (f 0), .ref (ad 20), .ref (ad 21)])
  else if r = 20 then cIa cy 15 f
  else if r = 21 then cZa cy 15 f
  else if r = 22 then .inr (1, [.int (f 0)])
  else if r = 23 then .inr (2, [.ref (ad 24), .ref (ad 25), .ref (ad 26)])
  else if r = 24 then cOa cy 2 (fun i => some (ad (29 + 4 * (18 + i))))
  else if r = 25 then cIa cy 2 f
  else if r = 26 then cZa cy 2 f
  else if r = 27 then .inr (5, [.int (f 0), .int (f 1), .ref (ad 28)])
  else if r = 28 then cIa cy 10 f
  else if (r - 29) % 4 = 0 then cWo ad r f
  else if (r - 29) % 4 = 1 then cIa cy 10 f
  else cIa cy 6 f
section KX
variable {ad : Nat → Nat} {cy : Nat → ClassId} {y z : Nat}
theorem kX8 (f : Nat → Int32) : cfX ad cy y z f 0 = .inr (8, [.ref (ad 1), .ref (ad y), .ref (ad z), .ref (ad (29 + 4 * 0)), .ref (ad (29 + 4 * 1)), .ref (ad 17), .ref (ad 19), .ref (ad 22), .ref (ad 23), .ref (ad 27)]) := rfl
theorem kX4 (f : Nat → Int32) : cfX ad cy y z f 1 = .inr (4, [.ref (ad 2), .int (f 1), .int (f 2), .int (f 3), .int (f 4), .int (f 5)]) := rfl
theorem kX4_0 (f : Nat → Int32) : cfX ad cy y z f 2 = .inl (cy 0, 240, .inl f) := rfl
theorem kX7 {b : Nat} (h : b = 3 ∨ b = 10) (f : Nat → Int32) : cfX ad cy y z f b = .inr (7, [.int (f 0), .int (f 1), .int (f 2), .int (f 3), .ref (ad (b + 1)), .int (f 5), .ref (ad (b + 2)), .ref (ad (b + 3)), .ref (ad (b + 4)), .ref (ad (b + 5)), .int (f 10), .ref (ad (b + 6))]) := by rcases h with rfl | rfl <;> rfl
theorem kX7_4 {b : Nat} (h : b = 3 ∨ b = 10) (f : Nat → Int32) : cfX ad cy y z f (b + 1) = .inl (cy 0, 5, .inl f) := by rcases h with rfl | rfl <;> rfl
theorem kX7_6 {b : Nat} (h : b = 3 ∨ b = 10) (f : Nat → Int32) : cfX ad cy y z f (b + 2) = .inl (cy 0, 10, .inl f) := by rcases h with rfl | rfl <;> rfl
theorem kX7_7 {b : Nat} (h : b = 3 ∨ b = 10) (f : Nat → Int32) : cfX ad cy y z f (b + 3) = .inl (cy 0, 10, .inl f) := by rcases h with rfl | rfl <;> rfl
theorem kX7_8 {b : Nat} (h : b = 3 ∨ b = 10) (f : Nat → Int32) : cfX ad cy y z f (b + 4) = .inl (cy 0, 10, .inl f) := by rcases h with rfl | rfl <;> rfl
theorem kX7_9 {b : Nat} (h : b = 3 ∨ b = 10) (f : Nat → Int32) : cfX ad cy y z f (b + 5) = .inl (cy 0, 10, .inl f) := by rcases h with rfl | rfl <;> rfl
theorem kX7_11 {b : Nat} (h : b = 3 ∨ b = 10) (f : Nat → Int32) : cfX ad cy y z f (b + 6) = .inl (cy 0, 10, .inl f) := by rcases h with rfl | rfl <;> rfl
theorem hX7 {b : Nat} (h : b = 3 ∨ b = 10) : b < 109 ∧ b + 1 < 109 ∧ b + 2 < 109 ∧ b + 3 < 109 ∧ b + 4 < 109 ∧ b + 5 < 109 ∧ b + 6 < 109 := by omega
theorem kX3 (f : Nat → Int32) : cfX ad cy y z f 17 = .inr (3, [.ref (ad 18), .int (f 1), .int (f 2)]) := rfl
theorem kX3_0 (f : Nat → Int32) : cfX ad cy y z f 18 = .inl (cy 2, 16, .inr (.inr (.inr (.inr (fun i => some (ad (29 + 4 * (2 + i)))))))) := rfl
theorem kX0 (f : Nat → Int32) : cfX ad cy y z f 19 = .inr (0, [.int (f 0), .ref (ad 20), .ref (ad 21)]) := rfl
theorem kX0_1 (f : Nat → Int32) : cfX ad cy y z f 20 = .inl (cy 0, 15, .inl f) := rfl
theorem kX0_2 (f : Nat → Int32) : cfX ad cy y z f 21 = .inl (cy 1, 15, .inl f) := rfl
theorem kX1 (f : Nat → Int32) : cfX ad cy y z f 22 = .inr (1, [.int (f 0)]) := rfl
theorem kX2 (f : Nat → Int32) : cfX ad cy y z f 23 = .inr (2, [.ref (ad 24), .ref (ad 25), .ref (ad 26)]) := rfl
theorem kX2_0 (f : Nat → Int32) : cfX ad cy y z f 24 = .inl (cy 2, 2, .inr (.inr (.inr (.inr (fun i => some (ad (29 + 4 * (18 + i)))))))) := rfl
theorem kX2_1 (f : Nat → Int32) : cfX ad cy y z f 25 = .inl (cy 0, 2, .inl f) := rfl
theorem kX2_2 (f : Nat → Int32) : cfX ad cy y z f 26 = .inl (cy 1, 2, .inl f) := rfl
theorem kX5 (f : Nat → Int32) : cfX ad cy y z f 27 = .inr (5, [.int (f 0), .int (f 1), .ref (ad 28)]) := rfl
theorem kX5_2 (f : Nat → Int32) : cfX ad cy y z f 28 = .inl (cy 0, 10, .inl f) := rfl
theorem cfX_w (f : Nat → Int32) {r : Nat} (h : 29 ≤ r) : cfX ad cy y z f r = if (r - 29) % 4 = 0 then cWo ad r f else if (r - 29) % 4 = 1 then cIa cy 10 f else cIa cy 6 f := by
  unfold cfX
  iterate 21 (rw [if_neg (by omega)])
theorem kX6 {i : Nat} (f : Nat → Int32) : cfX ad cy y z f (29 + 4 * i) = .inr (6, [.int (f 0), .int (f 1), .int (f 2), .int (f 3), .int (f 4), .int (f 5), .ref (ad (29 + 4 * i + 1)), .int (f 7), .ref (ad (29 + 4 * i + 2)), .ref (ad (29 + 4 * i + 3))]) := by
  rw [cfX_w f (by omega), if_pos (by omega)]; rfl
theorem kX6_6 {i : Nat} (f : Nat → Int32) : cfX ad cy y z f (29 + 4 * i + 1) = .inl (cy 0, 10, .inl f) := by
  rw [cfX_w f (by omega), if_neg (by omega), if_pos (by omega)]; rfl
theorem kX6_8 {i : Nat} (f : Nat → Int32) : cfX ad cy y z f (29 + 4 * i + 2) = .inl (cy 0, 6, .inl f) := by
  rw [cfX_w f (by omega), if_neg (by omega), if_neg (by omega)]; rfl
theorem kX6_9 {i : Nat} (f : Nat → Int32) : cfX ad cy y z f (29 + 4 * i + 3) = .inl (cy 0, 6, .inl f) := by
  rw [cfX_w f (by omega), if_neg (by omega), if_neg (by omega)]; rfl
theorem hX6 {i : Nat} (h : i < 20) : 29 + 4 * i < 109 ∧ 29 + 4 * i + 1 < 109 ∧ 29 + 4 * i + 2 < 109 ∧ 29 + 4 * i + 3 < 109 := by omega
end KX
-- the reference's object: 0 itself; its rows 1..18 in the order of its fields
def cfM (ad : Nat → Nat) (cy : Nat → ClassId) (f : Nat → Int32) (r : Nat) : va_E :=
  if r = 0 then .inr (9, [.int (f 0), .int (f 1), .int (f 2), .int (f 3), .ref (ad 1), .int (f 5), .ref (ad 2), .ref (ad 3), .ref (ad 4), .int (f 9), .ref (ad 5), .ref (ad 6), .int (f 12), .ref (ad 7), .int (f 14), .int (f 15), .int (f 16), .int (f 17), .int (f 18), .int (f 19), .int (f 20), .int (f 21), .int (f 22), .ref (ad 8), .int (f 24), .ref (ad 9), .ref (ad 10), .ref (ad 11), .int (f 28), .ref (ad 12), .ref (ad 13), .int (f 31), .ref (ad 14), .int (f 33), .ref (ad 15), .ref (ad 16), .ref (ad 17), .ref (ad 18)])
  else if r = 1 then cIa cy 5 f
  else if r ≤ 5 then cIa cy 10 f
  else if r = 6 then cIa cy 23 f
  else if r = 7 then cIa cy 240 f
  else if r = 8 then cIa cy 5 f
  else if r ≤ 13 then cIa cy 10 f
  else if r = 14 then cIa cy 368 f
  else if r = 15 then cIa cy 15 f
  else if r = 16 then cZa cy 15 f
  else if r = 17 then cIa cy 48 f
  else cZa cy 2 f
section KM
variable {ad : Nat → Nat} {cy : Nat → ClassId}
theorem kX9 (f : Nat → Int32) : cfM ad cy f 0 = .inr (9, [.int (f 0), .int (f 1), .int (f 2), .int (f 3), .ref (ad 1), .int (f 5), .ref (ad 2), .ref (ad 3), .ref (ad 4), .int (f 9), .ref (ad 5), .ref (ad 6), .int (f 12), .ref (ad 7), .int (f 14), .int (f 15), .int (f 16), .int (f 17), .int (f 18), .int (f 19), .int (f 20), .int (f 21), .int (f 22), .ref (ad 8), .int (f 24), .ref (ad 9), .ref (ad 10), .ref (ad 11), .int (f 28), .ref (ad 12), .ref (ad 13), .int (f 31), .ref (ad 14), .int (f 33), .ref (ad 15), .ref (ad 16), .ref (ad 17), .ref (ad 18)]) := rfl
theorem kX9_4 (f : Nat → Int32) : cfM ad cy f 1 = .inl (cy 0, 5, .inl f) := rfl
theorem kX9_6 (f : Nat → Int32) : cfM ad cy f 2 = .inl (cy 0, 10, .inl f) := rfl
theorem kX9_7 (f : Nat → Int32) : cfM ad cy f 3 = .inl (cy 0, 10, .inl f) := rfl
theorem kX9_8 (f : Nat → Int32) : cfM ad cy f 4 = .inl (cy 0, 10, .inl f) := rfl
theorem kX9_10 (f : Nat → Int32) : cfM ad cy f 5 = .inl (cy 0, 10, .inl f) := rfl
theorem kX9_11 (f : Nat → Int32) : cfM ad cy f 6 = .inl (cy 0, 23, .inl f) := rfl
theorem kX9_13 (f : Nat → Int32) : cfM ad cy f 7 = .inl (cy 0, 240, .inl f) := rfl
theorem kX9_23 (f : Nat → Int32) : cfM ad cy f 8 = .inl (cy 0, 5, .inl f) := rfl
theorem kX9_25 (f : Nat → Int32) : cfM ad cy f 9 = .inl (cy 0, 10, .inl f) := rfl
theorem kX9_26 (f : Nat → Int32) : cfM ad cy f 10 = .inl (cy 0, 10, .inl f) := rfl
theorem kX9_27 (f : Nat → Int32) : cfM ad cy f 11 = .inl (cy 0, 10, .inl f) := rfl
theorem kX9_29 (f : Nat → Int32) : cfM ad cy f 12 = .inl (cy 0, 10, .inl f) := rfl
theorem kX9_30 (f : Nat → Int32) : cfM ad cy f 13 = .inl (cy 0, 10, .inl f) := rfl
theorem kX9_32 (f : Nat → Int32) : cfM ad cy f 14 = .inl (cy 0, 368, .inl f) := rfl
theorem kX9_34 (f : Nat → Int32) : cfM ad cy f 15 = .inl (cy 0, 15, .inl f) := rfl
theorem kX9_35 (f : Nat → Int32) : cfM ad cy f 16 = .inl (cy 1, 15, .inl f) := rfl
theorem kX9_36 (f : Nat → Int32) : cfM ad cy f 17 = .inl (cy 0, 48, .inl f) := rfl
theorem kX9_37 (f : Nat → Int32) : cfM ad cy f 18 = .inl (cy 1, 2, .inl f) := rfl
end KM
-- truth as an int
def bi (c : Prop) [Decidable c] : Int32 := if c then 1 else 0
theorem bi_t {c : Prop} [Decidable c] (h : c) : bi c = 1 := if_pos h
theorem bi_f {c : Prop} [Decidable c] (h : ¬ c) : bi c = 0 := if_neg h
theorem bi_eq0 {c : Prop} [Decidable c] : bi c = 0 ↔ ¬ c := by unfold bi; split <;> simp [*]
theorem bi_ne0 {c : Prop} [Decidable c] : ¬ bi c = 0 ↔ c := by unfold bi; split <;> simp [*]
theorem bi_narrow {c : Prop} [Decidable c] : narrow .boolean (.int (bi c)) = .int (bi c) := by unfold bi; split <;> rfl
theorem bi_congr {c d : Prop} [Decidable c] [Decidable d] (h : c ↔ d) : bi c = bi d := by unfold bi; simp [h]
-- two updates of the store
theorem up2_s (σ : Nat → Nat → Int32) (r k : Nat) (v : Int32) : up2 σ r k v r k = v := by simp [up2, va_up, upd]
theorem up2_k (σ : Nat → Nat → Int32) (r : Nat) {k j : Nat} (v : Int32) (h : j ≠ k) : up2 σ r k v r j = σ r j := by simp [up2, va_up, upd, h]
theorem up2_r (σ : Nat → Nat → Int32) {r q : Nat} (k : Nat) (v : Int32) (h : q ≠ r) : up2 σ r k v q = σ q := by simp [up2, va_up, h]
theorem up2_row (σ : Nat → Nat → Int32) (r k : Nat) (v : Int32) : up2 σ r k v r = upd (σ r) k v := by simp [up2, va_up]
theorem up2_up (σ : Nat → Nat → Int32) (r k j : Nat) (v w : Int32) : up2 (up2 σ r k v) r j w = va_up σ r (upd (upd (σ r) k v) j w) := by simp [up2, va_up, bx_uu]
theorem up2_S {σ : Nat → Nat → Int32} {r k : Nat} {v : Int32} : up2 σ r k v r k = v := by simp [up2, va_up, upd]
theorem up2_K {σ : Nat → Nat → Int32} {r k j : Nat} {v : Int32} (h : j ≠ k) : up2 σ r k v r j = σ r j := by simp [up2, va_up, upd, h]
theorem up2_R {σ : Nat → Nat → Int32} {r q k j : Nat} {v : Int32} (h : q ≠ r) : up2 σ r k v q j = σ q j := by simp [up2, va_up, h]
theorem va_S' {σ : Nat → Nat → Int32} {r j : Nat} {f : Nat → Int32} : va_up σ r f r j = f j := by simp [va_up]
theorem va_R {σ : Nat → Nat → Int32} {r q j : Nat} {f : Nat → Int32} (h : q ≠ r) : va_up σ r f q j = σ q j := by simp [va_up, h]
theorem rw_nm {c d : Prop} {a b : Int32} (h : a = b) : a = b := h
theorem bi_fits {c : Prop} [Decidable c] : fits .boolean (.int (bi c)) = true := by unfold bi; split <;> rfl
theorem zn_bi {c : Prop} [Decidable c] : vp_nar .boolean (bi c) = bi c := by unfold bi; split <;> rfl
-- a counted loop
theorem cl_ex {i n : Nat} (hi : i ≤ n) (hn : n < 2 ^ 31) (c : nI n ≤ nI i) : i = n := by
  have := (nI_leI hn (by omega)).mp c
  omega
theorem cl_in {i n : Nat} (hi : i < 2 ^ 31) (hn : n < 2 ^ 31) (c : ¬ nI n ≤ nI i) : i < n := by
  rcases Nat.lt_or_ge i n with h | h
  · exact h
  · exact absurd ((nI_leI hn hi).mpr h) c
-- an int that is tested against a number of rows
theorem nI_rng {x : Int32} {n : Nat} (hn : n < 2 ^ 31) (h0 : ¬ x < 0) (h1 : ¬ nI n ≤ x) : ∃ j : Nat, j < n ∧ x = nI j := by
  obtain ⟨j, hj, rfl⟩ := nI_of h0
  refine ⟨j, ?_, rfl⟩
  rcases Nat.lt_or_ge j n with h | h
  · exact h
  · exact absurd (nI_le h hj) h1
-- switches
theorem sw_ne {x j : Int32} (h : ¬ x = j) : x.toInt ≠ j.toInt := fun e => h (Int32.toInt_inj.mp e)
theorem sw_0 : (0 : Int32).toInt = 0 := by decide
theorem sw_1 : (1 : Int32).toInt = 1 := by decide
theorem sw_2 : (2 : Int32).toInt = 2 := by decide
theorem sw_3 : (3 : Int32).toInt = 3 := by decide
theorem sw_4 : (4 : Int32).toInt = 4 := by decide
theorem sw_5 : (5 : Int32).toInt = 5 := by decide
theorem sw_6 : (6 : Int32).toInt = 6 := by decide
theorem sw_7 : (7 : Int32).toInt = 7 := by decide
theorem sw_8 : (8 : Int32).toInt = 8 := by decide
theorem sw_9 : (9 : Int32).toInt = 9 := by decide
theorem sw_10 : (10 : Int32).toInt = 10 := by decide
theorem sw_11 : (11 : Int32).toInt = 11 := by decide
theorem sw_12 : (12 : Int32).toInt = 12 := by decide
theorem sw_13 : (13 : Int32).toInt = 13 := by decide
theorem sw_14 : (14 : Int32).toInt = 14 := by decide
theorem sw_15 : (15 : Int32).toInt = 15 := by decide
theorem sw_16 : (16 : Int32).toInt = 16 := by decide
-- a bit of an int
theorem bit01 (x : Int32) : x &&& 1 = 0 ∨ x &&& 1 = 1 := by
  rw [pk_and x 1 (by decide)]
  rcases Nat.mod_two_eq_zero_or_one x.toBitVec.toNat with h | h
  · left; rw [show 2 ^ 1 = 2 from rfl, h]; rfl
  · right; rw [show 2 ^ 1 = 2 from rfl, h]; rfl
abbrev hasB (x k : Int32) : Prop := (x >>> (k &&& 31)) &&& 1 = 1
theorem hasB_0 {x k : Int32} (h : (x >>> (k &&& 31)) &&& 1 = 0) : ¬ hasB x k := by
  unfold hasB; rw [h]; decide
theorem hasB_1 {x k : Int32} (h : ¬ (x >>> (k &&& 31)) &&& 1 = 0) : hasB x k := (bit01 _).resolve_left h
theorem or_0 (x : Int32) : x ||| 0 = x := by
  apply Int32.toBitVec_inj.mp; simp
theorem add_0 (x : Int32) : x + 0 = x := by simp
/-- what holds while u is unsaid -/
def holdN (fr : Nat → Int32) (u : Int32) : Nat → Int32
  | 0 => 0
  | i + 1 => if ¬ hasB u (nI i) ∧ fr i &&& (holdN fr u i ^^^ (-1)) = 0 then holdN fr u i ||| ((1 : Int32) <<< (nI i &&& 31)) else holdN fr u i
/-- a sum over a set -/
def sumN (f : Nat → Int32) (u : Int32) : Nat → Int32
  | 0 => 0
  | i + 1 => sumN f u i + (if hasB u (nI i) then f i else 0)
abbrev fallN (fr : Nat → Int32) (u s : Int32) (n : Nat) : Int32 := holdN fr u n &&& (holdN fr (u ||| ((1 : Int32) <<< (s &&& 31))) n ^^^ (-1))
theorem holdN_t {fr : Nat → Int32} {u : Int32} {i : Nat} (h : ¬ hasB u (nI i)) (h2 : fr i &&& (holdN fr u i ^^^ (-1)) = 0) : holdN fr u (i + 1) = holdN fr u i ||| ((1 : Int32) <<< (nI i &&& 31)) := if_pos ⟨h, h2⟩
theorem holdN_f {fr : Nat → Int32} {u : Int32} {i : Nat} (h : hasB u (nI i)) : holdN fr u (i + 1) = holdN fr u i := if_neg (fun q => q.1 h)
theorem holdN_g {fr : Nat → Int32} {u : Int32} {i : Nat} (h : ¬ fr i &&& (holdN fr u i ^^^ (-1)) = 0) : holdN fr u (i + 1) = holdN fr u i := if_neg (fun q => h q.2)
theorem sumN_t {f : Nat → Int32} {u : Int32} {i : Nat} (h : hasB u (nI i)) : sumN f u (i + 1) = sumN f u i + f i := by rw [sumN, if_pos h]
theorem sumN_f {f : Nat → Int32} {u : Int32} {i : Nat} (h : ¬ hasB u (nI i)) : sumN f u (i + 1) = sumN f u i + 0 := by rw [sumN, if_neg h]
theorem cl_gt {i n : Nat} (hi : i ≤ n + 1) (hn : n < 2 ^ 30) (c : nI n < nI i) : i = n + 1 := by
  have := (nI_ltI (show n < 2 ^ 31 by omega) (by omega)).mp c
  omega
theorem cl_ngt {i n : Nat} (hi : i < 2 ^ 31) (hn : n < 2 ^ 31) (c : ¬ nI n < nI i) : i ≤ n := by
  rcases Nat.lt_or_ge n i with h | h
  · exact absurd ((nI_ltI hn hi).mpr h) c
  · exact h
theorem va_self (σ : Nat → Nat → Int32) (r : Nat) : va_up σ r (σ r) = σ := by
  funext q; by_cases h : q = r
  · subst h; simp [va_up]
  · simp [va_up, h]
theorem up2_Q {σ : Nat → Nat → Int32} {r q k : Nat} {v : Int32} (h : q ≠ r) : up2 σ r k v q = σ q := by simp [up2, va_up, h]
theorem va_Q {σ : Nat → Nat → Int32} {r q : Nat} {f : Nat → Int32} (h : q ≠ r) : va_up σ r f q = σ q := by simp [va_up, h]
theorem va_Qs {σ : Nat → Nat → Int32} {r : Nat} {f : Nat → Int32} : va_up σ r f r = f := by simp [va_up]
