-- sets, by their bits
theorem b_hold {fr : Nat → Int32} {u : Int32} (n : Nat) (hn : n ≤ 10) : ∀ i, i < 32 → bt (holdN fr u n) i = true → i < n ∧ bt u i = false := by
  induction n with
  | zero => intro i hi h; rw [show holdN fr u 0 = 0 from rfl, b_0] at h; cases h
  | succ n ih =>
    intro i hi h
    unfold holdN at h
    split at h
    · rename_i c
      rw [b_or, b_one (by omega) hi] at h
      by_cases e : i = n
      · subst e
        refine ⟨by omega, ?_⟩
        have c1 := c.1
        rw [hasB_bt hi] at c1
        simpa using c1
      · rw [decide_eq_false e, Bool.or_false] at h
        have := ih (by omega) i hi h
        exact ⟨by omega, this.2⟩
    · have := ih (by omega) i hi h
      exact ⟨by omega, this.2⟩
theorem and0 {x y : Int32} : x &&& y = 0 ↔ ∀ i, i < 32 → bt x i = true → bt y i = false := by
  rw [b_0iff]
  constructor
  · intro h i hi hx
    have := h i hi
    rw [b_and, hx, Bool.true_and] at this
    exact this
  · intro h i hi
    rw [b_and]
    cases hx : bt x i
    · rfl
    · rw [h i hi hx]; rfl
/-- may all of it be unsaid: the class's test and the reference's -/
theorem free_e {n c : Nat} {U : Int32} (hn : n ≤ 10) (hc : c < 2 ^ n) : (nI c &&& (((((1 : Int32) <<< (nI n &&& 31)) - 1) &&& (U ^^^ (-1))) ^^^ (-1)) = 0) ↔ (nI c &&& U = 0) := by
  rw [and0, and0]
  constructor
  · intro h i hi hx
    have hin : i < n := by
      rcases Nat.lt_or_ge i n with q | q
      · exact q
      · rw [b_hi hc q hi] at hx; cases hx
    have := h i hi hx
    rw [b_not _ hi, b_and, b_full hn hi, b_not _ hi, decide_eq_true hin] at this
    simpa using this
  · intro h i hi hx
    have hin : i < n := by
      rcases Nat.lt_or_ge i n with q | q
      · exact q
      · rw [b_hi hc q hi] at hx; cases hx
    rw [b_not _ hi, b_and, b_full hn hi, b_not _ hi, decide_eq_true hin, h i hi hx]
    rfl
theorem sub_e {x h : Int32} : (h &&& (x ^^^ (-1)) = 0) ↔ (x &&& h = h) := by
  rw [and0]
  constructor
  · intro q
    apply b_ext
    intro i hi
    rw [b_and]
    cases hh : bt h i
    · simp
    · have := q i hi hh
      rw [b_not _ hi] at this
      have hx : bt x i = true := by simpa using this
      rw [hx]; rfl
  · intro q i hi hh
    have := congrArg (fun z => bt z i) q
    simp only [b_and, hh, Bool.and_true] at this
    rw [b_not _ hi, this]; rfl
theorem and_cm (x y : Int32) : x &&& y = y &&& x := by
  apply b_ext; intro i hi; rw [b_and, b_and, Bool.and_comm]
-- sums of small numbers
theorem sum_t {f : Nat → Int32} {u : Int32} {lo hi : Int} (n : Nat) (hn : n ≤ 10) (hlo : -100 ≤ lo ∧ lo ≤ 0) (hhi : 0 ≤ hi ∧ hi ≤ 100) (h : ∀ j, j < n → lo ≤ (f j).toInt ∧ (f j).toInt ≤ hi) : lo * n ≤ (sumN f u n).toInt ∧ (sumN f u n).toInt ≤ hi * n := by
  induction n with
  | zero =>
    have e0 : (sumN f u 0).toInt = 0 := by show (0 : Int32).toInt = 0; decide
    rw [e0]; simp
  | succ n ih =>
    obtain ⟨i1, i2⟩ := ih (by omega) (fun j hj => h j (by omega))
    have hj := h n (by omega)
    have ea : (sumN f u (n + 1)).toInt = (sumN f u n).toInt + (if hasB u (nI n) then f n else 0).toInt := by
      show (sumN f u n + (if hasB u (nI n) then f n else 0)).toInt = _
      rw [Int32.toInt_add]
      have e0 : (0 : Int32).toInt = 0 := by decide
      have b1 : -1000 ≤ lo * n := by
        have : lo * n ≥ (-100) * (n : Int) := Int.mul_le_mul_of_nonneg_right hlo.1 (by omega)
        omega
      have b2 : hi * n ≤ 1000 := by
        have : hi * n ≤ 100 * (n : Int) := Int.mul_le_mul_of_nonneg_right hhi.2 (by omega)
        omega
      split
      · apply Int.bmod_eq_of_le <;> omega
      · rw [e0]; apply Int.bmod_eq_of_le <;> omega
    have e0 : (0 : Int32).toInt = 0 := by decide
    rw [ea]
    have m1 : lo * ((n + 1 : Nat) : Int) = lo * n + lo := by rw [Int.natCast_add, Int.mul_add]; simp
    have m2 : hi * ((n + 1 : Nat) : Int) = hi * n + hi := by rw [Int.natCast_add, Int.mul_add]; simp
    rw [m1, m2]
    split
    · omega
    · rw [e0]; omega
-- the cheapest
theorem state_e {g : Nat → Bool} {f cost : Nat → Int32} (m : Nat) (hm : m ≤ 1024) (h1 : ∀ c, c < m → g c = true → cost c = f c) (h2 : ∀ c, c < m → ¬ g c = true → cost c = 1000000) (h3 : ∀ c, c < m → f c < 1000000) : (chX g f m).1 = (minN 1000000 cost m).1 ∧ ((chX g f m).1 = -1 ∧ (minN 1000000 cost m).2 = 1000000 ∨ ∃ c, c < m ∧ (chX g f m).1 = nI c ∧ (chX g f m).2 = f c ∧ (minN 1000000 cost m).2 = f c) := by
  induction m with
  | zero => exact ⟨rfl, Or.inl ⟨rfl, rfl⟩⟩
  | succ m ih =>
    obtain ⟨e, hd⟩ := ih (by omega) (fun c hc => h1 c (by omega)) (fun c hc => h2 c (by omega)) (fun c hc => h3 c (by omega))
    have hne : ∀ c : Nat, c < 1024 → ¬ nI c = -1 := by
      intro c hc q
      have := congrArg Int32.toInt q
      rw [nI_toInt (by omega), show (-1 : Int32).toInt = -1 by decide] at this
      omega
    by_cases hg : g m = true
    · have hc := h1 m (by omega) hg
      rcases hd with ⟨d1, d2⟩ | ⟨c, hc0, d1, d2, d3⟩
      · have t1 : chX g f (m + 1) = (nI m, f m) := (if_pos hg).trans (if_pos d1)
        have t2 : minN 1000000 cost (m + 1) = (nI m, cost m) := if_neg (by rw [d2, hc]; exact Int32.not_le.mpr (h3 m (by omega)))
        rw [t1, t2, hc]
        exact ⟨rfl, Or.inr ⟨m, by omega, rfl, rfl, rfl⟩⟩
      · by_cases hle : f c ≤ f m
        · have t1 : chX g f (m + 1) = chX g f m := (if_pos hg).trans ((if_neg (by rw [d1]; exact hne c (by omega))).trans (if_pos (by rw [d2]; exact hle)))
          have t2 : minN 1000000 cost (m + 1) = minN 1000000 cost m := if_pos (by rw [d3, hc]; exact hle)
          rw [t1, t2]
          exact ⟨e, Or.inr ⟨c, by omega, d1, d2, d3⟩⟩
        · have t1 : chX g f (m + 1) = (nI m, f m) := (if_pos hg).trans ((if_neg (by rw [d1]; exact hne c (by omega))).trans (if_neg (by rw [d2]; exact hle)))
          have t2 : minN 1000000 cost (m + 1) = (nI m, cost m) := if_neg (by rw [d3, hc]; exact hle)
          rw [t1, t2, hc]
          exact ⟨rfl, Or.inr ⟨m, by omega, rfl, rfl, rfl⟩⟩
    · have hc := h2 m (by omega) hg
      have t1 : chX g f (m + 1) = chX g f m := if_neg hg
      have t2 : minN 1000000 cost (m + 1) = minN 1000000 cost m := by
        refine if_pos ?_
        rw [hc]
        rcases hd with ⟨_, d2⟩ | ⟨c, hc0, _, _, d3⟩
        · rw [d2]; exact Int32.le_refl _
        · rw [d3]; exact Int32.le_of_lt (h3 c (by omega))
      rw [t1, t2]
      refine ⟨e, ?_⟩
      rcases hd with hd | ⟨c, hc0, d⟩
      · exact Or.inl hd
      · exact Or.inr ⟨c, by omega, d⟩
-- the best
theorem best_e {g : Nat → Bool} {f val : Nat → Int32} {m0 : Int32} (m : Nat) (hf0 : f 0 = m0) (h1 : ∀ c, 0 < c → c ≤ m → g c = true → val c = f c) (h2 : ∀ c, 0 < c → c ≤ m → ¬ g c = true → val c = -1000000) (h3 : ∀ c, c ≤ m → (-1000000) < f c) : bsX g f m0 m = maxN m0 val m ∧ ∃ c, c ≤ m ∧ (bsX g f m0 m).1 = nI c ∧ (bsX g f m0 m).2 = f c := by
  induction m with
  | zero => exact ⟨rfl, 0, by omega, rfl, hf0.symm⟩
  | succ m ih =>
    obtain ⟨e, c, hc, d1, d2⟩ := ih (fun c h0 hc => h1 c h0 (by omega)) (fun c h0 hc => h2 c h0 (by omega)) (fun c hc => h3 c (by omega))
    by_cases hg : g (m + 1) = true
    · have hv := h1 (m + 1) (by omega) (by omega) hg
      by_cases hle : f (m + 1) ≤ (bsX g f m0 m).2
      · have t1 : bsX g f m0 (m + 1) = bsX g f m0 m := (if_pos hg).trans (if_pos hle)
        have t2 : maxN m0 val (m + 1) = maxN m0 val m := if_pos (by rw [hv, ← e]; exact hle)
        rw [t1, t2]; exact ⟨e, c, by omega, d1, d2⟩
      · have t1 : bsX g f m0 (m + 1) = (nI (m + 1), f (m + 1)) := (if_pos hg).trans (if_neg hle)
        have t2 : maxN m0 val (m + 1) = (nI (m + 1), val (m + 1)) := if_neg (by rw [hv, ← e]; exact hle)
        rw [t1, t2, hv]; exact ⟨rfl, m + 1, by omega, rfl, rfl⟩
    · have hv := h2 (m + 1) (by omega) (by omega) hg
      have t1 : bsX g f m0 (m + 1) = bsX g f m0 m := if_neg hg
      have t2 : maxN m0 val (m + 1) = maxN m0 val m := if_pos (by rw [hv, ← e, d2]; exact Int32.le_of_lt (h3 c (by omega)))
      rw [t1, t2]; exact ⟨e, c, by omega, d1, d2⟩
-- roots
theorem roots_e {fr fr' : Nat → Int32} {s : Nat} (hs : s < 10) (r : Int32) : ∀ n, s < n → n ≤ 10 → (∀ j, j ≤ s → fr j = fr' j) → rtD fr n ((1 : Int32) <<< (nI s &&& 31)) r = rtD fr' (s + 1) ((1 : Int32) <<< (nI s &&& 31)) r := by
  intro n
  induction n with
  | zero => intro h; omega
  | succ n ih =>
    intro h1 h2 h3
    by_cases e : n = s
    · subst e; exact rtD_cg (n + 1) (fun j hj => h3 j (by omega)) _ _
    · have hB : ¬ hasB ((1 : Int32) <<< (nI s &&& 31)) (nI n) := by
        rw [hasB_bt (by omega), b_one (by omega) (by omega), decide_eq_true_iff]; omega
      rw [show rtD fr (n + 1) ((1 : Int32) <<< (nI s &&& 31)) r = rtD fr n ((1 : Int32) <<< (nI s &&& 31)) r from if_neg hB]
      exact ih (by omega) (by omega) h3
-- who leans on whom
theorem b_str {ow fr : Nat → Int32} {v : Int32} (n : Nat) {i : Nat} : bt (strN ow fr v n) i = true ↔ ∃ s, s < n ∧ ow s = v ∧ bt (fr s) i = true := by
  induction n with
  | zero =>
    rw [show strN ow fr v 0 = 0 from rfl, b_0]
    constructor
    · intro h; cases h
    · rintro ⟨s, hs, _⟩; omega
  | succ n ih =>
    rw [show strN ow fr v (n + 1) = strN ow fr v n ||| (if ow n = v then fr n else 0) from rfl, b_or, Bool.or_eq_true, ih]
    constructor
    · rintro (⟨s, h1, h2⟩ | h)
      · exact ⟨s, by omega, h2⟩
      · split at h
        · rename_i c; exact ⟨n, by omega, c, h⟩
        · rw [b_0] at h; cases h
    · rintro ⟨s, h1, h2, h3⟩
      by_cases e : s = n
      · subst e; right; rw [if_pos h2]; exact h3
      · left; exact ⟨s, by omega, h2, h3⟩
theorem b_ln {ow : Nat → Int32} {st v : Int32} (n : Nat) {i : Nat} : bt (lnX ow st v n) i = true ↔ ∃ c, c < n ∧ hasB st (nI c) ∧ ¬ ow c = v ∧ bt ((1 : Int32) <<< (ow c &&& 31)) i = true := by
  induction n with
  | zero =>
    rw [show lnX ow st v 0 = 0 from rfl, b_0]
    constructor
    · intro h; cases h
    · rintro ⟨s, hs, _⟩; omega
  | succ n ih =>
    rw [show lnX ow st v (n + 1) = lnX ow st v n ||| (if hasB st (nI n) ∧ ¬ ow n = v then (1 : Int32) <<< (ow n &&& 31) else 0) from rfl, b_or, Bool.or_eq_true, ih]
    constructor
    · rintro (⟨s, h1, h2⟩ | h)
      · exact ⟨s, by omega, h2⟩
      · split at h
        · rename_i c; exact ⟨n, by omega, c.1, c.2, h⟩
        · rw [b_0] at h; cases h
    · rintro ⟨s, h1, h2, h3, h4⟩
      by_cases e : s = n
      · subst e; right; rw [if_pos ⟨h2, h3⟩]; exact h4
      · left; exact ⟨s, by omega, h2, h3, h4⟩
theorem b_lI {ow fr : Nat → Int32} {v acc : Int32} {s : Nat} (a : Nat) {i : Nat} : bt (leanI ow fr v s acc a) i = true ↔ bt acc i = true ∨ ∃ c, c < a ∧ ow s = v ∧ hasB (fr s) (nI c) ∧ ¬ ow c = v ∧ bt ((1 : Int32) <<< (ow c &&& 31)) i = true := by
  induction a with
  | zero =>
    rw [show leanI ow fr v s acc 0 = acc from rfl]
    constructor
    · intro h; exact Or.inl h
    · rintro (h | ⟨c, hc, _⟩)
      · exact h
      · omega
  | succ a ih =>
    rw [show leanI ow fr v s acc (a + 1) = leanI ow fr v s acc a ||| (if ow s = v ∧ hasB (fr s) (nI a) ∧ ¬ ow a = v then (1 : Int32) <<< (ow a &&& 31) else 0) from rfl, b_or, Bool.or_eq_true, ih]
    constructor
    · rintro ((h | ⟨c, h1, h2⟩) | h)
      · exact Or.inl h
      · exact Or.inr ⟨c, by omega, h2⟩
      · split at h
        · rename_i c; exact Or.inr ⟨a, by omega, c.1, c.2.1, c.2.2, h⟩
        · rw [b_0] at h; cases h
    · rintro (h | ⟨c, h1, h2, h3, h4, h5⟩)
      · exact Or.inl (Or.inl h)
      · by_cases e : c = a
        · subst e; right; rw [if_pos ⟨h2, h3, h4⟩]; exact h5
        · left; right; exact ⟨c, by omega, h2, h3, h4, h5⟩
theorem b_le {ow fr : Nat → Int32} {v : Int32} (n : Nat) {i : Nat} : bt (leanN ow fr v n) i = true ↔ ∃ s, s < n ∧ ∃ c, c < s ∧ ow s = v ∧ hasB (fr s) (nI c) ∧ ¬ ow c = v ∧ bt ((1 : Int32) <<< (ow c &&& 31)) i = true := by
  induction n with
  | zero =>
    rw [show leanN ow fr v 0 = 0 from rfl, b_0]
    constructor
    · intro h; cases h
    · rintro ⟨s, hs, _⟩; omega
  | succ n ih =>
    rw [show leanN ow fr v (n + 1) = leanI ow fr v n (leanN ow fr v n) n from rfl, b_lI, ih]
    constructor
    · rintro (⟨s, h1, h2⟩ | h)
      · exact ⟨s, by omega, h2⟩
      · exact ⟨n, by omega, h⟩
    · rintro ⟨s, h1, h2⟩
      by_cases e : s = n
      · subst e; exact Or.inr h2
      · exact Or.inl ⟨s, by omega, h2⟩
theorem leans_e {ow fr : Nat → Int32} {v : Int32} {n : Nat} (hn : n ≤ 10) (hfr : ∀ j, j < n → ∃ x, x < 2 ^ j ∧ fr j = nI x) : lnX ow (strN ow fr v n) v n = leanN ow fr v n := by
  apply b_ext
  intro i hi
  rw [Bool.eq_iff_iff, b_ln, b_le]
  constructor
  · rintro ⟨c, h1, h2, h3, h4⟩
    rw [hasB_bt (by omega), b_str] at h2
    obtain ⟨s, g1, g2, g3⟩ := h2
    obtain ⟨x, hx, ex⟩ := hfr s g1
    have hcs : c < s := by
      rcases Nat.lt_or_ge c s with q | q
      · exact q
      · rw [ex, b_hi hx q (by omega)] at g3; cases g3
    exact ⟨s, g1, c, hcs, g2, (hasB_bt (by omega)).mpr g3, h3, h4⟩
  · rintro ⟨s, g1, c, hcs, g2, g3, h3, h4⟩
    refine ⟨c, by omega, ?_, h3, h4⟩
    rw [hasB_bt (by omega), b_str]
    exact ⟨s, g1, g2, (hasB_bt (by omega)).mp g3⟩
-- drought
theorem dro_e {v sp lv : Nat} (hv : v ≤ 99) (hs : sp ≤ 20) (hl : lv ≤ 99) : ∀ j c, j + c ≤ 100 → drX (nI v) (nI sp) (nI lv) j c = drtN (nI v) (nI sp) j c (nI (min (lv + c * sp) 99)) := by
  intro j
  induction j with
  | zero => intro c _; rfl
  | succ j ih =>
    intro c hc
    have hb : c * sp ≤ 2000 := Nat.le_trans (Nat.mul_le_mul (show c ≤ 100 by omega) hs) (by decide)
    have e1 : nI lv + nI c * nI sp = nI (lv + c * sp) := by rw [pk_mul, nI_add]
    have e2 : R_X9_filled (nI (min (lv + c * sp) 99)) (nI sp) = nI (min (lv + (c + 1) * sp) 99) := by
      unfold R_X9_filled
      rw [nI_add, (fill_e (by omega)).2, Nat.succ_mul]
      congr 1; omega
    unfold drX drtN
    rw [e1, e2, ih (c + 1) (by omega)]
    by_cases q : lv + c * sp < v
    · rw [if_pos (nI_lt q (by omega)), if_pos (nI_lt (by omega) (by omega))]
    · rw [if_neg (nI_nlt (by omega) (by omega)), if_neg (nI_nlt (by omega) (by omega))]
