-- the night's chance: three pours by draws, then rain or a saying again; on the row of now and the seed
noncomputable def chP (ar ow wt : Nat → Int32) (n k : Nat) : Nat → Nat → (Nat → Int32) → Nat × (Nat → Int32)
  | 0, sd, N => (sd, N)
  | j + 1, sd, N => chP ar ow wt n k j (lcg (lcg sd)) (T_X9_pourNow ar ow wt N (lcg sd / 65536 % k) (lcg (lcg sd) / 65536 % n))
noncomputable def chE (n sd : Nat) (N : Nat → Int32) : Nat × (Nat → Int32) :=
  if nI (lcg sd / 65536 % 4) = 0 then (lcg (lcg sd), upd N 13 (nI (lcg (lcg sd) / 65536 % 30)))
  else if nI (lcg sd / 65536 % 4) = 1 then (if nI n ≤ 0 then (lcg sd, N) else (lcg (lcg sd), T_X9_sayNow N (lcg (lcg sd) / 65536 % n)))
  else (lcg sd, N)
noncomputable def chQ (ar ow wt : Nat → Int32) (n k sd : Nat) (N : Nat → Int32) : Nat × (Nat → Int32) := if nI k ≤ 0 then (sd, N) else if nI n ≤ 0 then (sd, N) else chP ar ow wt n k 3 sd N
noncomputable def chA (ar ow wt : Nat → Int32) (n k sd : Nat) (N : Nat → Int32) : Nat × (Nat → Int32) := chE n (chQ ar ow wt n k sd N).1 (chQ ar ow wt n k sd N).2
theorem chP_lt {ar ow wt : Nat → Int32} {n k : Nat} : ∀ (j sd : Nat) (N : Nat → Int32), sd < 2 ^ 31 → (chP ar ow wt n k j sd N).1 < 2 ^ 31
  | 0, _, _, h => h
  | j + 1, sd, N, _ => chP_lt j _ _ (lcg_lt _)
theorem chQ_lt {ar ow wt : Nat → Int32} {n k sd : Nat} {N : Nat → Int32} (h : sd < 2 ^ 31) : (chQ ar ow wt n k sd N).1 < 2 ^ 31 := by
  unfold chQ; repeat' split
  · exact h
  · exact h
  · exact chP_lt _ _ _ h
theorem chA_lt {ar ow wt : Nat → Int32} {n k sd : Nat} {N : Nat → Int32} : (chA ar ow wt n k sd N).1 < 2 ^ 31 := by
  unfold chA chE; repeat' split
  all_goals exact lcg_lt _
theorem nz_ {n : Nat} (h : ¬ nI n ≤ 0) (hn : n < 2 ^ 31) : 0 < n := by
  rcases Nat.eq_zero_or_pos n with q | q
  · exact absurd (by rw [q]; decide) h
  · exact q
/-- drift's nights -/
noncomputable def drN (ar ow wt : Nat → Int32) (sp : Int32) (n k : Nat) : Nat → Nat → (Nat → Int32) → Nat × (Nat → Int32)
  | 0, sd, N => (sd, N)
  | i + 1, sd, N => let q := drN ar ow wt sp n k i sd N; ((chA ar ow wt n k q.1 q.2).1, T_X9_pass (chA ar ow wt n k q.1 q.2).2 sp)
theorem drN_s (ar ow wt : Nat → Int32) (sp : Int32) (n k i sd : Nat) (N : Nat → Int32) : drN ar ow wt sp n k (i + 1) sd N = ((chA ar ow wt n k (drN ar ow wt sp n k i sd N).1 (drN ar ow wt sp n k i sd N).2).1, T_X9_pass (chA ar ow wt n k (drN ar ow wt sp n k i sd N).1 (drN ar ow wt sp n k i sd N).2).2 sp) := rfl
theorem drN_0 (ar ow wt : Nat → Int32) (sp : Int32) (n k sd : Nat) (N : Nat → Int32) : drN ar ow wt sp n k 0 sd N = (sd, N) := rfl
theorem pr_lt {a b : Nat} {N : Nat → Int32} (h : a < b) : (a, N).1 < b := h
theorem drN_lt {ar ow wt : Nat → Int32} {sp : Int32} {n k : Nat} (i sd : Nat) (N : Nat → Int32) {B : Nat} (hB : B = 2 ^ 31) (h : sd < B) : (drN ar ow wt sp n k i sd N).1 < B := by
  cases i with
  | zero => rw [drN_0]; exact pr_lt h
  | succ i => rw [drN_s]; exact pr_lt (by rw [hB]; exact chA_lt)
theorem ch_st (σ : Nat → Nat → Int32) (a b c : Int32) (N M : Nat → Int32) : va_up (up2 σ 0 12 c) 6 M = va_up (up2 (up2 (va_up (up2 σ 0 12 a) 6 N) 0 12 b) 0 12 c) 6 M := by
  funext r
  by_cases h6 : r = 6
  · subst h6; simp [va_up]
  · by_cases h0 : r = 0
    · subst h0; simp [va_up, up2]; funext j; by_cases hj : j = 12 <;> simp [upd, hj]
    · simp [va_up, up2, h6, h0]
section CH
variable {σ : Nat → Nat → Int32} {n k sd s1 i : Nat} {N : Nat → Int32}
theorem ch_j0 (c : nI k ≤ 0) (h : i = 0 ∧ s1 = sd ∧ N = σ 6) : va_up (up2 σ 0 12 (nI (chQ (σ 1) (σ 2) (σ 3) n k sd (σ 6)).1)) 6 (chQ (σ 1) (σ 2) (σ 3) n k sd (σ 6)).2 = va_up (up2 σ 0 12 (nI s1)) 6 N := by
  obtain ⟨-, rfl, rfl⟩ := h
  have e : chQ (σ 1) (σ 2) (σ 3) n k s1 (σ 6) = (s1, σ 6) := if_pos c
  rw [e]
theorem ch_j1 (c : ¬ nI k ≤ 0) (c2 : nI n ≤ 0) (h : i = 0 ∧ s1 = sd ∧ N = σ 6) : va_up (up2 σ 0 12 (nI (chQ (σ 1) (σ 2) (σ 3) n k sd (σ 6)).1)) 6 (chQ (σ 1) (σ 2) (σ 3) n k sd (σ 6)).2 = va_up (up2 σ 0 12 (nI s1)) 6 N := by
  obtain ⟨-, rfl, rfl⟩ := h
  have e : chQ (σ 1) (σ 2) (σ 3) n k s1 (σ 6) = (s1, σ 6) := (if_neg c).trans (if_pos c2)
  rw [e]
theorem ch_j2 (ei : i = 3) (hF : nI k ≤ 0 ∨ nI n ≤ 0 → i = 0 ∧ s1 = sd ∧ N = σ 6) (hG : chP (σ 1) (σ 2) (σ 3) n k (3 - i) s1 N = chP (σ 1) (σ 2) (σ 3) n k 3 sd (σ 6)) : va_up (up2 σ 0 12 (nI (chQ (σ 1) (σ 2) (σ 3) n k sd (σ 6)).1)) 6 (chQ (σ 1) (σ 2) (σ 3) n k sd (σ 6)).2 = va_up (up2 σ 0 12 (nI s1)) 6 N := by
  have c : ¬ nI k ≤ 0 := fun q => by have := (hF (Or.inl q)).1; omega
  have c2 : ¬ nI n ≤ 0 := fun q => by have := (hF (Or.inr q)).1; omega
  subst ei
  have e : chQ (σ 1) (σ 2) (σ 3) n k sd (σ 6) = (s1, N) := (if_neg c).trans ((if_neg c2).trans hG.symm)
  rw [e]
end CH
section CE
variable {σ : Nat → Nat → Int32} {n k sd : Nat} {q : Nat × (Nat → Int32)} {a b : Int32}
theorem ch_st1 (σ : Nat → Nat → Int32) (a b : Int32) (N : Nat → Int32) : va_up (up2 σ 0 12 b) 6 N = up2 (va_up (up2 σ 0 12 a) 6 N) 0 12 b := by
  funext r
  by_cases h6 : r = 6
  · subst h6; simp [va_up, up2]
  · by_cases h0 : r = 0
    · subst h0; simp [va_up, up2]; funext j; by_cases hj : j = 12 <;> simp [upd, hj]
    · simp [va_up, up2, h6, h0]
end CE
theorem ch_f {σ : Nat → Nat → Int32} {A : Nat × (Nat → Int32)} {s : Nat} {N : Nat → Int32} (h : A = (s, N)) {st : Nat → Nat → Int32} (h2 : va_up (up2 σ 0 12 (nI s)) 6 N = st) : va_up (up2 σ 0 12 (nI A.1)) 6 A.2 = st := by subst h; exact h2
theorem ch_ea (σ : Nat → Nat → Int32) (a b c v : Int32) (N : Nat → Int32) : va_up (up2 σ 0 12 c) 6 (upd N 13 v) = up2 (up2 (up2 (va_up (up2 σ 0 12 a) 6 N) 0 12 b) 0 12 c) 6 13 v := by
  funext r
  by_cases h6 : r = 6
  · subst h6; simp [va_up, up2]
  · by_cases h0 : r = 0
    · subst h0; simp [va_up, up2]; funext j; by_cases hj : j = 12 <;> simp [upd, hj]
    · simp [va_up, up2, h6, h0]
theorem dr_st (σ : Nat → Nat → Int32) (a c : Int32) (N M K : Nat → Int32) : va_up (up2 σ 0 12 c) 6 K = va_up (va_up (up2 (va_up (up2 σ 0 12 a) 6 N) 0 12 c) 6 M) 6 K := by
  funext r
  by_cases h6 : r = 6
  · subst h6; simp [va_up]
  · by_cases h0 : r = 0
    · subst h0; simp [va_up, up2]; funext j; by_cases hj : j = 12 <;> simp [upd, hj]
    · simp [va_up, up2, h6, h0]
theorem fst_ {α β : Type} (a : α) (b : β) : (a, b).1 = a := rfl
theorem snd_ {α β : Type} (a : α) (b : β) : (a, b).2 = b := rfl
theorem prx1 (sp : Int32) : ∀ x : Nat × (Nat → Int32), ((x.1, T_X9_pass x.2 sp) : Nat × (Nat → Int32)).1 = x.1 := fun _ => rfl
theorem prx2 (sp : Int32) : ∀ x : Nat × (Nat → Int32), ((x.1, T_X9_pass x.2 sp) : Nat × (Nat → Int32)).2 = T_X9_pass x.2 sp := fun _ => rfl
theorem drN_s1 (ar ow wt : Nat → Int32) (sp : Int32) (n k i sd : Nat) (N : Nat → Int32) : (drN ar ow wt sp n k (i + 1) sd N).1 = (chA ar ow wt n k (drN ar ow wt sp n k i sd N).1 (drN ar ow wt sp n k i sd N).2).1 := (congrArg Prod.fst (drN_s ar ow wt sp n k i sd N)).trans (prx1 sp _)
theorem drN_s2 (ar ow wt : Nat → Int32) (sp : Int32) (n k i sd : Nat) (N : Nat → Int32) : (drN ar ow wt sp n k (i + 1) sd N).2 = T_X9_pass (chA ar ow wt n k (drN ar ow wt sp n k i sd N).1 (drN ar ow wt sp n k i sd N).2).2 sp := (congrArg Prod.snd (drN_s ar ow wt sp n k i sd N)).trans (prx2 sp _)
