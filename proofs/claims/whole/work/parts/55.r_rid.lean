-- the riddle
theorem shr_bit {u : Int32} {s : Nat} (hs : s < 32) : (u >>> (nI s &&& 31)) &&& 1 = if u &&& ((1 : Int32) <<< (nI s &&& 31)) = (1 : Int32) <<< (nI s &&& 31) then 1 else 0 := by
  have e : u &&& ((1 : Int32) <<< (nI s &&& 31)) = (1 : Int32) <<< (nI s &&& 31) ↔ bt u s = true := by
    constructor
    · intro h
      have h2 := congrArg (fun z => bt z s) h
      simp only [b_and, b_one hs hs] at h2
      simpa using h2
    · intro h
      apply b_ext
      intro i hi
      rw [b_and, b_one hs hi]
      by_cases q : i = s
      · subst q; rw [h]; simp
      · simp [q]
  by_cases h : bt u s = true
  · rw [if_pos (e.mpr h)]; exact (hasB_bt hs).mpr h
  · rw [if_neg (fun q => h (e.mp q))]
    rcases bit01 (u >>> (nI s &&& 31)) with q | q
    · exact q
    · exact absurd ((hasB_bt hs).mp q) h
theorem go_cb {wt fr wt' fr' : Nat → Int32} {n c : Nat} {h x : Int32} (hn : n ≤ 10) (h1 : ∀ j, j < n → wt j = wt' j) (h2 : ∀ j, j < n → fr j = fr' j) : goX wt fr n h x c = true ↔ cb wt' fr' n h x (nI c) := by
  unfold cb
  rw [← sumN_cg n h1, ← holdN_cg n h2]
  constructor
  · intro q; exact (of_decide_eq_true q).2
  · intro q
    refine decide_eq_true ⟨?_, q.1, q.2⟩
    rw [and0]
    intro i hi hc
    cases hh : bt h i
    · rfl
    · rw [← q.2] at hh
      have := (b_hold n hn i hi hh).2
      rw [hc] at this; cases this
section RD
variable {g : Nat → Bool} {wt fr : Nat → Int32} {n : Nat} {h x : Int32} {R0 W0 : Nat → Int32}
theorem ga_cnt (m : Nat) (hm : m ≤ 1024) (hg : ∀ c, c < m → (g c = true ↔ cb wt fr n h x (nI c))) (h0 : R0 0 = 0) (h1 : R0 1 = -1) : gaO g R0 m 0 = manN wt fr n h x 0 m ∧ gaO g R0 m 1 = eachN wt fr n h x m ∧ (∃ q, q ≤ m ∧ gaO g R0 m 0 = nI q ∧ (q = 0 → eachN wt fr n h x m = -1) ∧ (0 < q → 0 ≤ eachN wt fr n h x m)) := by
  induction m with
  | zero => exact ⟨h0, h1, 0, by omega, h0, fun _ => rfl, fun q => absurd q (by omega)⟩
  | succ m ih =>
    obtain ⟨e1, e2, q, hq, e3, e4, e5⟩ := ih (by omega) (fun c hc => hg c (by omega))
    by_cases c : g m = true
    · have hcb := (hg m (by omega)).mp c
      have t0 : gaO g R0 (m + 1) = upd (upd (gaO g R0 m) 0 (gaO g R0 m 0 + 1)) 1 (gaO g R0 m 1 &&& nI m) := if_pos c
      have t1 : manN wt fr n h x 0 (m + 1) = manN wt fr n h x 0 m + 1 := by
        show manN wt fr n h x 0 m + (if nI m &&& 0 = 0 ∧ cb wt fr n h x (nI m) then 1 else 0) = _
        rw [if_pos ⟨by simp, hcb⟩]
      have t2 : eachN wt fr n h x (m + 1) = if 0 ≤ eachN wt fr n h x m then eachN wt fr n h x m &&& nI m else nI m := if_pos hcb
      have hand : ∀ y : Int32, 0 ≤ y &&& nI m := by
        intro y
        obtain ⟨j, hj, ej⟩ := and_rng (x := nI m) (y := y) (k := m) (B := 1024) (by omega) (by omega) rfl
        rw [and_cm, ej]; exact nI_pos' (by omega)
      rw [t0, t1, t2]
      refine ⟨by rw [upd_ne _ _ (by decide), upd_eq, e1], ?_, q + 1, by omega, by rw [upd_ne _ _ (by decide), upd_eq, e3, nI_1], fun z => absurd z (by omega), fun _ => ?_⟩
      · rw [upd_eq, e2]
        by_cases z : 0 < q
        · rw [if_pos (e5 z)]
        · have z0 : q = 0 := by omega
          rw [e4 z0, if_neg (by decide)]
          apply b_ext; intro i hi; rw [b_and, b_m1 i hi, Bool.true_and]
      · split
        · exact hand _
        · exact nI_pos' (by omega)
    · have hcb : ¬ cb wt fr n h x (nI m) := fun z => c ((hg m (by omega)).mpr z)
      have t0 : gaO g R0 (m + 1) = gaO g R0 m := if_neg c
      have t1 : manN wt fr n h x 0 (m + 1) = manN wt fr n h x 0 m := by
        show manN wt fr n h x 0 m + (if nI m &&& 0 = 0 ∧ cb wt fr n h x (nI m) then 1 else 0) = _
        rw [if_neg (fun z => hcb z.2), add_0]
      have t2 : eachN wt fr n h x (m + 1) = eachN wt fr n h x m := if_neg hcb
      rw [t0, t1, t2]
      exact ⟨e1, e2, q, by omega, e3, e4, e5⟩
theorem ga_with {s : Nat} (hs : s < 10) (m : Nat) (hg : ∀ c, c < m → (g c = true ↔ cb wt fr n h x (nI c))) (h0 : W0 s = 0) : gaW g W0 m s = manN wt fr n h x ((1 : Int32) <<< (nI s &&& 31)) m := by
  induction m with
  | zero => exact h0
  | succ m ih =>
    have e := ih (fun c hc => hg c (by omega))
    have t1 : manN wt fr n h x ((1 : Int32) <<< (nI s &&& 31)) (m + 1) = manN wt fr n h x ((1 : Int32) <<< (nI s &&& 31)) m + (if nI m &&& ((1 : Int32) <<< (nI s &&& 31)) = (1 : Int32) <<< (nI s &&& 31) ∧ cb wt fr n h x (nI m) then 1 else 0) := rfl
    by_cases c : g m = true
    · have hcb := (hg m (by omega)).mp c
      have t0 : gaW g W0 (m + 1) = tlN (gaW g W0 m) (nI m) 10 := if_pos c
      rw [t0, t1]
      unfold tlN
      rw [if_pos hs, e, shr_bit (by omega)]
      congr 1
      by_cases z : nI m &&& ((1 : Int32) <<< (nI s &&& 31)) = (1 : Int32) <<< (nI s &&& 31)
      · rw [if_pos z, if_pos ⟨z, hcb⟩]
      · rw [if_neg z, if_neg (fun q => z q.1)]
    · have hcb : ¬ cb wt fr n h x (nI m) := fun z => c ((hg m (by omega)).mpr z)
      have t0 : gaW g W0 (m + 1) = gaW g W0 m := if_neg c
      rw [t0, t1, if_neg (fun q => hcb q.2), add_0, e]
theorem man_rng (w : Int32) (m : Nat) : ∃ q, q ≤ m ∧ manN wt fr n h x w m = nI q := by
  induction m with
  | zero => exact ⟨0, by omega, rfl⟩
  | succ m ih =>
    obtain ⟨q, hq, e⟩ := ih
    show ∃ q, q ≤ m + 1 ∧ manN wt fr n h x w m + (if nI m &&& w = w ∧ cb wt fr n h x (nI m) then 1 else 0) = nI q
    rw [e]
    split
    · exact ⟨q + 1, by omega, nI_1 q⟩
    · exact ⟨q, by omega, add_0 _⟩
end RD
theorem al_fr {al w : Int32} {a b : Nat} (ea : al = nI a) (eb : w = nI b) (ha : a ≤ 1024) (hb : b ≤ 1024) : (if w < al - w then al - w else w) = frogP al w := by
  unfold frogP
  by_cases c : w < al - w
  · rw [if_pos c, if_pos (Int32.le_of_lt c)]
  · rw [if_neg c]
    split
    · rename_i q
      exact Int32.le_antisymm q (Int32.not_lt.mp c)
    · rfl
theorem frog_e {al : Int32} {W f : Nat → Int32} {a : Nat} (ea : al = nI a) (ha : a ≤ 1024) (n : Nat) (h : ∀ s, s < n → W s = f s ∧ ∃ b, b ≤ 1024 ∧ f s = nI b) : minN al (alX al W) n = frogN al f n := by
  induction n with
  | zero => rfl
  | succ n ih =>
    have e := ih (fun s hs => h s (by omega))
    obtain ⟨h1, b, hb, h2⟩ := h n (by omega)
    have e2 : alX al W n = frogP al (f n) := by unfold alX; rw [h1]; exact al_fr ea h2 ha hb
    unfold minN frogN
    rw [e, e2]
