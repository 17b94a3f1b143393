theorem skB_i (tx : Nat → Int32) (len a : Nat) : skB tx len (skB tx len a) = skB tx len a := by
  have h : ∀ f b, skF tx len f b < b + f ∨ len ≤ b + f → ¬ (skF tx len f b < len ∧ tx (skF tx len f b) = 32) := by
    intro f
    induction f with
    | zero => intro b hb q; rw [skF] at hb q; omega
    | succ f ih =>
      intro b hb
      rw [skF]
      rw [skF] at hb
      split
      · rename_i hc
        rw [if_pos hc] at hb
        exact ih (b + 1) (by omega)
      · rename_i hc; exact hc
  refine skB_f (h (len - a) a ?_)
  omega
def muY (f : Int32) (c : Nat) : Nat := if f = 0 then 241 - c else 0
theorem muY_lt {f g : Int32} {c fu : Nat} (h : f = 0) (hc : c ≤ 240) (hm : muY f c < fu + 1) : muY g (c + 1) < fu := by
  unfold muY at *
  rw [if_pos h] at hm
  split <;> omega
/-- fault kinds -/
def fK (f : Int32) : Prop := f = 0 ∨ 0 < f
theorem fK_rn (tx : Nat → Int32) (len a : Nat) (lo hi : Int32) : fK (rnF tx len a lo hi) := by
  rcases rnF_k tx len a lo hi with h | h | h <;> rw [h]
  · exact Or.inl rfl
  · exact Or.inr (by decide)
  · exact Or.inr (by decide)
theorem fK_rnK {tx : Nat → Int32} {len a : Nat} {K lo hi : Int32} (h : fK K) : fK (rnK tx len a K lo hi) := by
  unfold rnK; split
  · exact fK_rn _ _ _ _ _
  · exact h
theorem fK_ce {tx : Nat → Int32} {len a : Nat} {K : Int32} (h : fK K) : fK (ceK tx len a K) := by
  unfold ceK; split
  · split
    · exact Or.inl rfl
    · exact Or.inr (by decide)
  · exact h
theorem fK_lk {fr : Nat → Int32} {K v w : Int32} (h : fK K) : fK (lkK fr K v w) := by
  unfold lkK; split
  · split
    · exact Or.inr (by decide)
    · split
      · exact Or.inr (by decide)
      · exact Or.inl rfl
  · exact h
theorem fK_fw (Y : Nat → Int32) (w : Int32) : fK (fwN Y w) := by
  unfold fwN
  repeat' split
  all_goals first | exact Or.inl rfl | exact Or.inr (by decide)
theorem fK_0 : fK 0 := Or.inl rfl
theorem fK_cc {tx : Nat → Int32} {len a : Nat} {P na : Int32} {Y ar ow wt wo fr : Nat → Int32} {k n : Nat} : fK (ccK tx len a P na Y ar ow wt wo fr k n) := by
  unfold ccK
  split
  · split
    · exact fK_ce (fK_rnK fK_0)
    · split
      · exact fK_ce (fK_rnK (fK_rnK (fK_rnK fK_0)))
      · split
        · exact fK_ce (fK_rnK (fK_rnK fK_0))
        · exact fK_ce (fK_lk (fK_rnK (fK_rnK fK_0)))
  · exact fK_fw _ _
/-- the reading, by both -/
def LoopY (tx O0 : Nat → Int32) (len : Nat) (PS : Nat → Nat → Int32) (f : Int32) (c a k n : Nat) (ms ps : Nat → Nat → Int32) : Prop :=
  ps 0 3 = f ∧ fK f ∧ (∀ j, (j ≤ 14 ∨ 29 ≤ j) → ms 0 j = O0 j) ∧ (¬ f = 0 → ms 0 15 = ps 0 2) ∧ psL tx len (240 - c) ps = PS ∧ (f = 0 → c ≤ skB tx len a ∧ a ≤ len ∧ ms 0 16 = nI a ∧ ps 0 4 = nI (skB tx len a) ∧ RelC len (ms 0) (ms 1) (ms 2) (ms 3) (ms 4) (ms 5) (ps 1) (ps 2) (ps 3) (ps 4) (ps 5) (ps 6) k n (ps 0 2) ∧ BndC (ps 1) (ps 2) (ps 3) (ps 4) (ps 5) (ps 6) k n)

def msN (tx : Nat → Int32) (len a k n : Nat) (ms : Nat → Nat → Int32) (r : Nat) : Nat → Int32 :=
  if r = 0 then T_X9_takeClause_O (upd (ms 0) 16 (nI (skB tx len a))) tx (ms 1) (ms 2) (ms 3) (ms 4) (ms 5) len (skB tx len a) k n else if r = 1 then T_X9_takeClause_ra (upd (ms 0) 16 (nI (skB tx len a))) tx (ms 1) (ms 2) (ms 3) (ms 4) (ms 5) len (skB tx len a) k n else if r = 2 then T_X9_takeClause_rh (upd (ms 0) 16 (nI (skB tx len a))) tx (ms 1) (ms 2) (ms 3) (ms 4) (ms 5) len (skB tx len a) k n else if r = 3 then T_X9_takeClause_rg (upd (ms 0) 16 (nI (skB tx len a))) tx (ms 1) (ms 2) (ms 3) (ms 4) (ms 5) len (skB tx len a) k n else if r = 4 then T_X9_takeClause_ro (upd (ms 0) 16 (nI (skB tx len a))) tx (ms 1) (ms 2) (ms 3) (ms 4) (ms 5) len (skB tx len a) k n else T_X9_takeClause_rf (upd (ms 0) 16 (nI (skB tx len a))) tx (ms 1) (ms 2) (ms 3) (ms 4) (ms 5) len (skB tx len a) k n

theorem LoopY_step {tx O0 : Nat → Int32} {len : Nat} {PS : Nat → Nat → Int32} {f : Int32} {c a k n : Nat} {ms ps : Nat → Nat → Int32} (h : LoopY tx O0 len PS f c a k n ms ps) (hf : f = 0) (hl : len ≤ 240) (hlt : skB tx len a < len) : ∃ a2 k2 n2, LoopY tx O0 len PS (R_X9_takeClause (upd (ms 0) 16 (nI (skB tx len a))) tx (ms 1) (ms 2) (ms 3) (ms 4) (ms 5) len (skB tx len a) k n) (c + 1) a2 k2 n2 (msN tx len a k n ms) (psB tx len (psC tx len ps)) := by
  obtain ⟨h3, _, hO, _, hF, hI⟩ := h
  obtain ⟨hc, ha, e16, e4, hR, hB⟩ := hI hf
  have eA : psA ps = skB tx len a := by unfold psA; rw [e4]; exact nI_clamp (by omega)
  have ek : psk ps = k := by unfold psk; rw [hR.2.1.2.1]; exact nI_clamp (by have := hB.1.1; omega)
  have en : psn ps = n := by unfold psn; rw [hR.2.1.2.2.2.1]; exact nI_clamp (by have := hB.1.2.1; omega)
  have hR2 : RelC len (upd (ms 0) 16 (nI (skB tx len a))) (ms 1) (ms 2) (ms 3) (ms 4) (ms 5) (ps 1) (ps 2) (ps 3) (ps 4) (ps 5) (ps 6) k n (ps 0 2) := hR
  have hcl := cl_all (tx := tx) (a := skB tx len a) (na := ps 0 5) (by omega) hl hR2 hB
  unfold ClP at hcl
  rw [skB_i] at hcl
  obtain ⟨cR, cO, cP, cZ⟩ := hcl
  have p3 : psB tx len (psC tx len ps) 0 3 = ccK tx len (skB tx len a) (ps 0 2) (ps 0 5) (ps 1) (ps 2) (ps 3) (ps 4) (ps 5) (ps 6) k n := by
    unfold psB psC; rw [eA, ek, en]; simp [upd]
  have p2 : psB tx len (psC tx len ps) 0 2 = ccP tx len (skB tx len a) (ps 0 2) (ps 0 5) (ps 1) (ps 2) (ps 3) (ps 4) (ps 5) (ps 6) k n := by
    unfold psB psC; rw [eA, ek, en]; simp [upd]
  have p4 : psB tx len (psC tx len ps) 0 4 = nI (skB tx len (ccA tx len (skB tx len a) (ps 0 2) (ps 0 5) (ps 1) (ps 2) (ps 3) (ps 4) (ps 5) (ps 6) k n)) := by
    rw [ps_a (by rw [eA]; omega) hl, eA, ek, en]
  have q1 : psB tx len (psC tx len ps) 1 = cc_Y tx len (skB tx len a) (ps 0 2) (ps 0 5) (ps 1) (ps 2) (ps 3) (ps 4) (ps 5) (ps 6) k n := by unfold psB psC; rw [eA, ek, en]; rfl
  have q2 : psB tx len (psC tx len ps) 2 = cc_ar tx len (skB tx len a) (ps 0 2) (ps 0 5) (ps 1) (ps 2) (ps 3) (ps 4) (ps 5) (ps 6) k n := by unfold psB psC; rw [eA, ek, en]; rfl
  have q3 : psB tx len (psC tx len ps) 3 = cc_ow tx len (skB tx len a) (ps 0 2) (ps 0 5) (ps 1) (ps 2) (ps 3) (ps 4) (ps 5) (ps 6) k n := by unfold psB psC; rw [eA, ek, en]; rfl
  have q4 : psB tx len (psC tx len ps) 4 = cc_wt tx len (skB tx len a) (ps 0 2) (ps 0 5) (ps 1) (ps 2) (ps 3) (ps 4) (ps 5) (ps 6) k n := by unfold psB psC; rw [eA, ek, en]; rfl
  have q5 : psB tx len (psC tx len ps) 5 = cc_wo tx len (skB tx len a) (ps 0 2) (ps 0 5) (ps 1) (ps 2) (ps 3) (ps 4) (ps 5) (ps 6) k n := by unfold psB psC; rw [eA, ek, en]; rfl
  have q6 : psB tx len (psC tx len ps) 6 = cc_fr tx len (skB tx len a) (ps 0 2) (ps 0 5) (ps 1) (ps 2) (ps 3) (ps 4) (ps 5) (ps 6) k n := by unfold psB psC; rw [eA, ek, en]; rfl
  have hF2 : psL tx len (240 - (c + 1)) (psB tx len (psC tx len ps)) = PS := by
    rw [← hF, show 240 - c = (240 - (c + 1)) + 1 by omega, psL_t (h3.trans hf) (by rw [eA]; exact hlt)]
  have hO2 : ∀ j, (j ≤ 14 ∨ 29 ≤ j) → msN tx len a k n ms 0 j = O0 j := by
    intro j hj
    show T_X9_takeClause_O (upd (ms 0) 16 (nI (skB tx len a))) tx (ms 1) (ms 2) (ms 3) (ms 4) (ms 5) len (skB tx len a) k n j = O0 j
    rw [cO j hj, upd_ne _ _ (by omega)]; exact hO j hj
  by_cases hz : ccK tx len (skB tx len a) (ps 0 2) (ps 0 5) (ps 1) (ps 2) (ps 3) (ps 4) (ps 5) (ps 6) k n = 0
  · obtain ⟨k2, n2, z1, z2, z3, z4, z5, z6⟩ := cZ hz
    refine ⟨ccA tx len (skB tx len a) (ps 0 2) (ps 0 5) (ps 1) (ps 2) (ps 3) (ps 4) (ps 5) (ps 6) k n, k2, n2, p3.trans cR.symm, by rw [cR]; exact fK_cc, hO2, fun q => absurd (cR.trans hz) q, hF2, fun _ => ⟨?_, z2, z3, p4, ?_, ?_⟩⟩
    · have := (skB_le (tx := tx) z2).1; omega
    · rw [q1, q2, q3, q4, q5, q6, p2, z4]; exact z5
    · rw [q1, q2, q3, q4, q5, q6]; exact z6
  · refine ⟨0, 0, 0, p3.trans cR.symm, by rw [cR]; exact fK_cc, hO2, fun _ => ?_, hF2, fun q => absurd (cR.symm.trans q) hz⟩
    rw [p2]; exact cP hz

def mi0 (σ : Nat → Nat → Int32) (r : Nat) : Nat → Int32 := if r = 0 then upd (upd (upd (upd (upd (upd (σ 0) 15 (-1)) 16 0) 19 0) 22 0) 24 0) 28 0 else σ (r + 7)
theorem LoopY_0 (σ : Nat → Nat → Int32) {len : Nat} (RD Y ar ow wt wo fr : Nat → Int32) (elen : σ 0 14 = nI len) : LoopY (σ 7) (σ 0) len (psL (σ 7) len 240 (ps0 (σ 7) RD Y ar ow wt wo fr len)) 0 0 0 0 0 (mi0 σ) (ps0 (σ 7) RD Y ar ow wt wo fr len) := by
  refine ⟨rfl, fK_0, fun j hj => ?_, fun q => absurd rfl q, rfl, fun _ => ⟨Nat.zero_le _, Nat.zero_le _, rfl, rfl, ⟨⟨elen, rfl, rfl, Or.inl rfl, fun _ => ⟨rfl, rfl⟩, fun q => absurd rfl q⟩, ⟨rfl, rfl, rfl, rfl, rfl, 0, by omega, by omega, rfl⟩, fun j hj => absurd hj (by omega), fun j hj => absurd hj (by omega)⟩, ⟨⟨by omega, by omega, ⟨0, by omega, by omega, rfl⟩, ⟨0, by omega, by omega, rfl⟩⟩, fun j hj => absurd hj (by omega), fun j hj => absurd hj (by omega)⟩⟩⟩
  show (upd (upd (upd (upd (upd (upd (σ 0) 15 (-1)) 16 0) 19 0) 22 0) 24 0) 28 0) j = σ 0 j
  repeat rw [upd_ne _ _ (by omega)]
