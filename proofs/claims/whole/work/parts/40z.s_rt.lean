section TL
variable {tx O1 : Nat → Int32} {len b : Nat} {f : Int32}
def tlR (tx : Nat → Int32) (len : Nat) (f : Int32) (b : Nat) : Int32 := if f = 0 then (if ltr tx len (skB tx len b) = 59 then f else 1) else f
def tlO (tx : Nat → Int32) (len : Nat) (f : Int32) (b : Nat) (O1 : Nat → Int32) : Nat → Int32 := if f = 0 then (if ltr tx len (skB tx len b) = 59 then upd (upd O1 16 (nI (skB tx len b))) 16 (nI (skB tx len b) + 1) else upd (upd O1 16 (nI (skB tx len b))) 15 (nI (skB tx len b))) else upd O1 16 (nI b + 1)
theorem upd_ne (g : Nat → Int32) {k j : Nat} (v : Int32) (h : j ≠ k) : upd g k v j = g j := by simp [upd, h]
theorem upd_eq (g : Nat → Int32) (k : Nat) (v : Int32) : upd g k v k = v := by simp [upd]
theorem tlO_k {j : Nat} (h : j ≠ 15) (h2 : j ≠ 16) : tlO tx len f b O1 j = O1 j := by
  unfold tlO
  split
  · split
    · rw [upd_ne _ _ h2, upd_ne _ _ h2]
    · rw [upd_ne _ _ h, upd_ne _ _ h2]
  · rw [upd_ne _ _ h2]
/-- the end of a clause, by both -/
theorem tl_end {A : Nat} {K PX P : Int32} (hK : K = f) (h0 : f = 0 → A = b ∧ PX = P ∧ O1 15 = P) (h1 : ¬ f = 0 → O1 15 = PX) :
    tlR tx len f b = ceK tx len A K ∧ (¬ tlR tx len f b = 0 → tlO tx len f b O1 15 = ceP tx len A K PX) ∧ (¬ tlR tx len f b = 0 → ceR tx len A K = 0) ∧ (tlR tx len f b = 0 → f = 0 ∧ skB tx len b < len ∧ tlO tx len f b O1 16 = nI (skB tx len b + 1) ∧ tlO tx len f b O1 15 = P ∧ ceA tx len A K = skB tx len b + 1 ∧ ceP tx len A K PX = P ∧ ceR tx len A K = 1) := by
  subst hK
  unfold tlR tlO ceK ceP ceA ceR
  by_cases hf : K = 0
  · obtain ⟨hA, hP, hO⟩ := h0 hf
    subst hA
    simp only [if_pos hf]
    by_cases h59 : ltr tx len (skB tx len A) = 59
    · simp only [if_pos h59]
      refine ⟨hf, fun q => absurd hf q, fun q => absurd hf q, fun _ => ⟨hf, lt_w (by decide) h59, ?_, ?_, trivial, hP, trivial⟩⟩
      · rw [upd_eq, nI_1]
      · rw [upd_ne _ _ (by decide), upd_ne _ _ (by decide), hO]
    · simp only [if_neg h59]
      refine ⟨by trivial, fun _ => upd_eq _ _ _, fun _ => by trivial, fun q => absurd q (by decide)⟩
  · simp only [if_neg hf]
    exact ⟨by trivial, fun _ => by rw [upd_ne _ _ (by decide)]; exact h1 hf, fun _ => by trivial, fun q => absurd q hf⟩
theorem rnK_0 (a : Nat) (lo hi : Int32) : rnK tx len a 0 lo hi = rnF tx len a lo hi := rfl
theorem rnA_0 (a : Nat) : rnA tx len a 0 = edD tx len (skB tx len a) := rfl
theorem rnP_0 (a : Nat) (P lo hi : Int32) : rnP tx len a 0 P lo hi = if rnF tx len a lo hi = 0 then P else nI (skB tx len a) := rfl
theorem rnK_n {K : Int32} (h : ¬ K = 0) (a : Nat) (lo hi : Int32) : rnK tx len a K lo hi = K := if_neg h
theorem rnA_n {K : Int32} (h : ¬ K = 0) (a : Nat) : rnA tx len a K = a := if_neg h
theorem rnP_n {K : Int32} (h : ¬ K = 0) (a : Nat) (P lo hi : Int32) : rnP tx len a K P lo hi = P := if_neg h
theorem rnK_z {K : Int32} (h : K = 0) (a : Nat) (lo hi : Int32) : rnK tx len a K lo hi = rnF tx len a lo hi := if_pos h
theorem rnA_z {K : Int32} (h : K = 0) (a : Nat) : rnA tx len a K = edD tx len (skB tx len a) := if_pos h
theorem rnP_z {K : Int32} (h : K = 0) (a : Nat) (P lo hi : Int32) : rnP tx len a K P lo hi = if rnF tx len a lo hi = 0 then P else nI (skB tx len a) := if_pos h
theorem rnV_z {K lo hi : Int32} (h : K = 0) {a : Nat} (h2 : rnF tx len a lo hi = 0) : rnV tx len a K lo hi = vX tx (skB tx len a) (edD tx len (skB tx len a) - skB tx len a) := (if_pos h).trans (if_pos h2)
theorem mnP_e {a : Nat} {P lo hi : Int32} : mnP tx len a P lo hi = if rnF tx len a lo hi = 0 then P else nI (skB tx len a) := rfl
theorem rnF_le0 {a : Nat} {lo hi : Int32} : (rnF tx len a lo hi ≤ 0) = (rnF tx len a lo hi = 0) := propext ⟨rnF_le, fun h => by rw [h]; decide⟩
end TL

section MC
variable {O tx ra rh rg ro rf Y ar ow wt wo fr : Nat → Int32} {len a k n : Nat} {P na : Int32}

theorem mc_y (hw : ltr tx len (skB tx len a) = 121) (h1 : O 19 = 0) : R_X9_takeClause O tx ra rh rg ro rf len a k n = tlR tx len (R_X9_takeYard (upd (upd O 16 (nI (skB tx len a))) 16 (nI (skB tx len a + 1))) tx len (skB tx len a + 1)) ((T_X9_takeYard_O (upd (upd O 16 (nI (skB tx len a))) 16 (nI (skB tx len a + 1))) tx len (skB tx len a + 1)) 16).toNatClampNeg ∧ T_X9_takeClause_O O tx ra rh rg ro rf len a k n = tlO tx len (R_X9_takeYard (upd (upd O 16 (nI (skB tx len a))) 16 (nI (skB tx len a + 1))) tx len (skB tx len a + 1)) ((T_X9_takeYard_O (upd (upd O 16 (nI (skB tx len a))) 16 (nI (skB tx len a + 1))) tx len (skB tx len a + 1)) 16).toNatClampNeg (T_X9_takeYard_O (upd (upd O 16 (nI (skB tx len a))) 16 (nI (skB tx len a + 1))) tx len (skB tx len a + 1)) ∧ T_X9_takeClause_ra O tx ra rh rg ro rf len a k n = ra ∧ T_X9_takeClause_rh O tx ra rh rg ro rf len a k n = rh ∧ T_X9_takeClause_rg O tx ra rh rg ro rf len a k n = rg ∧ T_X9_takeClause_ro O tx ra rh rg ro rf len a k n = ro ∧ T_X9_takeClause_rf O tx ra rh rg ro rf len a k n = rf := by
  have hfu : R_X9_isFull (upd O 16 (nI (skB tx len a))) 0 = 0 := h1
  unfold R_X9_takeClause T_X9_takeClause_O T_X9_takeClause_ra T_X9_takeClause_rh T_X9_takeClause_rg T_X9_takeClause_ro T_X9_takeClause_rf tlR tlO
  simp only [hw, if_neg (show ¬ (121 : Int32) = 112 by decide), if_neg (show ¬ (121 : Int32) = 115 by decide), if_neg (show ¬ (121 : Int32) = 102 by decide), if_true, if_pos hfu, ite_self, and_self]

theorem mc_p (hw : ltr tx len (skB tx len a) = 112) (h0 : ¬ O 19 = 0) (h1 : ¬ O 22 = 5) : R_X9_takeClause O tx ra rh rg ro rf len a k n = tlR tx len (R_X9_takePerson (upd (upd O 16 (nI (skB tx len a))) 16 (nI (skB tx len a + 1))) tx ra len (skB tx len a + 1) k) ((T_X9_takePerson_O (upd (upd O 16 (nI (skB tx len a))) 16 (nI (skB tx len a + 1))) tx ra len (skB tx len a + 1) k) 16).toNatClampNeg ∧ T_X9_takeClause_O O tx ra rh rg ro rf len a k n = tlO tx len (R_X9_takePerson (upd (upd O 16 (nI (skB tx len a))) 16 (nI (skB tx len a + 1))) tx ra len (skB tx len a + 1) k) ((T_X9_takePerson_O (upd (upd O 16 (nI (skB tx len a))) 16 (nI (skB tx len a + 1))) tx ra len (skB tx len a + 1) k) 16).toNatClampNeg (T_X9_takePerson_O (upd (upd O 16 (nI (skB tx len a))) 16 (nI (skB tx len a + 1))) tx ra len (skB tx len a + 1) k) ∧ T_X9_takeClause_ra O tx ra rh rg ro rf len a k n = T_X9_takePerson_ra (upd (upd O 16 (nI (skB tx len a))) 16 (nI (skB tx len a + 1))) tx ra len (skB tx len a + 1) k ∧ T_X9_takeClause_rh O tx ra rh rg ro rf len a k n = rh ∧ T_X9_takeClause_rg O tx ra rh rg ro rf len a k n = rg ∧ T_X9_takeClause_ro O tx ra rh rg ro rf len a k n = ro ∧ T_X9_takeClause_rf O tx ra rh rg ro rf len a k n = rf := by
  have hfu : R_X9_isFull (upd O 16 (nI (skB tx len a))) 1 = 0 := if_neg h1
  unfold R_X9_takeClause T_X9_takeClause_O T_X9_takeClause_ra T_X9_takeClause_rh T_X9_takeClause_rg T_X9_takeClause_ro T_X9_takeClause_rf tlR tlO
  simp only [hw, if_neg (show ¬ (112 : Int32) = 121 by decide), if_neg (show ¬ (112 : Int32) = 115 by decide), if_neg (show ¬ (112 : Int32) = 102 by decide), if_true, if_neg h0, if_pos hfu, ite_self, and_self]

theorem mc_s (hw : ltr tx len (skB tx len a) = 115) (h0 : ¬ O 19 = 0) (h1 : ¬ O 24 = 10) : R_X9_takeClause O tx ra rh rg ro rf len a k n = tlR tx len (R_X9_takeSaying (upd (upd O 16 (nI (skB tx len a))) 16 (nI (skB tx len a + 1))) tx rh rg ro rf len (skB tx len a + 1) k n) ((T_X9_takeSaying_O (upd (upd O 16 (nI (skB tx len a))) 16 (nI (skB tx len a + 1))) tx rh rg ro rf len (skB tx len a + 1) k n) 16).toNatClampNeg ∧ T_X9_takeClause_O O tx ra rh rg ro rf len a k n = tlO tx len (R_X9_takeSaying (upd (upd O 16 (nI (skB tx len a))) 16 (nI (skB tx len a + 1))) tx rh rg ro rf len (skB tx len a + 1) k n) ((T_X9_takeSaying_O (upd (upd O 16 (nI (skB tx len a))) 16 (nI (skB tx len a + 1))) tx rh rg ro rf len (skB tx len a + 1) k n) 16).toNatClampNeg (T_X9_takeSaying_O (upd (upd O 16 (nI (skB tx len a))) 16 (nI (skB tx len a + 1))) tx rh rg ro rf len (skB tx len a + 1) k n) ∧ T_X9_takeClause_ra O tx ra rh rg ro rf len a k n = ra ∧ T_X9_takeClause_rh O tx ra rh rg ro rf len a k n = T_X9_takeSaying_rh (upd (upd O 16 (nI (skB tx len a))) 16 (nI (skB tx len a + 1))) tx rh rg ro rf len (skB tx len a + 1) k n ∧ T_X9_takeClause_rg O tx ra rh rg ro rf len a k n = T_X9_takeSaying_rg (upd (upd O 16 (nI (skB tx len a))) 16 (nI (skB tx len a + 1))) tx rh rg ro rf len (skB tx len a + 1) k n ∧ T_X9_takeClause_ro O tx ra rh rg ro rf len a k n = T_X9_takeSaying_ro (upd (upd O 16 (nI (skB tx len a))) 16 (nI (skB tx len a + 1))) tx rh rg ro rf len (skB tx len a + 1) k n ∧ T_X9_takeClause_rf O tx ra rh rg ro rf len a k n = T_X9_takeSaying_rf (upd (upd O 16 (nI (skB tx len a))) 16 (nI (skB tx len a + 1))) tx rh rg ro rf len (skB tx len a + 1) k n := by
  have hfu : R_X9_isFull (upd O 16 (nI (skB tx len a))) 2 = 0 := if_neg h1
  unfold R_X9_takeClause T_X9_takeClause_O T_X9_takeClause_ra T_X9_takeClause_rh T_X9_takeClause_rg T_X9_takeClause_ro T_X9_takeClause_rf tlR tlO
  simp only [hw, if_neg (show ¬ (115 : Int32) = 121 by decide), if_neg (show ¬ (115 : Int32) = 112 by decide), if_neg (show ¬ (115 : Int32) = 102 by decide), if_true, if_neg h0, if_pos hfu, ite_self, and_self]

theorem mc_f (hw : ltr tx len (skB tx len a) = 102) (h0 : ¬ O 19 = 0) (h1 : ¬ O 28 = 15) : R_X9_takeClause O tx ra rh rg ro rf len a k n = tlR tx len (R_X9_takeFollow (upd (upd O 16 (nI (skB tx len a))) 16 (nI (skB tx len a + 1))) tx rf len (skB tx len a + 1) n) ((T_X9_takeFollow_O (upd (upd O 16 (nI (skB tx len a))) 16 (nI (skB tx len a + 1))) tx rf len (skB tx len a + 1) n) 16).toNatClampNeg ∧ T_X9_takeClause_O O tx ra rh rg ro rf len a k n = tlO tx len (R_X9_takeFollow (upd (upd O 16 (nI (skB tx len a))) 16 (nI (skB tx len a + 1))) tx rf len (skB tx len a + 1) n) ((T_X9_takeFollow_O (upd (upd O 16 (nI (skB tx len a))) 16 (nI (skB tx len a + 1))) tx rf len (skB tx len a + 1) n) 16).toNatClampNeg (T_X9_takeFollow_O (upd (upd O 16 (nI (skB tx len a))) 16 (nI (skB tx len a + 1))) tx rf len (skB tx len a + 1) n) ∧ T_X9_takeClause_ra O tx ra rh rg ro rf len a k n = ra ∧ T_X9_takeClause_rh O tx ra rh rg ro rf len a k n = rh ∧ T_X9_takeClause_rg O tx ra rh rg ro rf len a k n = rg ∧ T_X9_takeClause_ro O tx ra rh rg ro rf len a k n = ro ∧ T_X9_takeClause_rf O tx ra rh rg ro rf len a k n = T_X9_takeFollow_rf (upd (upd O 16 (nI (skB tx len a))) 16 (nI (skB tx len a + 1))) tx rf len (skB tx len a + 1) n := by
  have hfu : R_X9_isFull (upd O 16 (nI (skB tx len a))) 3 = 0 := if_neg h1
  unfold R_X9_takeClause T_X9_takeClause_O T_X9_takeClause_ra T_X9_takeClause_rh T_X9_takeClause_rg T_X9_takeClause_ro T_X9_takeClause_rf tlR tlO
  simp only [hw, if_neg (show ¬ (102 : Int32) = 121 by decide), if_neg (show ¬ (102 : Int32) = 112 by decide), if_neg (show ¬ (102 : Int32) = 115 by decide), if_true, if_neg h0, if_pos hfu, ite_self, and_self]

end MC
