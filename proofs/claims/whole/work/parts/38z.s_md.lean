section TA
variable {O tx ra rh rg ro rf : Nat → Int32} {len a k n : Nat}
theorem ed2 (ha : a ≤ len) : edD tx len (skB tx len a) ≤ len := (edD_le (skB_le ha).2).2
theorem t0_A (ha : a ≤ len) : ∃ b, b ≤ len ∧ T_X9_takeYard_O O tx len a 16 = nI b := by
  unfold T_X9_takeYard_O; split
  · exact ⟨_, ed2 (ed2 ha), rfl⟩
  · exact ⟨_, ed2 ha, rfl⟩
theorem t1_A (ha : a ≤ len) : ∃ b, b ≤ len ∧ T_X9_takePerson_O O tx ra len a k 16 = nI b := ⟨_, ed2 ha, rfl⟩
theorem t2_A (ha : a ≤ len) : ∃ b, b ≤ len ∧ T_X9_takeSaying_O O tx rh rg ro rf len a k n 16 = nI b := by
  unfold T_X9_takeSaying_O; split
  · split
    · exact ⟨_, ed2 (ed2 (ed2 ha)), rfl⟩
    · exact ⟨_, ed2 (ed2 ha), rfl⟩
  · exact ⟨_, ed2 ha, rfl⟩
theorem t3_A (ha : a ≤ len) : ∃ b, b ≤ len ∧ T_X9_takeFollow_O O tx rf len a n 16 = nI b := by
  unfold T_X9_takeFollow_O; split
  · split
    · split
      · exact ⟨_, ed2 (ed2 ha), rfl⟩
      · split
        · exact ⟨_, ed2 (ed2 ha), rfl⟩
        · exact ⟨_, ed2 (ed2 ha), rfl⟩
    · exact ⟨_, ed2 (ed2 ha), rfl⟩
  · exact ⟨_, ed2 ha, rfl⟩
theorem t0_L : T_X9_takeYard_O O tx len a 14 = O 14 := by unfold T_X9_takeYard_O; split <;> rfl
theorem t1_L : T_X9_takePerson_O O tx ra len a k 14 = O 14 := rfl
theorem t2_L : T_X9_takeSaying_O O tx rh rg ro rf len a k n 14 = O 14 := by
  unfold T_X9_takeSaying_O; split
  · split <;> rfl
  · rfl
theorem t3_L : T_X9_takeFollow_O O tx rf len a n 14 = O 14 := by
  unfold T_X9_takeFollow_O; split
  · split
    · split
      · rfl
      · split <;> rfl
    · rfl
  · rfl
theorem full_1 (c : R_X9_isFull O 1 = 0) (e : O 22 = nI k) (hk : k ≤ 5) : k < 5 := by
  rcases Nat.lt_or_ge k 5 with q | q
  · exact q
  · have e5 : k = 5 := by omega
    unfold R_X9_isFull at c
    rw [if_neg (by decide), if_pos rfl, if_pos (by rw [e, e5]; rfl)] at c
    exact absurd c (by decide)
theorem full_2 (c : R_X9_isFull O 2 = 0) (e : O 24 = nI n) (hn : n ≤ 10) : n < 10 := by
  rcases Nat.lt_or_ge n 10 with q | q
  · exact q
  · have e5 : n = 10 := by omega
    unfold R_X9_isFull at c
    rw [if_neg (by decide), if_neg (by decide), if_pos rfl, if_pos (by rw [e, e5]; rfl)] at c
    exact absurd c (by decide)
end TA
