theorem iN_v {tx : Nat → Int32} {len a lo hi : Nat} (hl : lo < 2 ^ 30) (hh : hi < 2 ^ 30) (h : rnF tx len a (nI lo) (nI hi) = 0) : iN lo hi (vX tx (skB tx len a) (edD tx len (skB tx len a) - skB tx len a)) := by
  obtain ⟨_, _, h3, h4⟩ := rnF_in h
  exact iN_of hl hh h3 h4
section NU
variable {O tx ra rh rg ro rf fr : Nat → Int32} {len d k n : Nat} {P : Int32}
theorem ed_ge (hd : d ≤ len) : d ≤ edD tx len (skB tx len d) := Nat.le_trans (skB_le hd).1 (edD_le (skB_le hd).2).1

theorem num_y (hd : d ≤ len) (hl : len ≤ 240) (hP : O 15 = P) : rnK tx len (rnA tx len d 0) (rnK tx len d 0 0 99) 0 20 = R_X9_takeYard O tx len d ∧ (R_X9_takeYard O tx len d = 0 → rnA tx len (rnA tx len d 0) (rnK tx len d 0 0 99) = (T_X9_takeYard_O O tx len d 16).toNatClampNeg ∧ rnP tx len (rnA tx len d 0) (rnK tx len d 0 0 99) (rnP tx len d 0 P 0 99) 0 20 = P ∧ T_X9_takeYard_O O tx len d 15 = P ∧ d ≤ (T_X9_takeYard_O O tx len d 16).toNatClampNeg ∧ (T_X9_takeYard_O O tx len d 16).toNatClampNeg ≤ len ∧ T_X9_takeYard_O O tx len d 20 = rnV tx len d 0 0 99 ∧ T_X9_takeYard_O O tx len d 21 = rnV tx len (rnA tx len d 0) (rnK tx len d 0 0 99) 0 20 ∧ iN 0 99 (rnV tx len d 0 0 99) ∧ iN 0 20 (rnV tx len (rnA tx len d 0) (rnK tx len d 0 0 99) 0 20)) ∧ (¬ R_X9_takeYard O tx len d = 0 → T_X9_takeYard_O O tx len d 15 = rnP tx len (rnA tx len d 0) (rnK tx len d 0 0 99) (rnP tx len d 0 P 0 99) 0 20) := by
  have l1 := ed2 (tx := tx) hd
  have l2 := ed2 (tx := tx) l1
  have g1 := ed_ge (tx := tx) hd
  have g2 := ed_ge (tx := tx) l1
  rw [rnK_0, rnA_0, rnP_0]
  by_cases h1 : rnF tx len d 0 99 = 0
  · have c : rnF tx len d 0 99 ≤ 0 := by rw [h1]; decide
    have e : R_X9_takeYard O tx len d = rnF tx len (edD tx len (skB tx len d)) 0 20 := if_pos c
    have t16 : T_X9_takeYard_O O tx len d 16 = nI (edD tx len (skB tx len (edD tx len (skB tx len d)))) := by unfold T_X9_takeYard_O; rw [if_pos c]; rfl
    have t15 : T_X9_takeYard_O O tx len d 15 = mnP tx len (edD tx len (skB tx len d)) (mnP tx len d (O 15) 0 99) 0 20 := by unfold T_X9_takeYard_O; rw [if_pos c]; rfl
    have t20 : T_X9_takeYard_O O tx len d 20 = mnV tx len d (O 17) := by unfold T_X9_takeYard_O; rw [if_pos c]; rfl
    have t21 : T_X9_takeYard_O O tx len d 21 = mnV tx len (edD tx len (skB tx len d)) (mnV tx len d (O 17)) := by unfold T_X9_takeYard_O; rw [if_pos c]; rfl
    have b16 : (T_X9_takeYard_O O tx len d 16).toNatClampNeg = (edD tx len (skB tx len (edD tx len (skB tx len d)))) := by rw [t16]; exact nI_clamp (by omega)
    rw [rnK_z h1, rnA_z h1, rnP_z h1, if_pos h1, b16, t15, t20, t21, e, mnP_e, mnP_e, if_pos h1, hP]
    refine ⟨rfl, fun h2 => ⟨rfl, if_pos h2, if_pos h2, by omega, l2, ?_, ?_, ?_, ?_⟩, fun _ => rfl⟩
    · rw [mnV_e hd h1, rnV_z rfl h1]
    · rw [mnV_e l1 h2, rnV_z h1 h2]
    · rw [rnV_z rfl h1]; exact iN_v (lo := 0) (hi := 99) (by decide) (by decide) h1
    · rw [rnV_z h1 h2]; exact iN_v (lo := 0) (hi := 20) (by decide) (by decide) h2
  · have c : ¬ rnF tx len d 0 99 ≤ 0 := fun q => h1 (rnF_le q)
    have e : R_X9_takeYard O tx len d = rnF tx len d 0 99 := if_neg c
    have t15 : T_X9_takeYard_O O tx len d 15 = mnP tx len d (O 15) 0 99 := by unfold T_X9_takeYard_O; rw [if_neg c]; rfl
    rw [rnK_n h1, rnP_n h1, t15, e, mnP_e, hP]
    exact ⟨rfl, fun q => absurd q h1, fun _ => rfl⟩

theorem num_p (hd : d ≤ len) (hl : len ≤ 240) (hP : O 15 = P) : rnK tx len d 0 1 9 = R_X9_takePerson O tx ra len d k ∧ (R_X9_takePerson O tx ra len d k = 0 → rnA tx len d 0 = (T_X9_takePerson_O O tx ra len d k 16).toNatClampNeg ∧ rnP tx len d 0 P 1 9 = P ∧ T_X9_takePerson_O O tx ra len d k 15 = P ∧ d ≤ (T_X9_takePerson_O O tx ra len d k 16).toNatClampNeg ∧ (T_X9_takePerson_O O tx ra len d k 16).toNatClampNeg ≤ len ∧ T_X9_takePerson_ra O tx ra len d k = upd ra k (rnV tx len d 0 1 9) ∧ iN 1 9 (rnV tx len d 0 1 9)) ∧ (¬ R_X9_takePerson O tx ra len d k = 0 → T_X9_takePerson_O O tx ra len d k 15 = rnP tx len d 0 P 1 9) := by
  have l1 := ed2 (tx := tx) hd
  have g1 := ed_ge (tx := tx) hd
  have e : R_X9_takePerson O tx ra len d k = rnF tx len d 1 9 := rfl
  have t16 : T_X9_takePerson_O O tx ra len d k 16 = nI (edD tx len (skB tx len d)) := rfl
  have t15 : T_X9_takePerson_O O tx ra len d k 15 = mnP tx len d (O 15) 1 9 := rfl
  have b16 : (T_X9_takePerson_O O tx ra len d k 16).toNatClampNeg = (edD tx len (skB tx len d)) := by rw [t16]; exact nI_clamp (by omega)
  rw [rnK_0, rnA_0, rnP_0, b16, t15, e, mnP_e, hP]
  refine ⟨rfl, fun h1 => ⟨rfl, if_pos h1, if_pos h1, g1, l1, ?_, ?_⟩, fun _ => rfl⟩
  · rw [rnV_z rfl h1, ← mnV_e (nu := O 17) hd h1]; rfl
  · rw [rnV_z rfl h1]; exact iN_v (lo := 1) (hi := 9) (by decide) (by decide) h1

theorem num_s (hd : d ≤ len) (hl : len ≤ 240) (hk : k ≤ 5) (hP : O 15 = P) : rnK tx len (rnA tx len (rnA tx len d 0) (rnK tx len d 0 0 (nI k - 1))) (rnK tx len (rnA tx len d 0) (rnK tx len d 0 0 (nI k - 1)) 1 20) 0 99 = R_X9_takeSaying O tx rh rg ro rf len d k n ∧ (R_X9_takeSaying O tx rh rg ro rf len d k n = 0 → rnA tx len (rnA tx len (rnA tx len d 0) (rnK tx len d 0 0 (nI k - 1))) (rnK tx len (rnA tx len d 0) (rnK tx len d 0 0 (nI k - 1)) 1 20) = (T_X9_takeSaying_O O tx rh rg ro rf len d k n 16).toNatClampNeg ∧ rnP tx len (rnA tx len (rnA tx len d 0) (rnK tx len d 0 0 (nI k - 1))) (rnK tx len (rnA tx len d 0) (rnK tx len d 0 0 (nI k - 1)) 1 20) (rnP tx len (rnA tx len d 0) (rnK tx len d 0 0 (nI k - 1)) (rnP tx len d 0 P 0 (nI k - 1)) 1 20) 0 99 = P ∧ T_X9_takeSaying_O O tx rh rg ro rf len d k n 15 = P ∧ d ≤ (T_X9_takeSaying_O O tx rh rg ro rf len d k n 16).toNatClampNeg ∧ (T_X9_takeSaying_O O tx rh rg ro rf len d k n 16).toNatClampNeg ≤ len ∧ T_X9_takeSaying_rh O tx rh rg ro rf len d k n = upd rh n (rnV tx len d 0 0 (nI k - 1)) ∧ T_X9_takeSaying_rg O tx rh rg ro rf len d k n = upd rg n (rnV tx len (rnA tx len d 0) (rnK tx len d 0 0 (nI k - 1)) 1 20) ∧ T_X9_takeSaying_ro O tx rh rg ro rf len d k n = upd ro n (rnV tx len (rnA tx len (rnA tx len d 0) (rnK tx len d 0 0 (nI k - 1))) (rnK tx len (rnA tx len d 0) (rnK tx len d 0 0 (nI k - 1)) 1 20) 0 99) ∧ T_X9_takeSaying_rf O tx rh rg ro rf len d k n = upd rf n 0 ∧ (∃ p, p < k ∧ rnV tx len d 0 0 (nI k - 1) = nI p) ∧ iN 1 20 (rnV tx len (rnA tx len d 0) (rnK tx len d 0 0 (nI k - 1)) 1 20) ∧ iN 0 99 (rnV tx len (rnA tx len (rnA tx len d 0) (rnK tx len d 0 0 (nI k - 1))) (rnK tx len (rnA tx len d 0) (rnK tx len d 0 0 (nI k - 1)) 1 20) 0 99)) ∧ (¬ R_X9_takeSaying O tx rh rg ro rf len d k n = 0 → T_X9_takeSaying_O O tx rh rg ro rf len d k n 15 = rnP tx len (rnA tx len (rnA tx len d 0) (rnK tx len d 0 0 (nI k - 1))) (rnK tx len (rnA tx len d 0) (rnK tx len d 0 0 (nI k - 1)) 1 20) (rnP tx len (rnA tx len d 0) (rnK tx len d 0 0 (nI k - 1)) (rnP tx len d 0 P 0 (nI k - 1)) 1 20) 0 99) := by
  have l1 := ed2 (tx := tx) hd
  have l2 := ed2 (tx := tx) l1
  have l3 := ed2 (tx := tx) l2
  have g1 := ed_ge (tx := tx) hd
  have g2 := ed_ge (tx := tx) l1
  have g3 := ed_ge (tx := tx) l2
  rw [rnK_0, rnA_0, rnP_0]
  by_cases h1 : rnF tx len d 0 (nI k - 1) = 0
  · have c1 : rnF tx len d 0 (nI k - 1) ≤ 0 := by rw [h1]; decide
    by_cases h2 : rnF tx len (edD tx len (skB tx len d)) 1 20 = 0
    · have c2 : rnF tx len (edD tx len (skB tx len d)) 1 20 ≤ 0 := by rw [h2]; decide
      have e : R_X9_takeSaying O tx rh rg ro rf len d k n = rnF tx len (edD tx len (skB tx len (edD tx len (skB tx len d)))) 0 99 := (if_pos c1).trans (if_pos c2)
      have t16 : T_X9_takeSaying_O O tx rh rg ro rf len d k n 16 = nI (edD tx len (skB tx len (edD tx len (skB tx len (edD tx len (skB tx len d)))))) := by unfold T_X9_takeSaying_O; rw [if_pos c1, if_pos c2]; rfl
      have t15 : T_X9_takeSaying_O O tx rh rg ro rf len d k n 15 = mnP tx len (edD tx len (skB tx len (edD tx len (skB tx len d)))) (mnP tx len (edD tx len (skB tx len d)) (mnP tx len d (O 15) 0 (nI k - 1)) 1 20) 0 99 := by unfold T_X9_takeSaying_O; rw [if_pos c1, if_pos c2]; rfl
      have b16 : (T_X9_takeSaying_O O tx rh rg ro rf len d k n 16).toNatClampNeg = (edD tx len (skB tx len (edD tx len (skB tx len (edD tx len (skB tx len d)))))) := by rw [t16]; exact nI_clamp (by omega)
      simp only [rnK_z h1, rnA_z h1, rnP_z h1, if_pos h1, rnK_z h2, rnA_z h2, rnP_z h2, if_pos h2]
      rw [b16, t15, e, mnP_e, mnP_e, mnP_e, if_pos h1, if_pos h2, hP]
      refine ⟨rfl, fun h3 => ⟨rfl, if_pos h3, if_pos h3, by omega, l3, ?_, ?_, ?_, ?_, ?_, ?_, ?_⟩, fun _ => rfl⟩
      · rw [rnV_z rfl h1, ← mnV_e (nu := O 17) hd h1]; unfold T_X9_takeSaying_rh; rw [if_pos c1, if_pos c2]
      · rw [rnV_z h1 h2, ← mnV_e (nu := mnV tx len d (O 17)) l1 h2]; unfold T_X9_takeSaying_rg; rw [if_pos c1, if_pos c2]
      · rw [rnV_z h2 h3, ← mnV_e (nu := mnV tx len (edD tx len (skB tx len d)) (mnV tx len d (O 17))) l2 h3]; unfold T_X9_takeSaying_ro; rw [if_pos c1, if_pos c2]
      · unfold T_X9_takeSaying_rf; rw [if_pos c1, if_pos c2]
      · rw [rnV_z rfl h1]; obtain ⟨_, _, q3, q4⟩ := rnF_in h1; exact rg_n (by omega) q3 q4
      · rw [rnV_z h1 h2]; exact iN_v (lo := 1) (hi := 20) (by decide) (by decide) h2
      · rw [rnV_z h2 h3]; exact iN_v (lo := 0) (hi := 99) (by decide) (by decide) h3
    · have c2 : ¬ rnF tx len (edD tx len (skB tx len d)) 1 20 ≤ 0 := fun q => h2 (rnF_le q)
      have e : R_X9_takeSaying O tx rh rg ro rf len d k n = rnF tx len (edD tx len (skB tx len d)) 1 20 := (if_pos c1).trans (if_neg c2)
      have t15 : T_X9_takeSaying_O O tx rh rg ro rf len d k n 15 = mnP tx len (edD tx len (skB tx len d)) (mnP tx len d (O 15) 0 (nI k - 1)) 1 20 := by unfold T_X9_takeSaying_O; rw [if_pos c1, if_neg c2]; rfl
      simp only [rnK_z h1, rnA_z h1, rnP_z h1, if_pos h1, rnK_n h2, rnP_n h2]
      rw [t15, e, mnP_e, mnP_e, if_pos h1, hP]
      exact ⟨rfl, fun q => absurd q h2, fun _ => rfl⟩
  · have c1 : ¬ rnF tx len d 0 (nI k - 1) ≤ 0 := fun q => h1 (rnF_le q)
    have e : R_X9_takeSaying O tx rh rg ro rf len d k n = rnF tx len d 0 (nI k - 1) := if_neg c1
    have t15 : T_X9_takeSaying_O O tx rh rg ro rf len d k n 15 = mnP tx len d (O 15) 0 (nI k - 1) := by unfold T_X9_takeSaying_O; rw [if_neg c1]; rfl
    simp only [rnK_n h1, rnP_n h1]
    rw [t15, e, mnP_e, hP]
    exact ⟨rfl, fun q => absurd q h1, fun _ => rfl⟩

theorem num_f {na : Int32} (hd : d ≤ len) (hl : len ≤ 240) (hn : n ≤ 10) (hP : O 15 = P) (hr : ∀ j, j < n → rf j = fr j) : lkK fr (rnK tx len (rnA tx len d 0) (rnK tx len d 0 0 (nI n - 1)) 0 (nI n - 1)) (rnV tx len d 0 0 (nI n - 1)) (rnV tx len (rnA tx len d 0) (rnK tx len d 0 0 (nI n - 1)) 0 (nI n - 1)) = R_X9_takeFollow O tx rf len d n ∧ (R_X9_takeFollow O tx rf len d n = 0 → (rnA tx len (rnA tx len d 0) (rnK tx len d 0 0 (nI n - 1))) = (T_X9_takeFollow_O O tx rf len d n 16).toNatClampNeg ∧ lkP fr (rnK tx len (rnA tx len d 0) (rnK tx len d 0 0 (nI n - 1)) 0 (nI n - 1)) (rnV tx len d 0 0 (nI n - 1)) (rnV tx len (rnA tx len d 0) (rnK tx len d 0 0 (nI n - 1)) 0 (nI n - 1)) (rnP tx len (rnA tx len d 0) (rnK tx len d 0 0 (nI n - 1)) (rnP tx len d 0 P 0 (nI n - 1)) 0 (nI n - 1)) (rnN tx len (rnA tx len d 0) (rnK tx len d 0 0 (nI n - 1)) (rnN tx len d 0 na)) = P ∧ T_X9_takeFollow_O O tx rf len d n 15 = P ∧ d ≤ (T_X9_takeFollow_O O tx rf len d n 16).toNatClampNeg ∧ (T_X9_takeFollow_O O tx rf len d n 16).toNatClampNeg ≤ len ∧ ∃ p s, p < s ∧ s < n ∧ (rnV tx len d 0 0 (nI n - 1)).toNatClampNeg = p ∧ (rnV tx len (rnA tx len d 0) (rnK tx len d 0 0 (nI n - 1)) 0 (nI n - 1)).toNatClampNeg = s ∧ T_X9_takeFollow_rf O tx rf len d n = upd rf s (rf s ||| ((1 : Int32) <<< (nI p &&& 31)))) ∧ (¬ R_X9_takeFollow O tx rf len d n = 0 → T_X9_takeFollow_O O tx rf len d n 15 = lkP fr (rnK tx len (rnA tx len d 0) (rnK tx len d 0 0 (nI n - 1)) 0 (nI n - 1)) (rnV tx len d 0 0 (nI n - 1)) (rnV tx len (rnA tx len d 0) (rnK tx len d 0 0 (nI n - 1)) 0 (nI n - 1)) (rnP tx len (rnA tx len d 0) (rnK tx len d 0 0 (nI n - 1)) (rnP tx len d 0 P 0 (nI n - 1)) 0 (nI n - 1)) (rnN tx len (rnA tx len d 0) (rnK tx len d 0 0 (nI n - 1)) (rnN tx len d 0 na))) := by
  have l1 := ed2 (tx := tx) hd
  have l2 := ed2 (tx := tx) l1
  have g1 := ed_ge (tx := tx) hd
  have g2 := ed_ge (tx := tx) l1
  rw [rnK_0, rnA_0, rnP_0]
  by_cases h1 : rnF tx len d 0 (nI n - 1) = 0
  · have c1 : rnF tx len d 0 (nI n - 1) ≤ 0 := by rw [h1]; decide
    by_cases h2 : rnF tx len (edD tx len (skB tx len d)) 0 (nI n - 1) = 0
    · have c2 : rnF tx len (edD tx len (skB tx len d)) 0 (nI n - 1) ≤ 0 := by rw [h2]; decide
      obtain ⟨p, hp, ep⟩ := mk_v (O 17) hn hd c1
      obtain ⟨s, hs, es⟩ := mk_v (mnV tx len d (O 17)) hn l1 c2
      have v1 : rnV tx len d 0 0 (nI n - 1) = nI p := by rw [rnV_z rfl h1, ← mnV_e (nu := O 17) hd h1]; exact ep
      have v2 : rnV tx len (edD tx len (skB tx len d)) (rnF tx len d 0 (nI n - 1)) 0 (nI n - 1) = nI s := by rw [rnV_z h1 h2, ← mnV_e (nu := (mnV tx len d (O 17))) l1 h2]; exact es
      have n2 : rnN tx len (edD tx len (skB tx len d)) (rnF tx len d 0 (nI n - 1)) (rnN tx len d 0 na) = nI (skB tx len (edD tx len (skB tx len d))) := if_pos h1
      have m2 : mnN tx len (edD tx len (skB tx len d)) (mnN tx len d (O 18)) = nI (skB tx len (edD tx len (skB tx len d))) := mnN_e h2
      have cp : (nI p).toNatClampNeg = p := nI_clamp (by omega)
      have cs : (nI s).toNatClampNeg = s := nI_clamp (by omega)
      have eR : R_X9_takeFollow O tx rf len d n = if nI s ≤ nI p then 4 else (if hasB (rf s) (nI p) then 4 else 0) := by
        unfold R_X9_takeFollow; rw [if_pos c1, if_pos c2, es, ep, cp, cs]
      have t16 : T_X9_takeFollow_O O tx rf len d n 16 = nI (edD tx len (skB tx len (edD tx len (skB tx len d)))) := by
        unfold T_X9_takeFollow_O; rw [if_pos c1, if_pos c2, es, ep, cp, cs]
        split
        · rfl
        · split <;> rfl
      have t15 : T_X9_takeFollow_O O tx rf len d n 15 = if nI s ≤ nI p then nI (skB tx len (edD tx len (skB tx len d))) else (if hasB (rf s) (nI p) then nI (skB tx len (edD tx len (skB tx len d))) else P) := by
        unfold T_X9_takeFollow_O; rw [if_pos c1, if_pos c2, es, ep, cp, cs, m2]
        split
        · rfl
        · split
          · rfl
          · rw [upd_eq, mnP_e, mnP_e, if_pos h1, if_pos h2, hP]
      have t12 : T_X9_takeFollow_rf O tx rf len d n = if nI s ≤ nI p then rf else (if hasB (rf s) (nI p) then rf else upd rf s (rf s ||| ((1 : Int32) <<< (nI p &&& 31)))) := by
        unfold T_X9_takeFollow_rf; rw [if_pos c1, if_pos c2, es, ep, cp, cs]
      have b16 : (T_X9_takeFollow_O O tx rf len d n 16).toNatClampNeg = (edD tx len (skB tx len (edD tx len (skB tx len d)))) := by rw [t16]; exact nI_clamp (by omega)
      simp only [rnK_z h1, rnA_z h1, rnP_z h1, if_pos h1, v1, v2, n2, lkK, lkP, if_pos h2, cs, cp]
      rw [b16, t15, eR, t12, hr s hs]
      refine ⟨rfl, fun q => ?_, fun q => ?_⟩
      · by_cases z1 : nI s ≤ nI p
        · rw [if_pos z1] at q; exact absurd q (by decide)
        · rw [if_neg z1] at q
          by_cases z2 : hasB (fr s) (nI p)
          · rw [if_pos z2] at q; exact absurd q (by decide)
          · have hps : p < s := cl_in (by omega) (by omega) z1
            exact ⟨rfl, by rw [if_neg z1, if_neg z2], by rw [if_neg z1, if_neg z2], by omega, l2, p, s, hps, hs, rfl, rfl, by rw [if_neg z1, if_neg z2, hr s hs]⟩
      · rfl
    · have c2 : ¬ rnF tx len (edD tx len (skB tx len d)) 0 (nI n - 1) ≤ 0 := fun q => h2 (rnF_le q)
      have e : R_X9_takeFollow O tx rf len d n = rnF tx len (edD tx len (skB tx len d)) 0 (nI n - 1) := (if_pos c1).trans (if_neg c2)
      have t15 : T_X9_takeFollow_O O tx rf len d n 15 = mnP tx len (edD tx len (skB tx len d)) (mnP tx len d (O 15) 0 (nI n - 1)) 0 (nI n - 1) := by unfold T_X9_takeFollow_O; rw [if_pos c1, if_neg c2]; rfl
      simp only [rnK_z h1, rnA_z h1, rnP_z h1, if_pos h1, lkK, lkP, if_neg h2]
      rw [t15, e, mnP_e, mnP_e, if_pos h1, hP]
      exact ⟨rfl, fun q => absurd q h2, fun _ => (if_neg h2)⟩
  · have c1 : ¬ rnF tx len d 0 (nI n - 1) ≤ 0 := fun q => h1 (rnF_le q)
    have e : R_X9_takeFollow O tx rf len d n = rnF tx len d 0 (nI n - 1) := if_neg c1
    have t15 : T_X9_takeFollow_O O tx rf len d n 15 = mnP tx len d (O 15) 0 (nI n - 1) := by unfold T_X9_takeFollow_O; rw [if_neg c1]; rfl
    simp only [rnK_n h1, rnP_n h1, lkK, lkP, if_neg h1]
    rw [t15, e, mnP_e, hP]
    exact ⟨rfl, fun q => absurd q h1, fun _ => if_neg h1⟩

end NU
