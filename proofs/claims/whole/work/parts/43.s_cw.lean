section KP2
variable {O tx ra rh rg ro rf : Nat → Int32} {len a k n j : Nat}
theorem t0_kp (h : j ≤ 14 ∨ 22 ≤ j) : T_X9_takeYard_O O tx len a j = O j := by
  unfold T_X9_takeYard_O; split <;> repeat rw [upd_ne _ _ (by omega)]
theorem t1_kp (h : j ≤ 14 ∨ 19 ≤ j) (h2 : j ≠ 22) : T_X9_takePerson_O O tx ra len a k j = O j := by
  unfold T_X9_takePerson_O; repeat rw [upd_ne _ _ (by omega)]
theorem t2_kp (h : j ≤ 14 ∨ 19 ≤ j) (h2 : j ≠ 24) : T_X9_takeSaying_O O tx rh rg ro rf len a k n j = O j := by
  unfold T_X9_takeSaying_O; split
  · split <;> repeat rw [upd_ne _ _ (by omega)]
  · repeat rw [upd_ne _ _ (by omega)]
theorem t3_kp (h : j ≤ 14 ∨ 19 ≤ j) (h2 : j ≠ 28) : T_X9_takeFollow_O O tx rf len a n j = O j := by
  unfold T_X9_takeFollow_O; split
  · split
    · split
      · repeat rw [upd_ne _ _ (by omega)]
      · split <;> repeat rw [upd_ne _ _ (by omega)]
    · repeat rw [upd_ne _ _ (by omega)]
  · repeat rw [upd_ne _ _ (by omega)]
theorem t0_19 : T_X9_takeYard_O O tx len a 19 = 1 := by
  unfold T_X9_takeYard_O; split <;> rfl
theorem t1_22 : T_X9_takePerson_O O tx ra len a k 22 = nI k + 1 := rfl
theorem t2_24 : T_X9_takeSaying_O O tx rh rg ro rf len a k n 24 = nI n + 1 := by
  unfold T_X9_takeSaying_O; split
  · split <;> rfl
  · rfl
theorem t3_28 : T_X9_takeFollow_O O tx rf len a n 28 = O 28 + 1 := by
  unfold T_X9_takeFollow_O; split
  · split
    · split
      · rfl
      · split <;> rfl
    · rfl
  · rfl
theorem add50 (x : Int32) : x = x - 50 + 50 := by simp
end KP2

section CW
variable {O tx ra rh rg ro rf Y ar ow wt wo fr : Nat → Int32} {len a k n : Nat} {P na : Int32}

theorem cl_y (ha : a ≤ len) (hl : len ≤ 240) (hw : ltr tx len (skB tx len a) = 121) (hR : RelC len O ra rh rg ro rf Y ar ow wt wo fr k n P) (hB : BndC Y ar ow wt wo fr k n) : ClP O tx ra rh rg ro rf Y ar ow wt wo fr len a k n P na := by
  obtain ⟨⟨r14, r15, r19, rvb, r0, r1⟩, ⟨r22, y3, r24, y5, r28, y10⟩, rar, rrows⟩ := hR
  obtain ⟨⟨hk, hn, b1, b2⟩, bar, brows⟩ := hB
  have hlt := lt_w (by decide) hw
  by_cases hY : ¬ Y 0 = 0
  · exact cl_y0 hw (by rw [r19]; exact hY) r19
  have hY : Y 0 = 0 := Decidable.not_not.mp hY
  have h19 : O 19 = 0 := r19.trans hY
  have hf : fwN Y 121 = 0 := by unfold fwN; rw [if_pos rfl, if_pos hY]
  obtain ⟨eR, eO, e1, e2, e3, e4, e5⟩ := mc_y (ra := ra) (rh := rh) (rg := rg) (ro := ro) (rf := rf) (k := k) (n := n) hw h19
  obtain ⟨xK, xA, xP, xY, x1, x2, x3, x4, x5⟩ := xc_y (P := P) (na := na) (ar := ar) (ow := ow) (wt := wt) (wo := wo) (fr := fr) (k := k) (n := n) hw hf
  obtain ⟨nK, n0, n1⟩ := num_y (O := (upd (upd O 16 (nI (skB tx len a))) 16 (nI (skB tx len a + 1)))) (tx := tx) (len := len) (d := (skB tx len a + 1)) (P := P) (by omega) hl r15
  obtain ⟨t1, t2, t3, t4⟩ := tl_end (tx := tx) (len := len) (b := ((T_X9_takeYard_O (upd (upd O 16 (nI (skB tx len a))) 16 (nI (skB tx len a + 1))) tx len (skB tx len a + 1)) 16).toNatClampNeg) (O1 := (T_X9_takeYard_O (upd (upd O 16 (nI (skB tx len a))) 16 (nI (skB tx len a + 1))) tx len (skB tx len a + 1))) nK (fun h => ⟨(n0 h).1, (n0 h).2.1, (n0 h).2.2.1⟩) n1
  unfold ClP
  rw [eR, eO, e1, e2, e3, e4, e5, xK, xA, xP, xY, x1, x2, x3, x4, x5]
  refine ⟨t1, fun j hj => ?_, fun h => t2 (by rw [t1]; exact h), fun h => ?_⟩
  · rw [tlO_k (by omega) (by omega), t0_kp (by omega), upd_ne _ _ (by omega), upd_ne _ _ (by omega)]
  · obtain ⟨hf0, hlt2, e16, e15, eA, eP, eC⟩ := t4 (t1.trans h)
    obtain ⟨_, _, _, g1, g2, nx⟩ := n0 hf0
    have hsk := skB_le (tx := tx) g2
    have z1 : ¬ (1 : Int32) = 0 := by decide
    simp only [eC, if_neg z1]
    obtain ⟨v20, v21, i1, i2⟩ := nx
    refine ⟨k, n, by rw [eA]; omega, by rw [eA]; omega, by rw [e16, eA], eP, ⟨⟨?_, e15, ?_, Or.inr rfl, fun q => absurd (show (1 : Int32) = 0 from q) (by decide), fun _ => ⟨?_, ?_⟩⟩, ⟨?_, y3, ?_, y5, ?_, y10⟩, rar, rrows⟩, ⟨⟨hk, hn, i1, i2⟩, bar, brows⟩⟩
    · rw [tlO_k (by decide) (by decide), t0_kp (by decide), upd_ne _ _ (by decide), upd_ne _ _ (by decide)]; exact r14
    · rw [tlO_k (by decide) (by decide), t0_19]; rfl
    · rw [tlO_k (by decide) (by decide)]; exact v20
    · rw [tlO_k (by decide) (by decide)]; exact v21
    · rw [tlO_k (by decide) (by decide), t0_kp (by decide), upd_ne _ _ (by decide), upd_ne _ _ (by decide)]; exact r22
    · rw [tlO_k (by decide) (by decide), t0_kp (by decide), upd_ne _ _ (by decide), upd_ne _ _ (by decide)]; exact r24
    · rw [tlO_k (by decide) (by decide), t0_kp (by decide), upd_ne _ _ (by decide), upd_ne _ _ (by decide)]; exact r28

theorem cl_p (ha : a ≤ len) (hl : len ≤ 240) (hw : ltr tx len (skB tx len a) = 112) (hR : RelC len O ra rh rg ro rf Y ar ow wt wo fr k n P) (hB : BndC Y ar ow wt wo fr k n) : ClP O tx ra rh rg ro rf Y ar ow wt wo fr len a k n P na := by
  obtain ⟨⟨r14, r15, r19, rvb, r0, r1⟩, ⟨r22, y3, r24, y5, r28, y10⟩, rar, rrows⟩ := hR
  obtain ⟨⟨hk, hn, b1, b2⟩, bar, brows⟩ := hB
  have hlt := lt_w (by decide) hw
  by_cases hY : Y 0 = 0
  · exact cl_p0 hw (r19.trans hY) r19
  have h19 : ¬ O 19 = 0 := by rw [r19]; exact hY
  by_cases h5 : k = 5
  · refine cl_p1 hw h19 r19 (by rw [r22, h5]; rfl) ?_
    unfold fwN; rw [if_neg (by decide), if_pos rfl, if_neg hY, if_pos (by rw [y3, h5]; decide)]
  have h22 : ¬ O 22 = 5 := by rw [r22]; exact fun q => h5 ((nI_eq (b := 5) (by omega) (by decide)).mp q)
  have hf : fwN Y 112 = 0 := by
    unfold fwN; rw [if_neg (by decide), if_pos rfl, if_neg hY, if_neg (by rw [y3]; exact fun q => h5 (by have := (nI_leI (a := 5) (by decide) (by omega)).mp q; omega))]
  obtain ⟨eR, eO, e1, e2, e3, e4, e5⟩ := mc_p (ra := ra) (rh := rh) (rg := rg) (ro := ro) (rf := rf) (k := k) (n := n) hw h19 h22
  obtain ⟨xK, xA, xP, xY, x1, x2, x3, x4, x5⟩ := xc_p (P := P) (na := na) (ar := ar) (ow := ow) (wt := wt) (wo := wo) (fr := fr) (k := k) (n := n) hw hf
  obtain ⟨nK, n0, n1⟩ := num_p (ra := ra) (k := k) (O := (upd (upd O 16 (nI (skB tx len a))) 16 (nI (skB tx len a + 1)))) (tx := tx) (len := len) (d := (skB tx len a + 1)) (P := P) (by omega) hl r15
  obtain ⟨t1, t2, t3, t4⟩ := tl_end (tx := tx) (len := len) (b := ((T_X9_takePerson_O (upd (upd O 16 (nI (skB tx len a))) 16 (nI (skB tx len a + 1))) tx ra len (skB tx len a + 1) k) 16).toNatClampNeg) (O1 := (T_X9_takePerson_O (upd (upd O 16 (nI (skB tx len a))) 16 (nI (skB tx len a + 1))) tx ra len (skB tx len a + 1) k)) nK (fun h => ⟨(n0 h).1, (n0 h).2.1, (n0 h).2.2.1⟩) n1
  unfold ClP
  rw [eR, eO, e1, e2, e3, e4, e5, xK, xA, xP, xY, x1, x2, x3, x4, x5]
  refine ⟨t1, fun j hj => ?_, fun h => t2 (by rw [t1]; exact h), fun h => ?_⟩
  · rw [tlO_k (by omega) (by omega), t1_kp (by omega) (by omega), upd_ne _ _ (by omega), upd_ne _ _ (by omega)]
  · obtain ⟨hf0, hlt2, e16, e15, eA, eP, eC⟩ := t4 (t1.trans h)
    obtain ⟨_, _, _, g1, g2, nx⟩ := n0 hf0
    have hsk := skB_le (tx := tx) g2
    have z1 : ¬ (1 : Int32) = 0 := by decide
    simp only [eC, if_neg z1]
    obtain ⟨v1, i1⟩ := nx
    refine ⟨k + 1, n, by rw [eA]; omega, by rw [eA]; omega, by rw [e16, eA], eP, ⟨⟨?_, e15, ?_, rvb, r0, fun q => ⟨?_, ?_⟩⟩, ⟨?_, ?_, ?_, y5, ?_, y10⟩, ?_, rrows⟩, ⟨⟨by omega, hn, b1, b2⟩, ?_, ?_⟩⟩
    · rw [tlO_k (by decide) (by decide), t1_kp (by decide) (by decide), upd_ne _ _ (by decide), upd_ne _ _ (by decide)]; exact r14
    · rw [tlO_k (by decide) (by decide), t1_kp (by decide) (by decide), upd_ne _ _ (by decide), upd_ne _ _ (by decide)]; exact r19
    · rw [tlO_k (by decide) (by decide), t1_kp (by decide) (by decide), upd_ne _ _ (by decide), upd_ne _ _ (by decide)]; exact (r1 q).1
    · rw [tlO_k (by decide) (by decide), t1_kp (by decide) (by decide), upd_ne _ _ (by decide), upd_ne _ _ (by decide)]; exact (r1 q).2
    · rw [tlO_k (by decide) (by decide), t1_22, nI_1]
    · unfold T_X7_addPerson_Y; rw [upd_eq, nI_1]
    · rw [tlO_k (by decide) (by decide), t1_kp (by decide) (by decide), upd_ne _ _ (by decide), upd_ne _ _ (by decide)]; exact r24
    · rw [tlO_k (by decide) (by decide), t1_kp (by decide) (by decide), upd_ne _ _ (by decide), upd_ne _ _ (by decide)]; exact r28
    · rw [v1]; unfold T_X7_addPerson_ar; intro j hj
      by_cases hjk : j = k
      · subst hjk; rw [upd_eq, upd_eq]
      · rw [upd_ne _ _ hjk, upd_ne _ _ hjk]; exact rar j (by omega)
    · unfold T_X7_addPerson_ar; intro j hj
      by_cases hjk : j = k
      · subst hjk; rw [upd_eq]; exact i1
      · rw [upd_ne _ _ hjk]; exact bar j (by omega)
    · intro j hj
      obtain ⟨⟨p, hp, ep⟩, q⟩ := brows j hj
      exact ⟨⟨p, by omega, ep⟩, q⟩

theorem cl_s (ha : a ≤ len) (hl : len ≤ 240) (hw : ltr tx len (skB tx len a) = 115) (hR : RelC len O ra rh rg ro rf Y ar ow wt wo fr k n P) (hB : BndC Y ar ow wt wo fr k n) : ClP O tx ra rh rg ro rf Y ar ow wt wo fr len a k n P na := by
  obtain ⟨⟨r14, r15, r19, rvb, r0, r1⟩, ⟨r22, y3, r24, y5, r28, y10⟩, rar, rrows⟩ := hR
  obtain ⟨⟨hk, hn, b1, b2⟩, bar, brows⟩ := hB
  have hlt := lt_w (by decide) hw
  by_cases hY : Y 0 = 0
  · exact cl_s0 hw (r19.trans hY) r19
  have h19 : ¬ O 19 = 0 := by rw [r19]; exact hY
  by_cases h5 : n = 10
  · refine cl_s1 hw h19 r19 (by rw [r24, h5]; rfl) ?_
    unfold fwN; rw [if_neg (by decide), if_neg (by decide), if_pos rfl, if_neg hY, if_pos (by rw [y5, h5]; decide)]
  have h22 : ¬ O 24 = 10 := by rw [r24]; exact fun q => h5 ((nI_eq (b := 10) (by omega) (by decide)).mp q)
  have hf : fwN Y 115 = 0 := by
    unfold fwN; rw [if_neg (by decide), if_neg (by decide), if_pos rfl, if_neg hY, if_neg (by rw [y5]; exact fun q => h5 (by have := (nI_leI (a := 10) (by decide) (by omega)).mp q; omega))]
  obtain ⟨eR, eO, e1, e2, e3, e4, e5⟩ := mc_s (ra := ra) (rh := rh) (rg := rg) (ro := ro) (rf := rf) (k := k) (n := n) hw h19 h22
  obtain ⟨xK, xA, xP, xY, x1, x2, x3, x4, x5⟩ := xc_s (P := P) (na := na) (ar := ar) (ow := ow) (wt := wt) (wo := wo) (fr := fr) (k := k) (n := n) hw hf
  rw [y3] at xK xA xP xY x2 x3 x4 x5
  obtain ⟨nK, n0, n1⟩ := num_s (rh := rh) (rg := rg) (ro := ro) (rf := rf) (k := k) (n := n) (O := (upd (upd O 16 (nI (skB tx len a))) 16 (nI (skB tx len a + 1)))) (tx := tx) (len := len) (d := (skB tx len a + 1)) (P := P) (by omega) hl hk r15
  obtain ⟨t1, t2, t3, t4⟩ := tl_end (tx := tx) (len := len) (b := ((T_X9_takeSaying_O (upd (upd O 16 (nI (skB tx len a))) 16 (nI (skB tx len a + 1))) tx rh rg ro rf len (skB tx len a + 1) k n) 16).toNatClampNeg) (O1 := (T_X9_takeSaying_O (upd (upd O 16 (nI (skB tx len a))) 16 (nI (skB tx len a + 1))) tx rh rg ro rf len (skB tx len a + 1) k n)) nK (fun h => ⟨(n0 h).1, (n0 h).2.1, (n0 h).2.2.1⟩) n1
  unfold ClP
  rw [eR, eO, e1, e2, e3, e4, e5, xK, xA, xP, xY, x1, x2, x3, x4, x5]
  refine ⟨t1, fun j hj => ?_, fun h => t2 (by rw [t1]; exact h), fun h => ?_⟩
  · rw [tlO_k (by omega) (by omega), t2_kp (by omega) (by omega), upd_ne _ _ (by omega), upd_ne _ _ (by omega)]
  · obtain ⟨hf0, hlt2, e16, e15, eA, eP, eC⟩ := t4 (t1.trans h)
    obtain ⟨_, _, _, g1, g2, nx⟩ := n0 hf0
    have hsk := skB_le (tx := tx) g2
    have z1 : ¬ (1 : Int32) = 0 := by decide
    simp only [eC, if_neg z1]
    obtain ⟨v1, v2, v3, v4, i1, i2, i3⟩ := nx
    refine ⟨k, n + 1, by rw [eA]; omega, by rw [eA]; omega, by rw [e16, eA], eP, ⟨⟨?_, e15, ?_, rvb, r0, fun q => ⟨?_, ?_⟩⟩, ⟨?_, y3, ?_, ?_, ?_, y10⟩, rar, ?_⟩, ⟨⟨hk, by omega, b1, b2⟩, bar, ?_⟩⟩
    · rw [tlO_k (by decide) (by decide), t2_kp (by decide) (by decide), upd_ne _ _ (by decide), upd_ne _ _ (by decide)]; exact r14
    · rw [tlO_k (by decide) (by decide), t2_kp (by decide) (by decide), upd_ne _ _ (by decide), upd_ne _ _ (by decide)]; exact r19
    · rw [tlO_k (by decide) (by decide), t2_kp (by decide) (by decide), upd_ne _ _ (by decide), upd_ne _ _ (by decide)]; exact (r1 q).1
    · rw [tlO_k (by decide) (by decide), t2_kp (by decide) (by decide), upd_ne _ _ (by decide), upd_ne _ _ (by decide)]; exact (r1 q).2
    · rw [tlO_k (by decide) (by decide), t2_kp (by decide) (by decide), upd_ne _ _ (by decide), upd_ne _ _ (by decide)]; exact r22
    · rw [tlO_k (by decide) (by decide), t2_24, nI_1]
    · unfold T_X7_addSaying_Y; rw [upd_eq, nI_1]
    · rw [tlO_k (by decide) (by decide), t2_kp (by decide) (by decide), upd_ne _ _ (by decide), upd_ne _ _ (by decide)]; exact r28
    · rw [v1, v2, v3, v4]; unfold T_X7_addSaying_ow T_X7_addSaying_wt T_X7_addSaying_wo T_X7_addSaying_fr; intro j hj
      by_cases hjk : j = n
      · subst hjk; simp only [upd_eq]; exact ⟨trivial, trivial, add50 _, trivial⟩
      · simp only [upd_ne _ _ hjk]; exact rrows j (by omega)
    · unfold T_X7_addSaying_ow T_X7_addSaying_wt T_X7_addSaying_wo T_X7_addSaying_fr; intro j hj
      by_cases hjk : j = n
      · subst hjk; simp only [upd_eq]
        obtain ⟨v, _, hv, ev⟩ := i3
        exact ⟨i1, i2, ⟨v, hv, by rw [ev]⟩, ⟨0, two_pos j, rfl⟩⟩
      · simp only [upd_ne _ _ hjk]; exact brows j (by omega)

theorem cl_f (ha : a ≤ len) (hl : len ≤ 240) (hw : ltr tx len (skB tx len a) = 102) (hR : RelC len O ra rh rg ro rf Y ar ow wt wo fr k n P) (hB : BndC Y ar ow wt wo fr k n) : ClP O tx ra rh rg ro rf Y ar ow wt wo fr len a k n P na := by
  obtain ⟨⟨r14, r15, r19, rvb, r0, r1⟩, ⟨r22, y3, r24, y5, r28, y10⟩, rar, rrows⟩ := hR
  obtain ⟨⟨hk, hn, b1, b2⟩, bar, brows⟩ := hB
  have hlt := lt_w (by decide) hw
  by_cases hY : Y 0 = 0
  · exact cl_f0 hw (r19.trans hY) r19
  have h19 : ¬ O 19 = 0 := by rw [r19]; exact hY
  obtain ⟨m, _, hm, em⟩ := y10
  by_cases h5 : m = 15
  · refine cl_f1 hw h19 r19 (by rw [r28, em, h5]; rfl) ?_
    unfold fwN; rw [if_neg (by decide), if_neg (by decide), if_neg (by decide), if_pos rfl, if_neg hY, if_neg (by rw [em, h5]; decide)]
  have h22 : ¬ O 28 = 15 := by rw [r28, em]; exact fun q => h5 ((nI_eq (b := 15) (by omega) (by decide)).mp q)
  have hf : fwN Y 102 = 0 := by
    unfold fwN; rw [if_neg (by decide), if_neg (by decide), if_neg (by decide), if_pos rfl, if_neg hY, if_pos (by rw [em]; exact nI_lt (b := 15) (by omega) (by decide))]
  obtain ⟨eR, eO, e1, e2, e3, e4, e5⟩ := mc_f (ra := ra) (rh := rh) (rg := rg) (ro := ro) (rf := rf) (k := k) (n := n) hw h19 h22
  obtain ⟨xK, xA, xP, xY, x1, x2, x3, x4, x5⟩ := xc_f (P := P) (na := na) (ar := ar) (ow := ow) (wt := wt) (wo := wo) (fr := fr) (k := k) (n := n) hw hf
  rw [y5] at xK xA xP xY x5
  obtain ⟨nK, n0, n1⟩ := num_f (rf := rf) (fr := fr) (n := n) (na := na) (O := (upd (upd O 16 (nI (skB tx len a))) 16 (nI (skB tx len a + 1)))) (tx := tx) (len := len) (d := (skB tx len a + 1)) (P := P) (by omega) hl hn r15 (fun j hj => (rrows j hj).2.2.2)
  obtain ⟨t1, t2, t3, t4⟩ := tl_end (tx := tx) (len := len) (b := ((T_X9_takeFollow_O (upd (upd O 16 (nI (skB tx len a))) 16 (nI (skB tx len a + 1))) tx rf len (skB tx len a + 1) n) 16).toNatClampNeg) (O1 := (T_X9_takeFollow_O (upd (upd O 16 (nI (skB tx len a))) 16 (nI (skB tx len a + 1))) tx rf len (skB tx len a + 1) n)) nK (fun h => ⟨(n0 h).1, (n0 h).2.1, (n0 h).2.2.1⟩) n1
  unfold ClP
  rw [eR, eO, e1, e2, e3, e4, e5, xK, xA, xP, xY, x1, x2, x3, x4, x5]
  refine ⟨t1, fun j hj => ?_, fun h => t2 (by rw [t1]; exact h), fun h => ?_⟩
  · rw [tlO_k (by omega) (by omega), t3_kp (by omega) (by omega), upd_ne _ _ (by omega), upd_ne _ _ (by omega)]
  · obtain ⟨hf0, hlt2, e16, e15, eA, eP, eC⟩ := t4 (t1.trans h)
    obtain ⟨_, _, _, g1, g2, nx⟩ := n0 hf0
    have hsk := skB_le (tx := tx) g2
    have z1 : ¬ (1 : Int32) = 0 := by decide
    simp only [eC, if_neg z1]
    obtain ⟨p, s, hps, hs, ep, es, v5⟩ := nx
    rw [ep, es]
    refine ⟨k, n, by rw [eA]; omega, by rw [eA]; omega, by rw [e16, eA], eP, ⟨⟨?_, e15, ?_, rvb, r0, fun q => ⟨?_, ?_⟩⟩, ⟨?_, y3, ?_, y5, ?_, ?_⟩, rar, ?_⟩, ⟨⟨hk, hn, b1, b2⟩, bar, ?_⟩⟩
    · rw [tlO_k (by decide) (by decide), t3_kp (by decide) (by decide), upd_ne _ _ (by decide), upd_ne _ _ (by decide)]; exact r14
    · rw [tlO_k (by decide) (by decide), t3_kp (by decide) (by decide), upd_ne _ _ (by decide), upd_ne _ _ (by decide)]; exact r19
    · rw [tlO_k (by decide) (by decide), t3_kp (by decide) (by decide), upd_ne _ _ (by decide), upd_ne _ _ (by decide)]; exact (r1 q).1
    · rw [tlO_k (by decide) (by decide), t3_kp (by decide) (by decide), upd_ne _ _ (by decide), upd_ne _ _ (by decide)]; exact (r1 q).2
    · rw [tlO_k (by decide) (by decide), t3_kp (by decide) (by decide), upd_ne _ _ (by decide), upd_ne _ _ (by decide)]; exact r22
    · rw [tlO_k (by decide) (by decide), t3_kp (by decide) (by decide), upd_ne _ _ (by decide), upd_ne _ _ (by decide)]; exact r24
    · rw [tlO_k (by decide) (by decide), t3_28]; unfold T_X7_addLink_Y; rw [upd_eq, upd_ne _ _ (by decide), upd_ne _ _ (by decide), r28]
    · unfold T_X7_addLink_Y; rw [upd_eq, em, nI_1]; exact ⟨m + 1, by omega, by omega, rfl⟩
    · rw [v5]; unfold T_X7_addLink_fr; intro j hj
      obtain ⟨q1, q2, q3, q4⟩ := rrows j hj
      refine ⟨q1, q2, q3, ?_⟩
      by_cases hjk : j = s
      · subst hjk; rw [upd_eq, upd_eq, q4]
      · rw [upd_ne _ _ hjk, upd_ne _ _ hjk]; exact q4
    · unfold T_X7_addLink_fr; intro j hj
      obtain ⟨q1, q2, q3, v, hv, ev⟩ := brows j hj
      refine ⟨q1, q2, q3, ?_⟩
      by_cases hjk : j = s
      · subst hjk; rw [upd_eq, ev, shl1 (by omega), nI_or]
        exact ⟨v ||| 2 ^ p, Nat.or_lt_two_pow hv (Nat.pow_lt_pow_right (by decide) hps), rfl⟩
      · rw [upd_ne _ _ hjk]; exact ⟨v, hv, ev⟩

theorem cl_all (ha : a ≤ len) (hl : len ≤ 240) (hR : RelC len O ra rh rg ro rf Y ar ow wt wo fr k n P) (hB : BndC Y ar ow wt wo fr k n) : ClP O tx ra rh rg ro rf Y ar ow wt wo fr len a k n P na := by
  by_cases h1 : ltr tx len (skB tx len a) = 121
  · exact cl_y ha hl h1 hR hB
  by_cases h2 : ltr tx len (skB tx len a) = 112
  · exact cl_p ha hl h2 hR hB
  by_cases h3 : ltr tx len (skB tx len a) = 115
  · exact cl_s ha hl h3 hR hB
  by_cases h4 : ltr tx len (skB tx len a) = 102
  · exact cl_f ha hl h4 hR hB
  exact cl_w0 h1 h2 h3 h4
end CW
