/-- any change of level, rain, cobbles, nights, vows that both make -/
theorem WR.md2 {k n : Nat} {wt N O V P S N' O' : Nat → Int32} (h : WR k n wt N O V P S) (hn : n ≤ 10) (b0 : iN 0 99 (O' 0)) (b1 : iN 0 99 (O' 1)) (e0 : N' 12 = O' 0) (e1 : N' 13 = O' 1) (e2 : N' 15 = O' 2) (e3 : N' 14 = O' 3) (e5 : N' 11 = O' 5) (nj : ∀ j, j < 23 → j ≠ 11 → j ≠ 12 → j ≠ 13 → j ≠ 14 → j ≠ 15 → N' j = N j) (o4 : O' 4 = O 4) (o7 : O' 7 = O 7) : WR k n wt N' O' V P S := by
  obtain ⟨h1, ⟨a4, a5, a0, a1, a3, a2, a7⟩, _, h2, q, hq, e7, h3⟩ := h
  refine ⟨fun j hj => ?_, ⟨?_, e5.symm, e0.symm, e1.symm, e3.symm, e2.symm, ?_⟩, ⟨b0, b1⟩, h2, q, hq, by rw [o7]; exact e7, fun i hi => ?_⟩
  · rw [nj j (by omega) (by omega) (by omega) (by omega) (by omega) (by omega)]; exact h1 j hj
  · rw [o4, nj 10 (by decide) (by decide) (by decide) (by decide) (by decide) (by decide)]; exact a4
  · rw [o7, nj 16 (by decide) (by decide) (by decide) (by decide) (by decide) (by decide)]; exact a7
  · obtain ⟨p, s, g1, g2, g3, g4, g5⟩ := h3 i hi
    exact ⟨p, s, g1, g2, g3, g4, by rw [nj (17 + i) (by omega) (by omega) (by omega) (by omega) (by omega) (by omega)]; exact g5⟩
theorem fill_e {x : Nat} (hx : x < 1000) : (if 99 < nI x then (99 : Int32) else nI x) = nI (min x 99) ∧ (if 99 ≤ nI x then (99 : Int32) else nI x) = nI (min x 99) := by
  rw [show (99 : Int32) = nI 99 from rfl]
  rcases Nat.lt_or_ge 99 x with q | q
  · refine ⟨?_, ?_⟩
    · rw [if_pos (nI_lt (a := 99) q (by omega)), Nat.min_eq_right (by omega)]
    · rw [if_pos (nI_le (a := 99) (b := x) (by omega) (by omega)), Nat.min_eq_right (by omega)]
  · refine ⟨?_, ?_⟩
    · rw [if_neg (nI_nlt (b := x) (a := 99) q (by decide)), Nat.min_eq_left q]
    · rcases Nat.lt_or_ge x 99 with q2 | q2
      · rw [if_neg (nI_ge (b := 99) q2 (by decide)), Nat.min_eq_left q]
      · rw [if_pos (nI_le (a := 99) q2 (by omega)), Nat.min_eq_right q2]
section PA
variable {k n p s q : Nat} {sp : Int32} {ar ow wt O V P S m1 m2 m3 N : Nat → Int32}
theorem WR.pass (h : WR k n wt N O V P S) (hn : n ≤ 10) (hsp : iN 0 20 sp) : WR k n wt (T_X9_pass N sp) (T_X6_passNight_O O sp) V P S := by
  obtain ⟨lv, _, hlv, elv⟩ := h.2.2.1.1
  obtain ⟨rn, _, hrn, ern⟩ := h.2.2.1.2
  obtain ⟨b, _, hb, eb⟩ := hsp
  obtain ⟨h1, ⟨a4, a5, a0, a1, a3, a2, a7⟩, _⟩ := id h
  have f := fill_e (x := lv + b + rn) (by omega)
  have x1 : T_X6_passNight_O O sp 0 = nI (min (lv + b + rn) 99) := by
    show (if 99 < (((O 0) + sp) + (O 1)) then 99 else (((O 0) + sp) + (O 1))) = _
    rw [elv, eb, ern, nI_add, nI_add]; exact f.1
  have x2 : T_X9_pass N sp 12 = nI (min (lv + b + rn) 99) := by
    show (if 99 ≤ (N 12 + (sp + N 13)) then (99 : Int32) else (N 12 + (sp + N 13))) = _
    rw [← a0, ← a1, elv, eb, ern, nI_add, nI_add, show lv + (b + rn) = lv + b + rn by omega]; exact f.2
  refine h.md2 hn ⟨_, Nat.zero_le _, by omega, x1⟩ ⟨rn / 2, Nat.zero_le _, by omega, ?_⟩ (x2.trans x1.symm) ?_ rfl ?_ a5.symm (fun j hj j1 j2 j3 j4 j5 => ?_) rfl rfl
  · show O 1 / 2 = _
    rw [ern]; exact nI_d2 (by omega)
  · show N 13 / 2 = O 1 / 2
    rw [a1]
  · show N 14 + 1 = O 3 + 1
    rw [a3]
  · unfold T_X9_pass
    rw [upd_ne _ _ j4, upd_ne _ _ j5, upd_ne _ _ j3, upd_ne _ _ j2]
theorem WR.passes (hn : n ≤ 10) (hsp : iN 0 20 sp) (m : Nat) : WR k n wt N O V P S → WR k n wt (itN (fun N => T_X9_pass N sp) m N) (itN (fun O => T_X6_passNight_O O sp) m O) V P S := by
  intro h
  induction m with
  | zero => exact h
  | succ m ih => exact ih.pass hn hsp
theorem WR.rain {x : Int32} (h : WR k n wt N O V P S) (hn : n ≤ 10) (hx : iN 0 99 x) : WR k n wt (upd N 13 x) (upd O 1 x) V P S := by
  obtain ⟨h1, ⟨a4, a5, a0, a1, a3, a2, a7⟩, _⟩ := id h
  exact h.md2 hn h.2.2.1.1 hx a0.symm rfl a2.symm a3.symm a5.symm (fun j _ _ _ j3 _ _ => upd_ne _ _ j3) rfl rfl
theorem WR.vow {x : Int32} (h : WR k n wt N O V P S) (hn : n ≤ 10) : WR k n wt (upd N 11 x) (upd O 5 x) V P S := by
  obtain ⟨h1, ⟨a4, a5, a0, a1, a3, a2, a7⟩, b, _⟩ := id h
  exact h.md2 hn b.1 b.2 a0.symm a1.symm a2.symm a3.symm rfl (fun j _ j1 _ _ _ _ => upd_ne _ _ j1) rfl rfl
/-- a change of the queue -/
theorem WR.que {N' O' P' S' : Nat → Int32} (h : WR k n wt N O V P S) (hn : n ≤ 10) (hq : q ≤ 6) (o7 : O' 7 = nI q) (n16 : N' 16 = nI q) (oj : ∀ j, j ≤ 5 → O' j = O j) (nj : ∀ j, j < 16 → N' j = N j) (hQ : ∀ i, i < q → ∃ p s, p < k ∧ s < n ∧ P' i = nI p ∧ S' i = nI s ∧ N' (17 + i) = nI (10 * p + s)) : WR k n wt N' O' V P' S' := by
  obtain ⟨h1, ⟨a4, a5, a0, a1, a3, a2, a7⟩, ⟨b0, b1⟩, h2, _⟩ := h
  refine ⟨fun j hj => ?_, ⟨?_, ?_, ?_, ?_, ?_, ?_, o7.trans n16.symm⟩, ⟨?_, ?_⟩, h2, q, hq, o7, hQ⟩
  · rw [nj j (by omega)]; exact h1 j hj
  · rw [oj 4 (by decide), nj 10 (by decide)]; exact a4
  · rw [oj 5 (by decide), nj 11 (by decide)]; exact a5
  · rw [oj 0 (by decide), nj 12 (by decide)]; exact a0
  · rw [oj 1 (by decide), nj 13 (by decide)]; exact a1
  · rw [oj 3 (by decide), nj 14 (by decide)]; exact a3
  · rw [oj 2 (by decide), nj 15 (by decide)]; exact a2
  · rw [oj 0 (by decide)]; exact b0
  · rw [oj 1 (by decide)]; exact b1
theorem WR.join (h : WR k n wt N O V P S) (hn : n ≤ 10) (hq : q < 6) (e7 : O 7 = nI q) (hp : p < k) (hs : s < n) : WR k n wt (T_X9_lineUp N q (nI (10 * p + s))) (T_X6_joinQueue_O O P S q (nI p) (nI s)) V (T_X6_joinQueue_P O P S q (nI p) (nI s)) (T_X6_joinQueue_S O P S q (nI p) (nI s)) := by
  obtain ⟨_, _, _, _, q0, hq0, e70, hQ⟩ := id h
  have eq : q0 = q := (nI_eq (by omega) (by omega)).mp (e70.symm.trans e7)
  subst eq
  unfold T_X9_lineUp T_X6_joinQueue_O T_X6_joinQueue_P T_X6_joinQueue_S
  refine h.que hn (q := q0 + 1) (by omega) (by rw [upd_eq, nI_1]) (by rw [upd_eq, nI_1]) (fun j hj => upd_ne _ _ (by omega)) (fun j hj => by rw [upd_ne _ _ (by omega), upd_ne _ _ (by omega)]) (fun i hi => ?_)
  by_cases e : i = q0
  · subst e
    exact ⟨p, s, hp, hs, upd_eq _ _ _, upd_eq _ _ _, by rw [upd_ne _ _ (by omega), upd_eq]⟩
  · obtain ⟨p2, s2, g1, g2, g3, g4, g5⟩ := hQ i (by omega)
    exact ⟨p2, s2, g1, g2, by rw [upd_ne _ _ e]; exact g3, by rw [upd_ne _ _ e]; exact g4, by rw [upd_ne _ _ (by omega), upd_ne _ _ (by omega)]; exact g5⟩
/-- the first leaves the queue -/
theorem WR.leave (h : WR k n wt N O V P S) (hn : n ≤ 10) (e7 : O 7 = nI (q + 1)) (hq : q < 6) : WR k n wt (turnQ N q) (upd O 7 (nI q)) V (lqN P q) (lqN S q) := by
  obtain ⟨_, _, _, _, q0, hq0, e70, hQ⟩ := id h
  have eq : q0 = q + 1 := (nI_eq (by omega) (by omega)).mp (e70.symm.trans e7)
  subst eq
  unfold turnQ
  refine h.que hn (q := q) (by omega) (upd_eq _ _ _) (by rw [upd_ne _ _ (by omega), qsN_at _ (Or.inl (by decide)), upd_eq]) (fun j hj => upd_ne _ _ (by omega)) (fun j hj => by rw [upd_ne _ _ (by omega), qsN_at _ (Or.inl (by omega)), upd_ne _ _ (by omega)]) (fun i hi => ?_)
  obtain ⟨p2, s2, g1, g2, g3, g4, g5⟩ := hQ (i + 1) (by omega)
  refine ⟨p2, s2, g1, g2, ?_, ?_, ?_⟩
  · unfold lqN; rw [if_pos hi]; exact g3
  · unfold lqN; rw [if_pos hi]; exact g4
  · rw [upd_ne _ _ (by omega)]; unfold qsN; rw [if_pos (by omega), upd_ne _ _ (by omega)]; exact g5
theorem po_7 (x : Int32) : T_X6_pourOn_O ar ow wt (upd O 7 x) V p s = upd (T_X6_pourOn_O ar ow wt O V p s) 7 x ∧ T_X6_pourOn_V ar ow wt (upd O 7 x) V p s = T_X6_pourOn_V ar ow wt O V p s ∧ R_X6_pourOn ar ow wt (upd O 7 x) V p s = R_X6_pourOn ar ow wt O V p s := by
  have hd : R_X6_drawable ar ow wt (upd O 7 x) V p s = R_X6_drawable ar ow wt O V p s := rfl
  refine ⟨?_, ?_, ?_⟩
  · unfold T_X6_pourOn_O
    rw [hd]
    have u0 : (upd O 7 x) 0 = O 0 := rfl
    have u2 : (upd O 7 x) 2 = O 2 := rfl
    have u4 : (upd O 7 x) 4 = O 4 := rfl
    rw [u0, u2, u4]
    have w1 : ∀ a b : Int32, upd (upd (upd O 7 x) 0 a) 2 b = upd (upd (upd O 0 a) 2 b) 7 x := fun a b => by
      rw [upd_sw O (show (7 : Nat) ≠ 0 by decide), upd_sw _ (show (7 : Nat) ≠ 2 by decide)]
    have w2 : ∀ a b c : Int32, upd (upd (upd (upd O 7 x) 0 a) 2 b) 4 c = upd (upd (upd (upd O 0 a) 2 b) 4 c) 7 x := fun a b c => by
      rw [w1, upd_sw _ (show (7 : Nat) ≠ 4 by decide)]
    rw [w2, w1]
    split
    · rfl
    · split
      · split <;> rfl
      · split <;> rfl
  · unfold T_X6_pourOn_V; rw [hd]
  · unfold R_X6_pourOn; rw [hd]
/-- one turn of the queue -/
theorem WR.turn (h : WR k n wt N O V P S) (hn : n ≤ 10) (hq : q < 6) (e7 : O 7 = nI (q + 1)) (hp : p < k) (hs : s < n) (n17 : N 17 = nI (10 * p + s)) (ha : iN 1 9 (ar p)) (e1 : m1 p = ar p) (e2 : m2 s = ow s) (e3 : m3 s = wt s) : R_X9_pourNow m1 m2 m3 (turnQ N q) p s = R_X6_takeTurn ar ow wt O V P S p s q ∧ WR k n wt (turnN m1 m2 m3 N q p s) (T_X6_takeTurn_O ar ow wt O V P S p s q) (T_X6_takeTurn_V ar ow wt O V P S p s q) (T_X6_takeTurn_P ar ow wt O V P S p s q) (T_X6_takeTurn_S ar ow wt O V P S p s q) := by
  have hL := h.leave hn e7 hq
  obtain ⟨y1, y2, y3⟩ := hL.pour hn hp hs ha e1 e2 e3
  obtain ⟨z1, z2, z3⟩ := @po_7 p s ar ow wt O V (nI q)
  rw [z3] at y2
  rw [z1, z2] at y3
  have eu : T_X6_leaveQueue_O (T_X6_pourOn_O ar ow wt O V p s) P S q = upd (T_X6_pourOn_O ar ow wt O V p s) 7 (nI q) := rfl
  have e10 : T_X9_pourNow m1 m2 m3 (turnQ N q) p s 10 = T_X6_leaveQueue_O (T_X6_pourOn_O ar ow wt O V p s) P S q 4 := y3.2.1.1.symm
  have hT : R_X6_takeTurn ar ow wt O V P S p s q = R_X6_pourOn ar ow wt O V p s := by
    unfold R_X6_takeTurn; split
    · rfl
    · split <;> rfl
  refine ⟨y2.trans hT.symm, ?_⟩
  unfold turnN T_X6_takeTurn_O T_X6_takeTurn_V T_X6_takeTurn_P T_X6_takeTurn_S
  rw [e10, y2]
  by_cases c1 : R_X6_pourOn ar ow wt O V p s ≤ 0
  · rw [if_pos c1, if_pos c1, if_pos c1, if_pos c1, if_pos c1]
    exact y3
  · rw [if_neg c1, if_neg c1, if_neg c1, if_neg c1, if_neg c1]
    by_cases c2 : hasB ((T_X6_leaveQueue_O (T_X6_pourOn_O ar ow wt O V p s) P S q) 4) (nI s)
    · rw [if_pos c2, if_pos c2, if_pos c2, if_pos c2, if_pos c2]
      exact y3
    · rw [if_neg c2, if_neg c2, if_neg c2, if_neg c2, if_neg c2, n17]
      exact WR.join y3 hn hq (upd_eq _ _ _) hp hs
end PA
-- drift
section DR
variable {k n : Nat} {sp : Int32} {ar ow wt P S m1 m2 m3 : Nat → Int32}
theorem WR.cp (hn : n ≤ 10) (hn0 : 0 < n) (hk0 : 0 < k) (ha : ∀ j, j < k → iN 1 9 (ar j)) (e1 : ∀ j, j < k → m1 j = ar j) (e2 : ∀ j, j < n → m2 j = ow j ∧ m3 j = wt j) : ∀ (j sd : Nat) (N O V : Nat → Int32), WR k n wt N O V P S → (chP m1 m2 m3 n k j sd N).1 = lcJ j sd ∧ WR k n wt (chP m1 m2 m3 n k j sd N).2 (xcO ar ow wt n k j sd O V) (xcV ar ow wt n k j sd O V) P S := by
  intro j
  induction j with
  | zero => intro sd N O V h; exact ⟨rfl, h⟩
  | succ j ih =>
    intro sd N O V h
    have hp : lcg sd / 65536 % k < k := Nat.mod_lt _ hk0
    have hs : lcg (lcg sd) / 65536 % n < n := Nat.mod_lt _ hn0
    have h2 := (h.pour (m1 := m1) (m2 := m2) (m3 := m3) hn hp hs (ha _ hp) (e1 _ hp) (e2 _ hs).1 (e2 _ hs).2).2.2
    exact ih (lcg (lcg sd)) _ _ _ h2
theorem WR.cq (hn : n ≤ 10) (ha : ∀ j, j < k → iN 1 9 (ar j)) (e1 : ∀ j, j < k → m1 j = ar j) (e2 : ∀ j, j < n → m2 j = ow j ∧ m3 j = wt j) (sd : Nat) (N O V : Nat → Int32) (h : WR k n wt N O V P S) : (chQ m1 m2 m3 n k sd N).1 = xqS n k sd ∧ WR k n wt (chQ m1 m2 m3 n k sd N).2 (xqO ar ow wt n k sd O V) (xqV ar ow wt n k sd O V) P S := by
  unfold chQ xqS xqO xqV
  by_cases c1 : nI k ≤ 0
  · rw [if_pos c1, if_pos c1, if_pos c1, if_pos c1]; exact ⟨rfl, h⟩
  · rw [if_neg c1, if_neg c1, if_neg c1, if_neg c1]
    by_cases c2 : nI n ≤ 0
    · rw [if_pos c2, if_pos c2, if_pos c2, if_pos c2]; exact ⟨rfl, h⟩
    · rw [if_neg c2, if_neg c2, if_neg c2, if_neg c2]
      exact WR.cp hn (nz_X c2) (nz_X c1) ha e1 e2 3 sd N O V h
theorem WR.ce (hn : n ≤ 10) (sd : Nat) (N O V : Nat → Int32) (h : WR k n wt N O V P S) : (chE n sd N).1 = xeS n sd ∧ WR k n wt (chE n sd N).2 (xeO n sd O V) (xeV n sd O V) P S := by
  unfold chE xeS xeO xeV
  by_cases c1 : nI (lcg sd / 65536 % 4) = 0
  · rw [if_pos c1, if_pos c1, if_pos c1, if_pos c1]
    have hm : lcg (lcg sd) / 65536 % 30 < 30 := Nat.mod_lt _ (by decide)
    exact ⟨rfl, h.rain hn ⟨_, Nat.zero_le _, by omega, rfl⟩⟩
  · rw [if_neg c1, if_neg c1, if_neg c1, if_neg c1]
    by_cases c2 : nI (lcg sd / 65536 % 4) = 1
    · rw [if_pos c2, if_pos c2, if_pos c2, if_pos c2]
      by_cases c3 : nI n ≤ 0
      · rw [if_pos c3, if_pos c3, if_pos c3, if_pos c3]; exact ⟨rfl, h⟩
      · rw [if_neg c3, if_neg c3, if_neg c3, if_neg c3]
        exact ⟨rfl, (h.say hn (Nat.mod_lt _ (nz_X c3))).2⟩
    · rw [if_neg c2, if_neg c2, if_neg c2, if_neg c2]; exact ⟨rfl, h⟩
theorem WR.ca (hn : n ≤ 10) (ha : ∀ j, j < k → iN 1 9 (ar j)) (e1 : ∀ j, j < k → m1 j = ar j) (e2 : ∀ j, j < n → m2 j = ow j ∧ m3 j = wt j) (sd : Nat) (N O V : Nat → Int32) (h : WR k n wt N O V P S) : (chA m1 m2 m3 n k sd N).1 = xaS n k sd ∧ WR k n wt (chA m1 m2 m3 n k sd N).2 (xaO ar ow wt n k sd O V) (xaV ar ow wt n k sd O V) P S := by
  obtain ⟨q1, q2⟩ := WR.cq (ow := ow) (m2 := m2) (m3 := m3) hn ha e1 e2 sd N O V h
  unfold chA xaS xaO xaV
  rw [← q1]
  exact WR.ce hn _ _ _ _ q2
/-- the reference's nights, with the first ahead -/
theorem drN_f (sp : Int32) : ∀ (i sd : Nat) (N : Nat → Int32), drN m1 m2 m3 sp n k (i + 1) sd N = drN m1 m2 m3 sp n k i (chA m1 m2 m3 n k sd N).1 (T_X9_pass (chA m1 m2 m3 n k sd N).2 sp) := by
  intro i
  induction i with
  | zero => intro sd N; rw [drN_s, drN_0, drN_0]
  | succ i ih => intro sd N; rw [drN_s, ih, ← drN_s]
theorem WR.dr (hn : n ≤ 10) (hsp : iN 0 20 sp) (ha : ∀ j, j < k → iN 1 9 (ar j)) (e1 : ∀ j, j < k → m1 j = ar j) (e2 : ∀ j, j < n → m2 j = ow j ∧ m3 j = wt j) : ∀ (i sd : Nat) (N O V : Nat → Int32), WR k n wt N O V P S → (drN m1 m2 m3 sp n k i sd N).1 = xtS n k i sd ∧ WR k n wt (drN m1 m2 m3 sp n k i sd N).2 (xtO ar ow wt sp n k i sd O V) (xtV ar ow wt sp n k i sd O V) P S := by
  intro i
  induction i with
  | zero => intro sd N O V h; rw [drN_0]; exact ⟨rfl, h⟩
  | succ i ih =>
    intro sd N O V h
    obtain ⟨q1, q2⟩ := WR.ca (ow := ow) (m2 := m2) (m3 := m3) hn ha e1 e2 sd N O V h
    rw [drN_f, q1]
    exact ih _ _ _ _ (q2.pass hn hsp)
end DR
