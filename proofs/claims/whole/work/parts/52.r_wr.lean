-- what is poured, by both
def byN (x : Int32) (p : Nat) : Nat := if x = nI p then 1 else 2
def dwN (b w e a lv : Nat) : Nat := min (min (b * (w - e)) a) lv - min (min (b * (w - e)) a) lv % b
theorem byN_12 (x : Int32) (p : Nat) : byN x p = 1 ∨ byN x p = 2 := by unfold byN; split <;> simp
theorem dwN_lv (b w e a lv : Nat) : dwN b w e a lv ≤ lv := by unfold dwN; omega
theorem dwN_ar (b w e a lv : Nat) : dwN b w e a lv ≤ a := by unfold dwN; omega
theorem dwN_e {b w e a lv : Nat} (hb : b = 1 ∨ b = 2) : dwN b w e a lv / b ≤ w - e := by
  unfold dwN; rcases hb with rfl | rfl <;> omega
theorem dwN_p {b w e a lv : Nat} (hb : b = 1 ∨ b = 2) (h : 0 < dwN b w e a lv) : 1 ≤ dwN b w e a lv / b := by
  unfold dwN at *; rcases hb with rfl | rfl <;> omega
theorem mn_lt {a b : Nat} (ha : a < 2 ^ 31) (hb : b < 2 ^ 31) : (if nI a < nI b then nI a else nI b) = nI (min a b) := by
  rcases Nat.lt_or_ge a b with h | h
  · rw [if_pos (nI_lt h hb), Nat.min_eq_left (by omega)]
  · rw [if_neg (nI_nlt h ha), Nat.min_eq_right h]
theorem xl_ {v d : Nat} (hv : v < 2 ^ 31) (h0 : 0 < d) (hd : d < 2 ^ 31) : nI v - (nI v - nI v / nI d * nI d) = nI (v - v % d) := by
  rw [pk_rem hv h0 hd, pk_sub (Nat.mod_le _ _)]
theorem pick3 {d a b lv : Nat} (ha : a < 1000) (hb : b < 1000) (hl : lv < 1000) (h0 : 0 < d) (hd : d < 1000) : (if nI a ≤ nI b then (if nI lv ≤ nI a then (nI lv - (nI lv - nI lv / nI d * nI d)) else (nI a - (nI a - nI a / nI d * nI d))) else (if nI lv ≤ nI b then (nI lv - (nI lv - nI lv / nI d * nI d)) else (nI b - (nI b - nI b / nI d * nI d)))) = nI (min (min b a) lv - min (min b a) lv % d) := by
  rw [xl_ (by omega) h0 (by omega), xl_ (by omega) h0 (by omega), xl_ (by omega) h0 (by omega)]
  by_cases c1 : a ≤ b
  · rw [if_pos (nI_le c1 (by omega))]
    by_cases c2 : lv ≤ a
    · rw [if_pos (nI_le c2 (by omega)), show min (min b a) lv = lv by omega]
    · rw [if_neg (nI_ge (by omega) (by omega)), show min (min b a) lv = a by omega]
  · rw [if_neg (nI_ge (by omega) (by omega))]
    by_cases c2 : lv ≤ b
    · rw [if_pos (nI_le c2 (by omega)), show min (min b a) lv = lv by omega]
    · rw [if_neg (nI_ge (by omega) (by omega)), show min (min b a) lv = b by omega]
section DW
variable {ar ow wt O V m1 m2 m3 N : Nat → Int32} {p s a w e lv : Nat}
theorem drw_M (h1 : m1 p = nI a) (h2 : m2 s = ow s) (h3 : m3 s = nI w) (ha : a ≤ 9) (hw : w ≤ 20) (he : e ≤ w) (hl : lv ≤ 99) : R_X9_drawsOf m1 m2 m3 p s (nI e) (nI lv) = nI (dwN (byN (ow s) p) w e a lv) := by
  unfold R_X9_drawsOf byN
  rw [h1, h2, h3, pk_sub he]
  by_cases c : ow s = nI p
  · rw [if_pos c, if_pos c]
    rw [show (1 : Int32) = nI 1 from rfl, pk_mul]
    exact pick3 (by omega) (by omega) (by omega) (by omega) (by omega)
  · rw [if_neg c, if_neg c]
    rw [show (2 : Int32) = nI 2 from rfl, pk_mul]
    exact pick3 (by omega) (by omega) (by omega) (by omega) (by omega)
theorem drw_X (h1 : ar p = nI a) (h3 : wt s = nI w) (h4 : V s = nI e) (h5 : O 0 = nI lv) (hB : ¬ hasB (O 4 ||| O 5) (nI s)) (ha : a ≤ 9) (hw : w ≤ 20) (he : e ≤ w) (hl : lv ≤ 99) : R_X6_drawable ar ow wt O V p s = nI (dwN (byN (ow s) p) w e a lv) := by
  unfold R_X6_drawable byN
  rw [if_neg hB, h1, h3, h4, h5, pk_sub he, mn_lt (by omega) (by omega)]
  by_cases c : ow s = nI p
  · rw [if_pos c, if_pos c, mn_lt (by omega) (by omega)]
    congr 1; unfold dwN; omega
  · rw [if_neg c, if_neg c]
    rw [show (2 : Int32) = nI 2 from rfl, pk_div (by omega) (by decide) (by decide), pk_mul, pk_mul, mn_lt (by omega) (by omega)]
    congr 1; unfold dwN; omega
end DW
theorem WR.mod {k n s lv' e' w : Nat} {wt N O V P S N' O' V' : Nat → Int32} (x4 c : Int32) (h : WR k n wt N O V P S) (hs : s < n) (hn : n ≤ 10) (hl : lv' ≤ 99) (he : e' < w) (hw : w ≤ 20) (ew : wt s = nI w) (n12 : N' 12 = nI lv') (n15 : N' 15 = c) (ns : N' s = nI e') (n10 : N' 10 = x4) (nj : ∀ j, j < 23 → j ≠ 12 → j ≠ 15 → j ≠ s → j ≠ 10 → N' j = N j) (o0 : O' 0 = nI lv') (o2 : O' 2 = c) (o4 : O' 4 = x4) (oj : ∀ j, j ≤ 7 → j ≠ 0 → j ≠ 2 → j ≠ 4 → j ≠ 6 → O' j = O j) (vs : V' s = nI e') (vj : ∀ j, j < 10 → j ≠ s → V' j = V j) : WR k n wt N' O' V' P S := by
  obtain ⟨h1, ⟨a4, a5, a0, a1, a3, a2, a7⟩, ⟨b0, b1⟩, h2, q, hq, e7, h3⟩ := h
  refine ⟨fun j hj => ?_, ⟨?_, ?_, ?_, ?_, ?_, ?_, ?_⟩, ⟨?_, ?_⟩, fun j hj => ?_, q, hq, ?_, fun i hi => ?_⟩
  · by_cases e : j = s
    · rw [e, vs, ns]
    · rw [vj j hj e, nj j (by omega) (by omega) (by omega) e (by omega)]; exact h1 j hj
  · rw [o4, n10]
  · rw [oj 5 (by decide) (by decide) (by decide) (by decide) (by decide), nj 11 (by decide) (by decide) (by decide) (by omega) (by decide)]; exact a5
  · rw [o0, n12]
  · rw [oj 1 (by decide) (by decide) (by decide) (by decide) (by decide), nj 13 (by decide) (by decide) (by decide) (by omega) (by decide)]; exact a1
  · rw [oj 3 (by decide) (by decide) (by decide) (by decide) (by decide), nj 14 (by decide) (by decide) (by decide) (by omega) (by decide)]; exact a3
  · rw [o2, n15]
  · rw [oj 7 (by decide) (by decide) (by decide) (by decide) (by decide), nj 16 (by decide) (by decide) (by decide) (by omega) (by decide)]; exact a7
  · exact ⟨lv', by omega, hl, o0⟩
  · rw [oj 1 (by decide) (by decide) (by decide) (by decide) (by decide)]; exact b1
  · by_cases e : j = s
    · rw [e]; exact ⟨e', w, he, hw, vs, ew⟩
    · rw [vj j (by omega) e]; exact h2 j hj
  · rw [oj 7 (by decide) (by decide) (by decide) (by decide) (by decide)]; exact e7
  · obtain ⟨p, s2, g1, g2, g3, g4, g5⟩ := h3 i hi
    exact ⟨p, s2, g1, g2, g3, g4, by rw [nj (17 + i) (by omega) (by omega) (by omega) (by omega) (by omega)]; exact g5⟩
theorem nI_d1 {d : Nat} (h : d < 1000) : nI d / 1 = nI d := by
  rw [show (1 : Int32) = nI 1 from rfl, pk_div (by omega) (by decide) (by decide), Nat.div_one]
theorem nI_d2 {d : Nat} (h : d < 1000) : nI d / 2 = nI (d / 2) := by
  rw [show (2 : Int32) = nI 2 from rfl, pk_div (by omega) (by decide) (by decide)]
section PO
variable {k n p s : Nat} {ar ow wt O V P S m1 m2 m3 N : Nat → Int32}
theorem upd_e1 (f : Nat → Int32) (k : Nat) {v : Int32} (h : v = f k) (j : Nat) : upd f k v j = f j := by
  by_cases e : j = k
  · subst e; rw [upd_eq, h]
  · rw [upd_ne _ _ e]
/-- one pouring -/
theorem WR.pour (h : WR k n wt N O V P S) (hn : n ≤ 10) (hp : p < k) (hs : s < n) (ha : iN 1 9 (ar p)) (e1 : m1 p = ar p) (e2 : m2 s = ow s) (e3 : m3 s = wt s) : R_X9_canPour m1 m2 m3 N p s = R_X6_drawable ar ow wt O V p s ∧ R_X9_pourNow m1 m2 m3 N p s = R_X6_pourOn ar ow wt O V p s ∧ WR k n wt (T_X9_pourNow m1 m2 m3 N p s) (T_X6_pourOn_O ar ow wt O V p s) (T_X6_pourOn_V ar ow wt O V p s) P S := by
  obtain ⟨a, _, ha9, ea⟩ := ha
  obtain ⟨lv, _, hlv, elv⟩ := h.2.2.1.1
  obtain ⟨e, w, hew, hw, eV, ew⟩ := h.2.2.2.1 s hs
  have a4 := h.2.1.1
  have a5 := h.2.1.2.1
  have a0 := h.2.1.2.2.1
  have a2 := h.2.1.2.2.2.2.2.1
  have hN : N s = V s := (h.1 s (by omega)).symm
  have hzero : R_X6_drawable ar ow wt O V p s = 0 → R_X9_canPour m1 m2 m3 N p s = 0 → R_X9_pourNow m1 m2 m3 N p s = R_X6_pourOn ar ow wt O V p s ∧ WR k n wt (T_X9_pourNow m1 m2 m3 N p s) (T_X6_pourOn_O ar ow wt O V p s) (T_X6_pourOn_V ar ow wt O V p s) P S := by
    intro z1 z2
    have t1 : R_X6_pourOn ar ow wt O V p s = 0 := by unfold R_X6_pourOn; rw [if_pos z1]
    have t2 : T_X6_pourOn_O ar ow wt O V p s = O := by unfold T_X6_pourOn_O; rw [if_pos z1]
    have t3 : T_X6_pourOn_V ar ow wt O V p s = V := by unfold T_X6_pourOn_V; rw [if_pos z1]
    have t4 : R_X9_pourNow m1 m2 m3 N p s = 0 := by
      unfold R_X9_pourNow; simp [z2]
    have t5 : ∀ j, T_X9_pourNow m1 m2 m3 N p s j = N j := by
      intro j
      have u1 : upd (upd (upd N 12 (N 12 - 0)) 15 (N 15 + 0)) s (N s + 0 / 1) j = N j := by
        rw [upd_e1 _ _ (by rw [upd_ne _ _ (by omega), upd_ne _ _ (by omega)]; simp), upd_e1 _ _ (by rw [upd_ne _ _ (by decide)]; simp), upd_e1 _ _ (by simp)]
      have u2 : upd (upd (upd N 12 (N 12 - 0)) 15 (N 15 + 0)) s (N s + 0 / 2) j = N j := by
        rw [upd_e1 _ _ (by rw [upd_ne _ _ (by omega), upd_ne _ _ (by omega)]; simp), upd_e1 _ _ (by rw [upd_ne _ _ (by decide)]; simp), upd_e1 _ _ (by simp)]
      unfold T_X9_pourNow
      rw [z2, if_pos (show (0 : Int32) ≤ 0 by decide), if_pos (show (0 : Int32) ≤ 0 by decide)]
      split
      · exact u1
      · exact u2
    refine ⟨t4.trans t1.symm, ?_⟩
    rw [t2, t3]
    exact h.copy (fun _ _ => rfl) (fun j _ => t5 j) (fun _ _ _ => rfl) (fun _ _ => rfl) (fun _ _ => rfl) (fun _ _ => rfl) hn
  by_cases hB : hasB (O 4 ||| O 5) (nI s)
  · have z1 : R_X6_drawable ar ow wt O V p s = 0 := by unfold R_X6_drawable; rw [if_pos hB]
    have z2 : R_X9_canPour m1 m2 m3 N p s = 0 := by unfold R_X9_canPour; rw [if_pos (by rw [← a4, ← a5]; exact hB)]
    exact ⟨z2.trans z1.symm, hzero z1 z2⟩
  · have y1 := drw_X (ow := ow) ea ew eV elv hB ha9 hw (by omega) hlv
    have y2 : R_X9_canPour m1 m2 m3 N p s = nI (dwN (byN (ow s) p) w e a lv) := by
      unfold R_X9_canPour
      rw [if_neg (by rw [← a4, ← a5]; exact hB), hN, eV, ← a0, elv]
      exact drw_M (by rw [e1, ea]) e2 (by rw [e3, ew]) ha9 hw (by omega) hlv
    refine ⟨y2.trans y1.symm, ?_⟩
    have hb := byN_12 (ow s) p
    have hd1 := dwN_lv (byN (ow s) p) w e a lv
    have hd2 := dwN_e (b := byN (ow s) p) (w := w) (e := e) (a := a) (lv := lv) hb
    have hd3 := @dwN_p (byN (ow s) p) w e a lv hb
    generalize hd : dwN (byN (ow s) p) w e a lv = d at *
    by_cases d0 : d = 0
    · subst d0
      exact hzero y1 y2
    · have hpos : 1 ≤ d / byN (ow s) p := hd3 (by omega)
      have q1 : ¬ R_X6_drawable ar ow wt O V p s = 0 := by rw [y1]; exact nI_ne0 (by omega) (by omega)
      have q2 : ¬ R_X9_canPour m1 m2 m3 N p s ≤ 0 := by rw [y2]; exact nI_nle (by omega) (by omega)
      have eL : N 12 = nI lv := by rw [← a0]; exact elv
      by_cases c : ow s = nI p
      · have eb : byN (ow s) p = 1 := if_pos c
        rw [eb, Nat.div_one] at hd2 hpos
        have c' : m2 s = nI p := by rw [e2]; exact c
        by_cases full : e + d < w
        · have f1 : V s + nI d < wt s := by rw [eV, ew, nI_add]; exact nI_lt full (by omega)
          have f2 : N s + nI d / 1 < m3 s := by rw [nI_d1 (by omega), hN, e3]; exact f1
          refine ⟨?_, ?_⟩
          · unfold R_X9_pourNow R_X6_pourOn
            rw [if_pos c', if_neg q2, if_neg q1, if_pos c, ite_self, ite_self, y1, y2]
          · unfold T_X9_pourNow T_X6_pourOn_O T_X6_pourOn_V
            rw [if_pos c', if_neg q2, if_neg q1, if_neg q1, if_pos c, if_pos c, y1, y2, if_pos f1, if_pos f1, if_pos f2, nI_d1 (by omega), eL, elv, pk_sub hd1, hN, eV, nI_add]
            exact h.mod (O 4) (O 2 + nI d) hs hn (lv' := lv - d) (by omega) full hw ew (by rw [upd_ne _ _ (by omega), upd_ne _ _ (by decide), upd_eq]) (by rw [upd_ne _ _ (by omega), upd_eq, a2]) (upd_eq _ _ _) (by rw [upd_ne _ _ (by omega), upd_ne _ _ (by decide), upd_ne _ _ (by decide)]; exact a4.symm) (fun j _ j1 j2 j3 _ => by rw [upd_ne _ _ j3, upd_ne _ _ j2, upd_ne _ _ j1]) rfl rfl rfl (fun j _ j0 j2 _ _ => by rw [upd_ne _ _ j2, upd_ne _ _ j0]) (upd_eq _ _ _) (fun j _ js => upd_ne _ _ js)
        · have f1 : ¬ V s + nI d < wt s := by rw [eV, ew, nI_add]; exact nI_nlt (by omega) (by omega)
          have f2 : ¬ N s + nI d / 1 < m3 s := by rw [nI_d1 (by omega), hN, e3]; exact f1
          refine ⟨?_, ?_⟩
          · unfold R_X9_pourNow R_X6_pourOn
            rw [if_pos c', if_neg q2, if_neg q1, if_pos c, ite_self, ite_self, y1, y2]
          · unfold T_X9_pourNow T_X6_pourOn_O T_X6_pourOn_V
            rw [if_pos c', if_neg q2, if_neg q1, if_neg q1, if_pos c, if_pos c, y1, y2, if_neg f1, if_neg f1, if_neg f2, nI_d1 (by omega), eL, elv, pk_sub hd1, upd_u, upd_u]
            exact h.mod (O 4 ||| ((1 : Int32) <<< ((nI s) &&& 31))) (O 2 + nI d) hs hn (lv' := lv - d) (e' := 0) (by omega) (by omega) hw ew (by rw [upd_ne _ _ (by decide), upd_ne _ _ (by omega), upd_ne _ _ (by decide), upd_eq]) (by rw [upd_ne _ _ (by decide), upd_ne _ _ (by omega), upd_eq, a2]) (by rw [upd_ne _ _ (by omega), upd_eq]; rfl) (by rw [upd_eq, a4]) (fun j _ j1 j2 j3 j4 => by rw [upd_ne _ _ j4, upd_ne _ _ j3, upd_ne _ _ j2, upd_ne _ _ j1]) rfl rfl rfl (fun j _ j0 j2 j4 _ => by rw [upd_ne _ _ j4, upd_ne _ _ j2, upd_ne _ _ j0]) (upd_eq _ _ _) (fun j _ js => upd_ne _ _ js)
      · have eb : byN (ow s) p = 2 := if_neg c
        rw [eb] at hd2 hpos
        have c' : ¬ m2 s = nI p := by rw [e2]; exact c
        by_cases full : e + d / 2 < w
        · have f1 : V s + nI d / 2 < wt s := by rw [nI_d2 (by omega), eV, ew, nI_add]; exact nI_lt full (by omega)
          have f2 : N s + nI d / 2 < m3 s := by rw [hN, e3]; exact f1
          refine ⟨?_, ?_⟩
          · unfold R_X9_pourNow R_X6_pourOn
            rw [if_neg c', if_neg q2, if_neg q1, if_neg c, ite_self, ite_self, y1, y2]
          · unfold T_X9_pourNow T_X6_pourOn_O T_X6_pourOn_V
            rw [if_neg c', if_neg q2, if_neg q1, if_neg q1, if_neg c, if_neg c, y1, y2, if_pos f1, if_pos f1, if_pos f2, nI_d2 (by omega), eL, elv, pk_sub hd1, hN, eV, nI_add]
            exact h.mod (O 4) (O 2 + nI d) hs hn (lv' := lv - d) (by omega) full hw ew (by rw [upd_ne _ _ (by omega), upd_ne _ _ (by decide), upd_eq]) (by rw [upd_ne _ _ (by omega), upd_eq, a2]) (upd_eq _ _ _) (by rw [upd_ne _ _ (by omega), upd_ne _ _ (by decide), upd_ne _ _ (by decide)]; exact a4.symm) (fun j _ j1 j2 j3 _ => by rw [upd_ne _ _ j3, upd_ne _ _ j2, upd_ne _ _ j1]) rfl rfl rfl (fun j _ j0 j2 _ _ => by rw [upd_ne _ _ j2, upd_ne _ _ j0]) (upd_eq _ _ _) (fun j _ js => upd_ne _ _ js)
        · have f1 : ¬ V s + nI d / 2 < wt s := by rw [nI_d2 (by omega), eV, ew, nI_add]; exact nI_nlt (by omega) (by omega)
          have f2 : ¬ N s + nI d / 2 < m3 s := by rw [hN, e3]; exact f1
          refine ⟨?_, ?_⟩
          · unfold R_X9_pourNow R_X6_pourOn
            rw [if_neg c', if_neg q2, if_neg q1, if_neg c, ite_self, ite_self, y1, y2]
          · unfold T_X9_pourNow T_X6_pourOn_O T_X6_pourOn_V
            rw [if_neg c', if_neg q2, if_neg q1, if_neg q1, if_neg c, if_neg c, y1, y2, if_neg f1, if_neg f1, if_neg f2, nI_d2 (by omega), eL, elv, pk_sub hd1, upd_u, upd_u]
            exact h.mod (O 4 ||| ((1 : Int32) <<< ((nI s) &&& 31))) (O 2 + nI d) hs hn (lv' := lv - d) (e' := 0) (by omega) (by omega) hw ew (by rw [upd_ne _ _ (by decide), upd_ne _ _ (by omega), upd_ne _ _ (by decide), upd_eq]) (by rw [upd_ne _ _ (by decide), upd_ne _ _ (by omega), upd_eq, a2]) (by rw [upd_ne _ _ (by omega), upd_eq]; rfl) (by rw [upd_eq, a4]) (fun j _ j1 j2 j3 j4 => by rw [upd_ne _ _ j4, upd_ne _ _ j3, upd_ne _ _ j2, upd_ne _ _ j1]) rfl rfl rfl (fun j _ j0 j2 j4 _ => by rw [upd_ne _ _ j4, upd_ne _ _ j2, upd_ne _ _ j0]) (upd_eq _ _ _) (fun j _ js => upd_ne _ _ js)
/-- one says it again -/
theorem WR.say (h : WR k n wt N O V P S) (hn : n ≤ 10) (hs : s < n) : R_X9_sayNow N s = R_X6_sayAgain O V s ∧ WR k n wt (T_X9_sayNow N s) (T_X6_sayAgain_O O V s) (T_X6_sayAgain_V O V s) P S := by
  obtain ⟨lv, _, hlv, elv⟩ := h.2.2.1.1
  obtain ⟨e, w, hew, hw, eV, ew⟩ := h.2.2.2.1 s hs
  have a4 := h.2.1.1
  have a0 := h.2.1.2.2.1
  have a2 := h.2.1.2.2.2.2.2.1
  refine ⟨(h.1 s (by omega)).symm, ?_⟩
  unfold T_X9_sayNow T_X6_sayAgain_O T_X6_sayAgain_V
  exact h.mod (O 4 &&& (((1 : Int32) <<< ((nI s) &&& 31)) ^^^ (-1))) (O 2) hs hn (lv' := lv) (e' := 0) hlv (by omega) hw ew (by rw [upd_ne _ _ (by decide), upd_ne _ _ (by omega), ← a0]; exact elv) (by rw [upd_ne _ _ (by decide), upd_ne _ _ (by omega)]; exact a2.symm) (by rw [upd_ne _ _ (by omega), upd_eq]; rfl) (by rw [upd_eq, a4]) (fun j _ _ _ j3 j4 => by rw [upd_ne _ _ j4, upd_ne _ _ j3]) elv rfl rfl (fun j _ _ _ j4 _ => upd_ne _ _ j4) (upd_eq _ _ _) (fun j _ js => upd_ne _ _ js)
end PO
