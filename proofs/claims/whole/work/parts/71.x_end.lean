def adX (F Nw Tw : List Nat) (aP aI : Nat → Nat) (r : Nat) : Nat := if r < 29 then F.getD r 0 else if r < 33 then Nw.getD (r - 29) 0 else if r < 37 then Tw.getD (r - 33) 0 else if r < 101 then aP (r - 37) else aI (r - 101)
theorem adX_P {F Nw Tw : List Nat} {aP aI : Nat → Nat} {r : Nat} (h : 37 ≤ r) (h2 : r < 101) : adX F Nw Tw aP aI r = aP (r - 37) := by unfold adX; rw [if_neg (by omega), if_neg (by omega), if_neg (by omega), if_pos h2]
theorem adX_I {F Nw Tw : List Nat} {aP aI : Nat → Nat} {r : Nat} (h : 101 ≤ r) : adX F Nw Tw aP aI r = aI (r - 101) := by unfold adX; rw [if_neg (by omega), if_neg (by omega), if_neg (by omega), if_neg (by omega)]
/-- the class's ints when it has just been made -/
def sX0 (r k : Nat) : Int32 := if r = 1 ∧ k = 2 then -1 else 0
def sM0 (r k : Nat) : Int32 := if r = 0 ∧ k = 15 then -1 else 0
theorem sX0_n {r : Nat} (h : r ≠ 1) : sX0 r = fun _ => 0 := by funext k; unfold sX0; rw [if_neg (fun q => h q.1)]
theorem arr_c {cA : ClassId} {n : Nat} {f g : Nat → Option Nat} (h : ∀ i, i < n → f i = g i) : vp_cell cA (n, .inr (.inr (.inr (.inr f)))) = vp_cell cA (n, .inr (.inr (.inr (.inr g)))) := by
  rw [vp_cell_q, vp_cell_q]
  unfold arrV
  congr 2
  funext j
  show va_rf (f j.val) = va_rf (g j.val)
  rw [h j.val j.isLt]
theorem arr_at {D : va_G} {cl : List vw_C} {q : Nat} {cA : ClassId} {n : Nat} {f g : Nat → Option Nat} {H : Heap} (h : va_at D cl (q, .inl (cA, n, .inr (.inr (.inr (.inr f))))) H) (hf : ∀ i, i < n → f i = g i) : va_at D cl (q, .inl (cA, n, .inr (.inr (.inr (.inr g))))) H := by
  have h1 : H[q]? = some (vp_cell cA (n, .inr (.inr (.inr (.inr f))))) := h
  show H[q]? = some (vp_cell cA (n, .inr (.inr (.inr (.inr g)))))
  rw [h1, arr_c hf]
theorem wls_p {D : va_G} {cl : List vw_C} {cy : Nat → ClassId} {a : Nat → Nat} {H : Heap} {i : Nat} (j : Nat) : va_P D cl (wls cy a j) H → i < j → va_P D cl (wX6 cy (a (4 * i)) (a (4 * i + 1)) (a (4 * i + 2)) (a (4 * i + 3))) H := by
  induction j with
  | zero => intro _ h; omega
  | succ j ih =>
    intro hP h
    by_cases e : i = j
    · subst e; exact sb_r hP
    · exact ih (sb_l hP) (by omega)
/-- the same addresses -/
theorem sd_s {A : Nat → Prop} {w : va_W} {S : List Nat} {ad : Nat → Nat} {n : Nat} {cf : (Nat → Int32) → Nat → va_E} {σ : Nat → Nat → Int32} (hD : va_D A w) (he : w.map (fun q => q.1) = S.map ad) (hS : ∀ k, k < n → k ∈ S) : va_D A (rw_ n ad cf σ) := by
  have key : ∀ k : Nat, k < n → ∃ (i : Nat) (e : va_E), S[i]? = some k ∧ w[i]? = some (ad k, e) := by
    intro k hk
    obtain ⟨i, hi⟩ := List.getElem?_of_mem (hS k hk)
    have h1 : (w.map (fun q => q.1))[i]? = some (ad k) := by rw [he, List.getElem?_map, hi]; rfl
    rw [List.getElem?_map] at h1
    cases hw : w[i]? with
    | none => rw [hw] at h1; cases h1
    | some x =>
      rw [hw] at h1
      have h2 : x.1 = ad k := Option.some.inj h1
      exact ⟨i, x.2, hi, by rw [← h2]; exact hw⟩
  refine ⟨fun i j p q hi hj e => ?_, fun k q hk => ?_⟩
  · obtain ⟨h1, rfl⟩ := rw_inv hi
    obtain ⟨h2, rfl⟩ := rw_inv hj
    obtain ⟨a, ea, a1, a2⟩ := key i h1
    obtain ⟨b, eb, b1, b2⟩ := key j h2
    have hab := hD.1 a b _ _ a2 b2 e
    subst hab
    exact Option.some.inj (a1.symm.trans b1)
  · obtain ⟨h1, rfl⟩ := rw_inv hk
    obtain ⟨a, ea, a1, a2⟩ := key k h1
    exact hD.2 a (ad k, ea) a2
theorem ap_m {a b : va_W} {S T : List Nat} {ad : Nat → Nat} (h1 : a.map (fun q => q.1) = S.map ad) (h2 : b.map (fun q => q.1) = T.map ad) : (a ++ b).map (fun q => q.1) = (S ++ T).map ad := by
  rw [List.map_append, List.map_append, h1, h2]
theorem wls_a (cy : Nat → ClassId) (a : Nat → Nat) (j : Nat) : (wls cy a j).map (fun q => q.1) = (List.range (4 * j)).map a := by
  induction j with
  | zero => rfl
  | succ j ih =>
    unfold wls
    rw [List.map_append, ih, show 4 * (j + 1) = 4 * j + 1 + 1 + 1 + 1 by omega, List.range_succ, List.range_succ, List.range_succ, List.range_succ]
    simp [wX6]
theorem wls_b {cy : Nat → ClassId} {a ad : Nat → Nat} {j d : Nat} (h : ∀ r, r < 4 * j → a r = ad (d + r)) : (wls cy a j).map (fun q => q.1) = ((List.range (4 * j)).map (fun r => d + r)).map ad := by
  rw [wls_a, List.map_map]
  exact List.map_congr_left (fun r hr => h r (List.mem_range.mp hr))
set_option maxHeartbeats 1000000 in
set_option maxRecDepth 100000 in
theorem x8_end {D : va_G} {cy : Nat → ClassId} {A : Nat → Prop} {H : Heap} {h0 o5 o5a o16 o16a o16b o16c o16d o16e o16f o27 o27a o27b o27c o27d o27e o27f o38 o38a o38b o38c o49 o49a o49b o49c o60 o60a o71 o71a o71b o82 o93 o93a o93b o93c o104 o104a : Nat} {aP aI : Nat → Nat} {fP fI : Nat → Option Nat} (hP : va_P D classes ([(h0, .inr (8, [.ref o5, .ref o16, .ref o27, .ref o38, .ref o49, .ref o60, .ref o71, .ref o82, .ref o93, .ref o104]))] ++ wX4 cy o5 o5a ++ wX7 cy o16 o16a o16b o16c o16d o16e o16f ++ wX7 cy o27 o27a o27b o27c o27d o27e o27f ++ wX6 cy o38 o38a o38b o38c ++ wX6 cy o49 o49a o49b o49c ++ wX3 cy o60 o60a aP fP ++ wX0 cy o71 o71a o71b ++ wX1 cy o82 ++ wX2 cy o93 o93a o93b o93c aI fI ++ wX5 cy o104 o104a) H) (hD : va_D A ([(h0, .inr (8, [.ref o5, .ref o16, .ref o27, .ref o38, .ref o49, .ref o60, .ref o71, .ref o82, .ref o93, .ref o104]))] ++ wX4 cy o5 o5a ++ wX7 cy o16 o16a o16b o16c o16d o16e o16f ++ wX7 cy o27 o27a o27b o27c o27d o27e o27f ++ wX6 cy o38 o38a o38b o38c ++ wX6 cy o49 o49a o49b o49c ++ wX3 cy o60 o60a aP fP ++ wX0 cy o71 o71a o71b ++ wX1 cy o82 ++ wX2 cy o93 o93a o93b o93c aI fI ++ wX5 cy o104 o104a)) (hfP : ∀ i, i < 16 → fP i = some (aP (4 * i))) (hfI : ∀ i, i < 2 → fI i = some (aI (4 * i))) : ∃ ad : Nat → Nat, ad 0 = h0 ∧ va_P D classes (rw_ 109 ad (cfX ad cy 3 10) sX0) H ∧ va_D A (rw_ 109 ad (cfX ad cy 3 10) sX0) := by
  refine ⟨adX [h0, o5, o5a, o16, o16a, o16b, o16c, o16d, o16e, o16f, o27, o27a, o27b, o27c, o27d, o27e, o27f, o60, o60a, o71, o71a, o71b, o82, o93, o93a, o93b, o93c, o104, o104a] [o38, o38a, o38b, o38c] [o49, o49a, o49b, o49c] aP aI, rfl, ?_, sd_s (S := [0] ++ [1, 2] ++ [3, 4, 5, 6, 7, 8, 9] ++ [10, 11, 12, 13, 14, 15, 16] ++ [29, 30, 31, 32] ++ [33, 34, 35, 36] ++ ([17, 18] ++ (List.range (4 * 16)).map (fun r => 37 + r)) ++ [19, 20, 21] ++ [22] ++ ([23, 24, 25, 26] ++ (List.range (4 * 2)).map (fun r => 101 + r)) ++ [27, 28]) hD (ap_m (T := [27, 28]) (ap_m (T := ([23, 24, 25, 26] ++ (List.range (4 * 2)).map (fun r => 101 + r))) (ap_m (T := [22]) (ap_m (T := [19, 20, 21]) (ap_m (T := ([17, 18] ++ (List.range (4 * 16)).map (fun r => 37 + r))) (ap_m (T := [33, 34, 35, 36]) (ap_m (T := [29, 30, 31, 32]) (ap_m (T := [10, 11, 12, 13, 14, 15, 16]) (ap_m (T := [3, 4, 5, 6, 7, 8, 9]) (ap_m (S := [0]) (T := [1, 2]) rfl rfl) rfl) rfl) rfl) rfl) (ap_m (S := [17, 18]) rfl (wls_b (j := 16) (d := 37) (fun r hr => by rw [adX_P (by omega) (by omega), Nat.add_sub_cancel_left])))) rfl) rfl) (ap_m (S := [23, 24, 25, 26]) rfl (wls_b (j := 2) (d := 101) (fun r hr => by rw [adX_I (by omega), Nat.add_sub_cancel_left])))) rfl) (by decide +kernel)⟩
  have p9 := sb_r hP
  have t9 := sb_l hP
  have p8 := sb_r t9
  have t8 := sb_l t9
  have p7 := sb_r t8
  have t7 := sb_l t8
  have p6 := sb_r t7
  have t6 := sb_l t7
  have p5 := sb_r t6
  have t5 := sb_l t6
  have p4 := sb_r t5
  have t4 := sb_l t5
  have p3 := sb_r t4
  have t3 := sb_l t4
  have p2 := sb_r t3
  have t2 := sb_l t3
  have p1 := sb_r t2
  have t1 := sb_l t2
  have p0 := sb_r t1
  have t0 := sb_l t1
  have po := t0
  intro k q hk
  obtain ⟨hk2, rfl⟩ := rw_inv hk
  have wl : ∀ i, i < 20 → va_P D classes (wX6 cy ((adX [h0, o5, o5a, o16, o16a, o16b, o16c, o16d, o16e, o16f, o27, o27a, o27b, o27c, o27d, o27e, o27f, o60, o60a, o71, o71a, o71b, o82, o93, o93a, o93b, o93c, o104, o104a] [o38, o38a, o38b, o38c] [o49, o49a, o49b, o49c] aP aI) (29 + 4 * i)) ((adX [h0, o5, o5a, o16, o16a, o16b, o16c, o16d, o16e, o16f, o27, o27a, o27b, o27c, o27d, o27e, o27f, o60, o60a, o71, o71a, o71b, o82, o93, o93a, o93b, o93c, o104, o104a] [o38, o38a, o38b, o38c] [o49, o49a, o49b, o49c] aP aI) (29 + 4 * i + 1)) ((adX [h0, o5, o5a, o16, o16a, o16b, o16c, o16d, o16e, o16f, o27, o27a, o27b, o27c, o27d, o27e, o27f, o60, o60a, o71, o71a, o71b, o82, o93, o93a, o93b, o93c, o104, o104a] [o38, o38a, o38b, o38c] [o49, o49a, o49b, o49c] aP aI) (29 + 4 * i + 2)) ((adX [h0, o5, o5a, o16, o16a, o16b, o16c, o16d, o16e, o16f, o27, o27a, o27b, o27c, o27d, o27e, o27f, o60, o60a, o71, o71a, o71b, o82, o93, o93a, o93b, o93c, o104, o104a] [o38, o38a, o38b, o38c] [o49, o49a, o49b, o49c] aP aI) (29 + 4 * i + 3))) H := by
    intro i hi
    rcases (show i = 0 ∨ i = 1 ∨ (2 ≤ i ∧ i < 18) ∨ 18 ≤ i by omega) with e | e | e | e
    · subst e; exact p3
    · subst e; exact p4
    · have w := wls_p (i := i - 2) 16 (sb_r p5) (by omega)
      rw [adX_P (by omega) (by omega), adX_P (by omega) (by omega), adX_P (by omega) (by omega), adX_P (by omega) (by omega), show 29 + 4 * i - 37 = 4 * (i - 2) by omega, show 29 + 4 * i + 1 - 37 = 4 * (i - 2) + 1 by omega, show 29 + 4 * i + 2 - 37 = 4 * (i - 2) + 2 by omega, show 29 + 4 * i + 3 - 37 = 4 * (i - 2) + 3 by omega]
      exact w
    · have w := wls_p (i := i - 18) 2 (sb_r p8) (by omega)
      rw [adX_I (by omega), adX_I (by omega), adX_I (by omega), adX_I (by omega), show 29 + 4 * i - 101 = 4 * (i - 18) by omega, show 29 + 4 * i + 1 - 101 = 4 * (i - 18) + 1 by omega, show 29 + 4 * i + 2 - 101 = 4 * (i - 18) + 2 by omega, show 29 + 4 * i + 3 - 101 = 4 * (i - 18) + 3 by omega]
      exact w
  rcases (show k = 0 ∨ k = 1 ∨ k = 2 ∨ k = 3 ∨ k = 4 ∨ k = 5 ∨ k = 6 ∨ k = 7 ∨ k = 8 ∨ k = 9 ∨ k = 10 ∨ k = 11 ∨ k = 12 ∨ k = 13 ∨ k = 14 ∨ k = 15 ∨ k = 16 ∨ k = 17 ∨ k = 18 ∨ k = 19 ∨ k = 20 ∨ k = 21 ∨ k = 22 ∨ k = 23 ∨ k = 24 ∨ k = 25 ∨ k = 26 ∨ k = 27 ∨ k = 28 ∨ (∃ i t, i < 20 ∧ t < 4 ∧ k = 29 + 4 * i + t) by
      by_cases h29 : 29 ≤ k
      · iterate 29 right
        exact ⟨(k - 29) / 4, (k - 29) % 4, by omega, by omega, by omega⟩
      · omega) with rfl | rfl | rfl | rfl | rfl | rfl | rfl | rfl | rfl | rfl | rfl | rfl | rfl | rfl | rfl | rfl | rfl | rfl | rfl | rfl | rfl | rfl | rfl | rfl | rfl | rfl | rfl | rfl | rfl | ⟨i, t, hi, ht, rfl⟩
  · exact po 0 _ rfl
  · exact p0 0 _ rfl
  · exact p0 1 _ rfl
  · exact p1 0 _ rfl
  · exact p1 1 _ rfl
  · exact p1 2 _ rfl
  · exact p1 3 _ rfl
  · exact p1 4 _ rfl
  · exact p1 5 _ rfl
  · exact p1 6 _ rfl
  · exact p2 0 _ rfl
  · exact p2 1 _ rfl
  · exact p2 2 _ rfl
  · exact p2 3 _ rfl
  · exact p2 4 _ rfl
  · exact p2 5 _ rfl
  · exact p2 6 _ rfl
  · exact p5 0 _ rfl
  · refine arr_at (p5 1 _ rfl) (fun i hi => ?_)
    rw [hfP i hi, adX_P (by omega) (by omega), show 29 + 4 * (2 + i) - 37 = 4 * i by omega]
  · exact p6 0 _ rfl
  · exact p6 1 _ rfl
  · exact p6 2 _ rfl
  · exact p7 0 _ rfl
  · exact p8 0 _ rfl
  · refine arr_at (p8 1 _ rfl) (fun i hi => ?_)
    rw [hfI i hi, adX_I (by omega), show 29 + 4 * (18 + i) - 101 = 4 * i by omega]
  · exact p8 2 _ rfl
  · exact p8 3 _ rfl
  · exact p9 0 _ rfl
  · exact p9 1 _ rfl
  · have w := wl i hi
    rcases (show t = 0 ∨ t = 1 ∨ t = 2 ∨ t = 3 by omega) with rfl | rfl | rfl | rfl
    · rw [Nat.add_zero, kX6, sX0_n (by omega)]; exact w 0 _ rfl
    · rw [kX6_6, sX0_n (by omega)]; exact w 1 _ rfl
    · rw [kX6_8, sX0_n (by omega)]; exact w 2 _ rfl
    · rw [kX6_9, sX0_n (by omega)]; exact w 3 _ rfl
