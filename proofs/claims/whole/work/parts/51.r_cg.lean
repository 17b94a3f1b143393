-- what is reckoned of rows that are alike below the count
section CG
variable {f g ow ow' fr fr' : Nat → Int32} {u v : Int32}
theorem holdN_cg (n : Nat) (h : ∀ j, j < n → f j = g j) : holdN f u n = holdN g u n := by
  induction n with
  | zero => rfl
  | succ n ih =>
    have e := ih (fun j hj => h j (by omega))
    unfold holdN
    rw [e, h n (by omega)]
theorem sumN_cg (n : Nat) (h : ∀ j, j < n → f j = g j) : sumN f u n = sumN g u n := by
  induction n with
  | zero => rfl
  | succ n ih =>
    have e := ih (fun j hj => h j (by omega))
    unfold sumN
    rw [e, h n (by omega)]
theorem fallN_cg (n : Nat) (h : ∀ j, j < n → f j = g j) : fallN f u v n = fallN g u v n := by
  unfold fallN; rw [holdN_cg n h, holdN_cg n h]
theorem heavN_cg (n i : Nat) (h : ∀ j, j < n → f j = g j) : heavN f u n i = heavN g u n i := by
  induction i with
  | zero => rfl
  | succ i ih => unfold heavN; rw [ih, fallN_cg n h]
theorem saidN_cg (n : Nat) (h : ∀ j, j < n → f j = g j) : saidN f v n = saidN g v n := by
  induction n with
  | zero => rfl
  | succ n ih => unfold saidN; rw [ih (fun j hj => h j (by omega)), h n (by omega)]
theorem allN_cg (n : Nat) (h : ∀ j, j < n → f j = g j) : allN f n = allN g n := by
  induction n with
  | zero => rfl
  | succ n ih => unfold allN; rw [ih (fun j hj => h j (by omega)), h n (by omega)]
theorem leftN_cg (n : Nat) (h : ∀ j, j < n → f j = g j) : leftN u f v n = leftN u g v n := by
  induction n with
  | zero => rfl
  | succ n ih => unfold leftN; rw [ih (fun j hj => h j (by omega)), h n (by omega)]
theorem rtD_cg (n : Nat) (h : ∀ j, j < n → f j = g j) : ∀ a r, rtD f n a r = rtD g n a r := by
  induction n with
  | zero => intro a r; rfl
  | succ n ih =>
    intro a r
    unfold rtD
    rw [h n (by omega), ih (fun j hj => h j (by omega)), ih (fun j hj => h j (by omega))]
theorem leanI_cg (s : Nat) (acc : Int32) (a : Nat) (h1 : ow s = ow' s) (h2 : fr s = fr' s) (h3 : ∀ j, j < a → ow j = ow' j) : leanI ow fr v s acc a = leanI ow' fr' v s acc a := by
  induction a with
  | zero => rfl
  | succ a ih => unfold leanI; rw [ih (fun j hj => h3 j (by omega)), h1, h2, h3 a (by omega)]
theorem leanN_cg (n : Nat) (h1 : ∀ j, j < n → ow j = ow' j) (h2 : ∀ j, j < n → fr j = fr' j) : leanN ow fr v n = leanN ow' fr' v n := by
  induction n with
  | zero => rfl
  | succ n ih =>
    unfold leanN
    rw [ih (fun j hj => h1 j (by omega)) (fun j hj => h2 j (by omega)), leanI_cg n _ n (h1 n (by omega)) (h2 n (by omega)) (fun j hj => h1 j (by omega))]
theorem judN_cg {is : Int32} {bo bk bo' bk' : Nat → Int32} (t : Nat) : ∀ c, (∀ j, j < t + c → bo j = bo' j ∧ bk j = bk' j) → judN is bo bk t c = judN is bo' bk' t c := by
  induction t with
  | zero => intro c h; rfl
  | succ t ih =>
    intro c h
    unfold judN
    rw [(h c (by omega)).1, (h c (by omega)).2, ih (c + 1) (fun j hj => h j (by omega))]
end CG
-- depths
theorem dIn_e (w : Int32) {g g' : Nat → Int32} (a : Nat) (h : ∀ j, j < a → g j = g' j) (hb : ∀ j, j < a → iN 0 10 (g j)) : dInX w g a = dInM w g' a ∧ iN 0 11 (dInX w g a) := by
  induction a with
  | zero => exact ⟨rfl, 0, by omega, by omega, rfl⟩
  | succ a ih =>
    obtain ⟨e, d, _, hd, ed⟩ := ih (fun j hj => h j (by omega)) (fun j hj => hb j (by omega))
    obtain ⟨x, _, hx, ex⟩ := hb a (by omega)
    unfold dInX dInM
    rw [← e, ← h a (by omega), ed, ex]
    by_cases hB : hasB w (nI a)
    · by_cases hle : d ≤ x
      · have h1 : nI d ≤ nI x := nI_le hle (by omega)
        have h2 : nI d < nI x + 1 := by rw [nI_1]; exact nI_lt (by omega) (by omega)
        rw [if_pos hB, if_pos h2, if_pos ⟨hB, h1⟩]
        exact ⟨rfl, x + 1, by omega, by omega, nI_1 x⟩
      · have h1 : ¬ nI d ≤ nI x := nI_ge (by omega) (by omega)
        have h2 : ¬ nI d < nI x + 1 := by rw [nI_1]; exact nI_nlt (by omega) (by omega)
        rw [if_pos hB, if_neg h2, if_neg (fun q => h1 q.2)]
        exact ⟨rfl, d, by omega, by omega, rfl⟩
    · rw [if_neg hB, if_neg (fun q => hB q.1)]
      exact ⟨rfl, d, by omega, by omega, rfl⟩
theorem dIn_le (w : Int32) {g : Nat → Int32} (a : Nat) (hb : ∀ j, j < a → iN 0 j (g j)) (h10 : a ≤ 10) : iN 0 a (dInX w g a) := by
  induction a with
  | zero => exact ⟨0, by omega, by omega, rfl⟩
  | succ a ih =>
    obtain ⟨d, _, hd, ed⟩ := ih (fun j hj => hb j (by omega)) (by omega)
    obtain ⟨x, _, hx, ex⟩ := hb a (by omega)
    unfold dInX
    rw [ed, ex]
    split
    · split
      · exact ⟨x + 1, by omega, by omega, nI_1 x⟩
      · exact ⟨d, by omega, by omega, rfl⟩
    · exact ⟨d, by omega, by omega, rfl⟩
theorem dRow_e {fr fr' g0 g1 : Nat → Int32} (k : Nat) (hk : k ≤ 10) (h : ∀ j, j < k → fr j = fr' j) : ∀ j, j < k → dRowX fr g0 k j = dRowM fr' g1 k j ∧ iN 0 j (dRowX fr g0 k j) := by
  induction k with
  | zero => intro j hj; omega
  | succ k ih =>
    have i := ih (by omega) (fun j hj => h j (by omega))
    intro j hj
    unfold dRowX dRowM
    by_cases e : j = k
    · subst e
      rw [upd_eq, upd_eq, h j (by omega)]
      have a := dIn_e (fr' j) (g := dRowX fr g0 j) (g' := dRowM fr' g1 j) j (fun q hq => (i q hq).1) (fun q hq => by obtain ⟨v, v1, v2, v3⟩ := (i q hq).2; exact ⟨v, by omega, by omega, v3⟩)
      exact ⟨a.1, dIn_le _ j (fun q hq => (i q hq).2) (by omega)⟩
    · rw [upd_ne _ _ e, upd_ne _ _ e]
      exact i j (by omega)
theorem depth_e {fr fr' g0 g1 : Nat → Int32} {s : Nat} (hs : s < 10) (h : ∀ j, j ≤ s → fr j = fr' j) : dLast fr g0 (s + 1) = dRowM fr' g1 (s + 1) s := by
  rw [← (dRow_e (g0 := g0) (g1 := g1) (s + 1) (by omega) (fun j hj => h j (by omega)) s (by omega)).1]
  show dInX (fr s) (dRowX fr g0 s) s = upd (dRowX fr g0 s) s (dInX (fr s) (dRowX fr g0 s) s) s
  rw [upd_eq]
