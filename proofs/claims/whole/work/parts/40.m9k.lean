set_option maxHeartbeats 1000000 in
set_option maxRecDepth 100000 in
theorem c_X9_copyRow_1 (l : Launch) (D : va_G) (cy : Nat → ClassId) (ad : Nat → Nat) (σ : Nat → Nat → Int32) (f : Nat → Int32) (g : Nat → Int32) (m : Nat) (r_f : σ 8 = f) (r_g : σ 1 = g) (hm : m ≤ 5) : MV l D (tysW cy) 19 ad (cfM ad cy) yX9_copyRow wsX9_copyRow ({ frames := 0, cells := 0, slots := 0, locals := 0 }) σ [.ref (ad 8), .ref (ad 1), .int (nI m)] (fun τ_ => (va_up σ 1 (putN g f 0 m)) = τ_) := by
  refine MV.go (cc := cX9_copyRow) (maxL := 4) (by decide) rfl (Nat.le_of_ble_eq_true rfl) ?_
  intro p_ e_ s_ m_ args_ bl_ mt_ c_ A_ Q_ ls hx hb hml hown hts hK hA hD hP hS hl hret
  have hl : lv_has ls 4 [(0, .ref (ad 8)), (1, .ref (ad 1)), (2, .int (nI m))] := hl
  subst r_f r_g
  refine lv_iconst (v := 0) hx hb dX9_copyRow_0 (by decide) ?_
  refine lv_istore_n (lv' := [(3, .int 0), (0, .ref (ad 8)), (1, .ref (ad 1)), (2, .int (nI m))]) hx hb dX9_copyRow_1 rfl hl (by decide) rfl (fun ls hl => ?_)
  have L2 : ∀ (fu2 : Nat) (i : Nat), (i ≤ m) → m - i < fu2 → ∀ (x3 : Int32) (τ : Nat → Nat → Int32) (H : Heap) (locs : List Loc) (ls : Array Slot), (nI i) = x3 → (va_up σ 1 (putN (σ 1) (σ 8) 0 i)) = τ → va_P D classes (rw_ 19 ad (cfM ad cy) τ) H → va_S A_ s_.heap H locs → lv_has ls 4 [(3, .int x3), (0, .ref (ad 8)), (1, .ref (ad 1)), (2, .int (nI m))] → W p_ l e_ ({ frames := 0, cells := 0, slots := 0, locals := 0 }) s_ m_ args_ bl_ mt_ c_ H locs 0 0 Q_ (F0 m_ 2 ls []) := by
    intro fu2
    induction fu2 with
    | zero => intro i hi hf; exact absurd hf (Nat.not_lt_zero _)
    | succ fu2 ih2 =>
      intro i hi hf2 x3 τ H locs ls ex3 eτ hP hS hl
      subst ex3
      subst eτ
      refine lv_iload_n hx hb dX9_copyRow_2 rfl (lv_at hl 0 rfl) ?_
      refine lv_iload_n hx hb dX9_copyRow_3 rfl (lv_at hl 3 rfl) ?_
      refine lv_icmp_ge (tgt := 19) hx hb dX9_copyRow_4 (by decide) (fun c4 => ?_) (fun c4 => ?_)
      · skip
        have ei := cl_ex hi (by omega) c4
        exact hret hP hS dX9_copyRow_19 (by rw [ei])
      · skip
        have hi2 := cl_in (by omega) (by omega) c4
        refine lv_aload_n hx hb dX9_copyRow_7 rfl (lv_at hl 2 rfl) ?_
        refine lv_iload_n hx hb dX9_copyRow_8 rfl (lv_at hl 0 rfl) ?_
        refine lv_aload_n hx hb dX9_copyRow_9 rfl (lv_at hl 1 rfl) ?_
        refine lv_iload_n hx hb dX9_copyRow_10 rfl (lv_at hl 0 rfl) ?_
        refine rp_iald hx hb hK hP 8 (by decide) (kX9_23 _) 0 rfl i rfl (by omega) (by decide) dX9_copyRow_11 ?_
        rw [show (va_up σ 1 (putN (σ 1) (σ 8) 0 i)) 8 i = (σ 8 i) from (va_R (by decide))]
        refine rp_iast (x := (σ 8 i)) hx hb hK hP hD hS 1 (by decide) (fun f => kX9_4 f) 0 rfl i rfl (by omega) (by decide) dX9_copyRow_12 (fun H locs hP hS => ?_)
        refine lv_iinc (v := ((nI i) + 1)) (lv' := [(3, .int ((nI i) + 1)), (0, .ref (ad 8)), (1, .ref (ad 1)), (2, .int (nI m))]) hx hb dX9_copyRow_13 hl (k := 0) rfl rfl (by decide) rfl (fun ls hl => ?_)
        refine lv_goto (tgt := 2) hx hb dX9_copyRow_16 (by decide) ?_
        exact ih2 (i + 1) (by omega) (by omega) _ _ _ _ _ ((nI_1 i).symm) (by rw [vu_up, ← putN_s, Nat.zero_add]) hP hS (lv_sub hl [0, 1, 2, 3] rfl)
  exact L2 ((m - 0) + 1) 0 (Nat.zero_le _) (Nat.lt_succ_self _) _ _ _ _ _ (by first | rfl | simp [*]) (by rw [putN_0, va_self]) hP hS (lv_sub hl [0, 1, 2, 3] rfl)

set_option maxHeartbeats 1000000 in
set_option maxRecDepth 100000 in
theorem c_X9_copyRow_2 (l : Launch) (D : va_G) (cy : Nat → ClassId) (ad : Nat → Nat) (σ : Nat → Nat → Int32) (f : Nat → Int32) (g : Nat → Int32) (m : Nat) (r_f : σ 9 = f) (r_g : σ 2 = g) (hm : m ≤ 10) : MV l D (tysW cy) 19 ad (cfM ad cy) yX9_copyRow wsX9_copyRow ({ frames := 0, cells := 0, slots := 0, locals := 0 }) σ [.ref (ad 9), .ref (ad 2), .int (nI m)] (fun τ_ => (va_up σ 2 (putN g f 0 m)) = τ_) := by
  refine MV.go (cc := cX9_copyRow) (maxL := 4) (by decide) rfl (Nat.le_of_ble_eq_true rfl) ?_
  intro p_ e_ s_ m_ args_ bl_ mt_ c_ A_ Q_ ls hx hb hml hown hts hK hA hD hP hS hl hret
  have hl : lv_has ls 4 [(0, .ref (ad 9)), (1, .ref (ad 2)), (2, .int (nI m))] := hl
  subst r_f r_g
  refine lv_iconst (v := 0) hx hb dX9_copyRow_0 (by decide) ?_
  refine lv_istore_n (lv' := [(3, .int 0), (0, .ref (ad 9)), (1, .ref (ad 2)), (2, .int (nI m))]) hx hb dX9_copyRow_1 rfl hl (by decide) rfl (fun ls hl => ?_)
  have L2 : ∀ (fu2 : Nat) (i : Nat), (i ≤ m) → m - i < fu2 → ∀ (x3 : Int32) (τ : Nat → Nat → Int32) (H : Heap) (locs : List Loc) (ls : Array Slot), (nI i) = x3 → (va_up σ 2 (putN (σ 2) (σ 9) 0 i)) = τ → va_P D classes (rw_ 19 ad (cfM ad cy) τ) H → va_S A_ s_.heap H locs → lv_has ls 4 [(3, .int x3), (0, .ref (ad 9)), (1, .ref (ad 2)), (2, .int (nI m))] → W p_ l e_ ({ frames := 0, cells := 0, slots := 0, locals := 0 }) s_ m_ args_ bl_ mt_ c_ H locs 0 0 Q_ (F0 m_ 2 ls []) := by
    intro fu2
    induction fu2 with
    | zero => intro i hi hf; exact absurd hf (Nat.not_lt_zero _)
    | succ fu2 ih2 =>
      intro i hi hf2 x3 τ H locs ls ex3 eτ hP hS hl
      subst ex3
      subst eτ
      refine lv_iload_n hx hb dX9_copyRow_2 rfl (lv_at hl 0 rfl) ?_
      refine lv_iload_n hx hb dX9_copyRow_3 rfl (lv_at hl 3 rfl) ?_
      refine lv_icmp_ge (tgt := 19) hx hb dX9_copyRow_4 (by decide) (fun c4 => ?_) (fun c4 => ?_)
      · skip
        have ei := cl_ex hi (by omega) c4
        exact hret hP hS dX9_copyRow_19 (by rw [ei])
      · skip
        have hi2 := cl_in (by omega) (by omega) c4
        refine lv_aload_n hx hb dX9_copyRow_7 rfl (lv_at hl 2 rfl) ?_
        refine lv_iload_n hx hb dX9_copyRow_8 rfl (lv_at hl 0 rfl) ?_
        refine lv_aload_n hx hb dX9_copyRow_9 rfl (lv_at hl 1 rfl) ?_
        refine lv_iload_n hx hb dX9_copyRow_10 rfl (lv_at hl 0 rfl) ?_
        refine rp_iald hx hb hK hP 9 (by decide) (kX9_25 _) 0 rfl i rfl (by omega) (by decide) dX9_copyRow_11 ?_
        rw [show (va_up σ 2 (putN (σ 2) (σ 9) 0 i)) 9 i = (σ 9 i) from (va_R (by decide))]
        refine rp_iast (x := (σ 9 i)) hx hb hK hP hD hS 2 (by decide) (fun f => kX9_6 f) 0 rfl i rfl (by omega) (by decide) dX9_copyRow_12 (fun H locs hP hS => ?_)
        refine lv_iinc (v := ((nI i) + 1)) (lv' := [(3, .int ((nI i) + 1)), (0, .ref (ad 9)), (1, .ref (ad 2)), (2, .int (nI m))]) hx hb dX9_copyRow_13 hl (k := 0) rfl rfl (by decide) rfl (fun ls hl => ?_)
        refine lv_goto (tgt := 2) hx hb dX9_copyRow_16 (by decide) ?_
        exact ih2 (i + 1) (by omega) (by omega) _ _ _ _ _ ((nI_1 i).symm) (by rw [vu_up, ← putN_s, Nat.zero_add]) hP hS (lv_sub hl [0, 1, 2, 3] rfl)
  exact L2 ((m - 0) + 1) 0 (Nat.zero_le _) (Nat.lt_succ_self _) _ _ _ _ _ (by first | rfl | simp [*]) (by rw [putN_0, va_self]) hP hS (lv_sub hl [0, 1, 2, 3] rfl)

set_option maxHeartbeats 1000000 in
set_option maxRecDepth 100000 in
theorem c_X9_copyRow_3 (l : Launch) (D : va_G) (cy : Nat → ClassId) (ad : Nat → Nat) (σ : Nat → Nat → Int32) (f : Nat → Int32) (g : Nat → Int32) (m : Nat) (r_f : σ 10 = f) (r_g : σ 3 = g) (hm : m ≤ 10) : MV l D (tysW cy) 19 ad (cfM ad cy) yX9_copyRow wsX9_copyRow ({ frames := 0, cells := 0, slots := 0, locals := 0 }) σ [.ref (ad 10), .ref (ad 3), .int (nI m)] (fun τ_ => (va_up σ 3 (putN g f 0 m)) = τ_) := by
  refine MV.go (cc := cX9_copyRow) (maxL := 4) (by decide) rfl (Nat.le_of_ble_eq_true rfl) ?_
  intro p_ e_ s_ m_ args_ bl_ mt_ c_ A_ Q_ ls hx hb hml hown hts hK hA hD hP hS hl hret
  have hl : lv_has ls 4 [(0, .ref (ad 10)), (1, .ref (ad 3)), (2, .int (nI m))] := hl
  subst r_f r_g
  refine lv_iconst (v := 0) hx hb dX9_copyRow_0 (by decide) ?_
  refine lv_istore_n (lv' := [(3, .int 0), (0, .ref (ad 10)), (1, .ref (ad 3)), (2, .int (nI m))]) hx hb dX9_copyRow_1 rfl hl (by decide) rfl (fun ls hl => ?_)
  have L2 : ∀ (fu2 : Nat) (i : Nat), (i ≤ m) → m - i < fu2 → ∀ (x3 : Int32) (τ : Nat → Nat → Int32) (H : Heap) (locs : List Loc) (ls : Array Slot), (nI i) = x3 → (va_up σ 3 (putN (σ 3) (σ 10) 0 i)) = τ → va_P D classes (rw_ 19 ad (cfM ad cy) τ) H → va_S A_ s_.heap H locs → lv_has ls 4 [(3, .int x3), (0, .ref (ad 10)), (1, .ref (ad 3)), (2, .int (nI m))] → W p_ l e_ ({ frames := 0, cells := 0, slots := 0, locals := 0 }) s_ m_ args_ bl_ mt_ c_ H locs 0 0 Q_ (F0 m_ 2 ls []) := by
    intro fu2
    induction fu2 with
    | zero => intro i hi hf; exact absurd hf (Nat.not_lt_zero _)
    | succ fu2 ih2 =>
      intro i hi hf2 x3 τ H locs ls ex3 eτ hP hS hl
      subst ex3
      subst eτ
      refine lv_iload_n hx hb dX9_copyRow_2 rfl (lv_at hl 0 rfl) ?_
      refine lv_iload_n hx hb dX9_copyRow_3 rfl (lv_at hl 3 rfl) ?_
      refine lv_icmp_ge (tgt := 19) hx hb dX9_copyRow_4 (by decide) (fun c4 => ?_) (fun c4 => ?_)
      · skip
        have ei := cl_ex hi (by omega) c4
        exact hret hP hS dX9_copyRow_19 (by rw [ei])
      · skip
        have hi2 := cl_in (by omega) (by omega) c4
        refine lv_aload_n hx hb dX9_copyRow_7 rfl (lv_at hl 2 rfl) ?_
        refine lv_iload_n hx hb dX9_copyRow_8 rfl (lv_at hl 0 rfl) ?_
        refine lv_aload_n hx hb dX9_copyRow_9 rfl (lv_at hl 1 rfl) ?_
        refine lv_iload_n hx hb dX9_copyRow_10 rfl (lv_at hl 0 rfl) ?_
        refine rp_iald hx hb hK hP 10 (by decide) (kX9_26 _) 0 rfl i rfl (by omega) (by decide) dX9_copyRow_11 ?_
        rw [show (va_up σ 3 (putN (σ 3) (σ 10) 0 i)) 10 i = (σ 10 i) from (va_R (by decide))]
        refine rp_iast (x := (σ 10 i)) hx hb hK hP hD hS 3 (by decide) (fun f => kX9_7 f) 0 rfl i rfl (by omega) (by decide) dX9_copyRow_12 (fun H locs hP hS => ?_)
        refine lv_iinc (v := ((nI i) + 1)) (lv' := [(3, .int ((nI i) + 1)), (0, .ref (ad 10)), (1, .ref (ad 3)), (2, .int (nI m))]) hx hb dX9_copyRow_13 hl (k := 0) rfl rfl (by decide) rfl (fun ls hl => ?_)
        refine lv_goto (tgt := 2) hx hb dX9_copyRow_16 (by decide) ?_
        exact ih2 (i + 1) (by omega) (by omega) _ _ _ _ _ ((nI_1 i).symm) (by rw [vu_up, ← putN_s, Nat.zero_add]) hP hS (lv_sub hl [0, 1, 2, 3] rfl)
  exact L2 ((m - 0) + 1) 0 (Nat.zero_le _) (Nat.lt_succ_self _) _ _ _ _ _ (by first | rfl | simp [*]) (by rw [putN_0, va_self]) hP hS (lv_sub hl [0, 1, 2, 3] rfl)

set_option maxHeartbeats 1000000 in
set_option maxRecDepth 100000 in
theorem c_X9_copyRow_4 (l : Launch) (D : va_G) (cy : Nat → ClassId) (ad : Nat → Nat) (σ : Nat → Nat → Int32) (f : Nat → Int32) (g : Nat → Int32) (m : Nat) (r_f : σ 11 = f) (r_g : σ 4 = g) (hm : m ≤ 10) : MV l D (tysW cy) 19 ad (cfM ad cy) yX9_copyRow wsX9_copyRow ({ frames := 0, cells := 0, slots := 0, locals := 0 }) σ [.ref (ad 11), .ref (ad 4), .int (nI m)] (fun τ_ => (va_up σ 4 (putN g f 0 m)) = τ_) := by
  refine MV.go (cc := cX9_copyRow) (maxL := 4) (by decide) rfl (Nat.le_of_ble_eq_true rfl) ?_
  intro p_ e_ s_ m_ args_ bl_ mt_ c_ A_ Q_ ls hx hb hml hown hts hK hA hD hP hS hl hret
  have hl : lv_has ls 4 [(0, .ref (ad 11)), (1, .ref (ad 4)), (2, .int (nI m))] := hl
  subst r_f r_g
  refine lv_iconst (v := 0) hx hb dX9_copyRow_0 (by decide) ?_
  refine lv_istore_n (lv' := [(3, .int 0), (0, .ref (ad 11)), (1, .ref (ad 4)), (2, .int (nI m))]) hx hb dX9_copyRow_1 rfl hl (by decide) rfl (fun ls hl => ?_)
  have L2 : ∀ (fu2 : Nat) (i : Nat), (i ≤ m) → m - i < fu2 → ∀ (x3 : Int32) (τ : Nat → Nat → Int32) (H : Heap) (locs : List Loc) (ls : Array Slot), (nI i) = x3 → (va_up σ 4 (putN (σ 4) (σ 11) 0 i)) = τ → va_P D classes (rw_ 19 ad (cfM ad cy) τ) H → va_S A_ s_.heap H locs → lv_has ls 4 [(3, .int x3), (0, .ref (ad 11)), (1, .ref (ad 4)), (2, .int (nI m))] → W p_ l e_ ({ frames := 0, cells := 0, slots := 0, locals := 0 }) s_ m_ args_ bl_ mt_ c_ H locs 0 0 Q_ (F0 m_ 2 ls []) := by
    intro fu2
    induction fu2 with
    | zero => intro i hi hf; exact absurd hf (Nat.not_lt_zero _)
    | succ fu2 ih2 =>
      intro i hi hf2 x3 τ H locs ls ex3 eτ hP hS hl
      subst ex3
      subst eτ
      refine lv_iload_n hx hb dX9_copyRow_2 rfl (lv_at hl 0 rfl) ?_
      refine lv_iload_n hx hb dX9_copyRow_3 rfl (lv_at hl 3 rfl) ?_
      refine lv_icmp_ge (tgt := 19) hx hb dX9_copyRow_4 (by decide) (fun c4 => ?_) (fun c4 => ?_)
      · skip
        have ei := cl_ex hi (by omega) c4
        exact hret hP hS dX9_copyRow_19 (by rw [ei])
      · skip
        have hi2 := cl_in (by omega) (by omega) c4
        refine lv_aload_n hx hb dX9_copyRow_7 rfl (lv_at hl 2 rfl) ?_
        refine lv_iload_n hx hb dX9_copyRow_8 rfl (lv_at hl 0 rfl) ?_
        refine lv_aload_n hx hb dX9_copyRow_9 rfl (lv_at hl 1 rfl) ?_
        refine lv_iload_n hx hb dX9_copyRow_10 rfl (lv_at hl 0 rfl) ?_
        refine rp_iald hx hb hK hP 11 (by decide) (kX9_27 _) 0 rfl i rfl (by omega) (by decide) dX9_copyRow_11 ?_
        rw [show (va_up σ 4 (putN (σ 4) (σ 11) 0 i)) 11 i = (σ 11 i) from (va_R (by decide))]
        refine rp_iast (x := (σ 11 i)) hx hb hK hP hD hS 4 (by decide) (fun f => kX9_8 f) 0 rfl i rfl (by omega) (by decide) dX9_copyRow_12 (fun H locs hP hS => ?_)
        refine lv_iinc (v := ((nI i) + 1)) (lv' := [(3, .int ((nI i) + 1)), (0, .ref (ad 11)), (1, .ref (ad 4)), (2, .int (nI m))]) hx hb dX9_copyRow_13 hl (k := 0) rfl rfl (by decide) rfl (fun ls hl => ?_)
        refine lv_goto (tgt := 2) hx hb dX9_copyRow_16 (by decide) ?_
        exact ih2 (i + 1) (by omega) (by omega) _ _ _ _ _ ((nI_1 i).symm) (by rw [vu_up, ← putN_s, Nat.zero_add]) hP hS (lv_sub hl [0, 1, 2, 3] rfl)
  exact L2 ((m - 0) + 1) 0 (Nat.zero_le _) (Nat.lt_succ_self _) _ _ _ _ _ (by first | rfl | simp [*]) (by rw [putN_0, va_self]) hP hS (lv_sub hl [0, 1, 2, 3] rfl)

set_option maxHeartbeats 1000000 in
set_option maxRecDepth 100000 in
theorem c_X9_copyRow_5 (l : Launch) (D : va_G) (cy : Nat → ClassId) (ad : Nat → Nat) (σ : Nat → Nat → Int32) (f : Nat → Int32) (g : Nat → Int32) (m : Nat) (r_f : σ 12 = f) (r_g : σ 5 = g) (hm : m ≤ 10) : MV l D (tysW cy) 19 ad (cfM ad cy) yX9_copyRow wsX9_copyRow ({ frames := 0, cells := 0, slots := 0, locals := 0 }) σ [.ref (ad 12), .ref (ad 5), .int (nI m)] (fun τ_ => (va_up σ 5 (putN g f 0 m)) = τ_) := by
  refine MV.go (cc := cX9_copyRow) (maxL := 4) (by decide) rfl (Nat.le_of_ble_eq_true rfl) ?_
  intro p_ e_ s_ m_ args_ bl_ mt_ c_ A_ Q_ ls hx hb hml hown hts hK hA hD hP hS hl hret
  have hl : lv_has ls 4 [(0, .ref (ad 12)), (1, .ref (ad 5)), (2, .int (nI m))] := hl
  subst r_f r_g
  refine lv_iconst (v := 0) hx hb dX9_copyRow_0 (by decide) ?_
  refine lv_istore_n (lv' := [(3, .int 0), (0, .ref (ad 12)), (1, .ref (ad 5)), (2, .int (nI m))]) hx hb dX9_copyRow_1 rfl hl (by decide) rfl (fun ls hl => ?_)
  have L2 : ∀ (fu2 : Nat) (i : Nat), (i ≤ m) → m - i < fu2 → ∀ (x3 : Int32) (τ : Nat → Nat → Int32) (H : Heap) (locs : List Loc) (ls : Array Slot), (nI i) = x3 → (va_up σ 5 (putN (σ 5) (σ 12) 0 i)) = τ → va_P D classes (rw_ 19 ad (cfM ad cy) τ) H → va_S A_ s_.heap H locs → lv_has ls 4 [(3, .int x3), (0, .ref (ad 12)), (1, .ref (ad 5)), (2, .int (nI m))] → W p_ l e_ ({ frames := 0, cells := 0, slots := 0, locals := 0 }) s_ m_ args_ bl_ mt_ c_ H locs 0 0 Q_ (F0 m_ 2 ls []) := by
    intro fu2
    induction fu2 with
    | zero => intro i hi hf; exact absurd hf (Nat.not_lt_zero _)
    | succ fu2 ih2 =>
      intro i hi hf2 x3 τ H locs ls ex3 eτ hP hS hl
      subst ex3
      subst eτ
      refine lv_iload_n hx hb dX9_copyRow_2 rfl (lv_at hl 0 rfl) ?_
      refine lv_iload_n hx hb dX9_copyRow_3 rfl (lv_at hl 3 rfl) ?_
      refine lv_icmp_ge (tgt := 19) hx hb dX9_copyRow_4 (by decide) (fun c4 => ?_) (fun c4 => ?_)
      · skip
        have ei := cl_ex hi (by omega) c4
        exact hret hP hS dX9_copyRow_19 (by rw [ei])
      · skip
        have hi2 := cl_in (by omega) (by omega) c4
        refine lv_aload_n hx hb dX9_copyRow_7 rfl (lv_at hl 2 rfl) ?_
        refine lv_iload_n hx hb dX9_copyRow_8 rfl (lv_at hl 0 rfl) ?_
        refine lv_aload_n hx hb dX9_copyRow_9 rfl (lv_at hl 1 rfl) ?_
        refine lv_iload_n hx hb dX9_copyRow_10 rfl (lv_at hl 0 rfl) ?_
        refine rp_iald hx hb hK hP 12 (by decide) (kX9_29 _) 0 rfl i rfl (by omega) (by decide) dX9_copyRow_11 ?_
        rw [show (va_up σ 5 (putN (σ 5) (σ 12) 0 i)) 12 i = (σ 12 i) from (va_R (by decide))]
        refine rp_iast (x := (σ 12 i)) hx hb hK hP hD hS 5 (by decide) (fun f => kX9_10 f) 0 rfl i rfl (by omega) (by decide) dX9_copyRow_12 (fun H locs hP hS => ?_)
        refine lv_iinc (v := ((nI i) + 1)) (lv' := [(3, .int ((nI i) + 1)), (0, .ref (ad 12)), (1, .ref (ad 5)), (2, .int (nI m))]) hx hb dX9_copyRow_13 hl (k := 0) rfl rfl (by decide) rfl (fun ls hl => ?_)
        refine lv_goto (tgt := 2) hx hb dX9_copyRow_16 (by decide) ?_
        exact ih2 (i + 1) (by omega) (by omega) _ _ _ _ _ ((nI_1 i).symm) (by rw [vu_up, ← putN_s, Nat.zero_add]) hP hS (lv_sub hl [0, 1, 2, 3] rfl)
  exact L2 ((m - 0) + 1) 0 (Nat.zero_le _) (Nat.lt_succ_self _) _ _ _ _ _ (by first | rfl | simp [*]) (by rw [putN_0, va_self]) hP hS (lv_sub hl [0, 1, 2, 3] rfl)

def T_X9_takeRead_O (O : Nat → Int32) (ar : Nat → Int32) (ow : Nat → Int32) (wt : Nat → Int32) (wo : Nat → Int32) (fr : Nat → Int32) (N : Nat → Int32) (ra : Nat → Int32) (rh : Nat → Int32) (rg : Nat → Int32) (ro : Nat → Int32) (rf : Nat → Int32) (k : Nat) (n : Nat) : Nat → Int32 := (if (O 19) = 0 then upd (upd (upd (upd (upd (upd O 0 (O 19)) 1 0) 2 0) 3 (nI k)) 5 (nI n)) 9 (O 28) else upd (upd (upd (upd (upd (upd O 0 (O 19)) 1 (O 20)) 2 (O 21)) 3 (nI k)) 5 (nI n)) 9 (O 28))
def T_X9_takeRead_ar (O : Nat → Int32) (ar : Nat → Int32) (ow : Nat → Int32) (wt : Nat → Int32) (wo : Nat → Int32) (fr : Nat → Int32) (N : Nat → Int32) (ra : Nat → Int32) (rh : Nat → Int32) (rg : Nat → Int32) (ro : Nat → Int32) (rf : Nat → Int32) (k : Nat) (n : Nat) : Nat → Int32 := (if (O 19) = 0 then (putN ar ra 0 k) else (putN ar ra 0 k))
def T_X9_takeRead_ow (O : Nat → Int32) (ar : Nat → Int32) (ow : Nat → Int32) (wt : Nat → Int32) (wo : Nat → Int32) (fr : Nat → Int32) (N : Nat → Int32) (ra : Nat → Int32) (rh : Nat → Int32) (rg : Nat → Int32) (ro : Nat → Int32) (rf : Nat → Int32) (k : Nat) (n : Nat) : Nat → Int32 := (if (O 19) = 0 then (putN ow rh 0 n) else (putN ow rh 0 n))
def T_X9_takeRead_wt (O : Nat → Int32) (ar : Nat → Int32) (ow : Nat → Int32) (wt : Nat → Int32) (wo : Nat → Int32) (fr : Nat → Int32) (N : Nat → Int32) (ra : Nat → Int32) (rh : Nat → Int32) (rg : Nat → Int32) (ro : Nat → Int32) (rf : Nat → Int32) (k : Nat) (n : Nat) : Nat → Int32 := (if (O 19) = 0 then (putN wt rg 0 n) else (putN wt rg 0 n))
def T_X9_takeRead_wo (O : Nat → Int32) (ar : Nat → Int32) (ow : Nat → Int32) (wt : Nat → Int32) (wo : Nat → Int32) (fr : Nat → Int32) (N : Nat → Int32) (ra : Nat → Int32) (rh : Nat → Int32) (rg : Nat → Int32) (ro : Nat → Int32) (rf : Nat → Int32) (k : Nat) (n : Nat) : Nat → Int32 := (if (O 19) = 0 then (putN wo ro 0 n) else (putN wo ro 0 n))
def T_X9_takeRead_fr (O : Nat → Int32) (ar : Nat → Int32) (ow : Nat → Int32) (wt : Nat → Int32) (wo : Nat → Int32) (fr : Nat → Int32) (N : Nat → Int32) (ra : Nat → Int32) (rh : Nat → Int32) (rg : Nat → Int32) (ro : Nat → Int32) (rf : Nat → Int32) (k : Nat) (n : Nat) : Nat → Int32 := (if (O 19) = 0 then (putN fr rf 0 n) else (putN fr rf 0 n))
def T_X9_takeRead_N (O : Nat → Int32) (ar : Nat → Int32) (ow : Nat → Int32) (wt : Nat → Int32) (wo : Nat → Int32) (fr : Nat → Int32) (N : Nat → Int32) (ra : Nat → Int32) (rh : Nat → Int32) (rg : Nat → Int32) (ro : Nat → Int32) (rf : Nat → Int32) (k : Nat) (n : Nat) : Nat → Int32 := (if (O 19) = 0 then upd (putN N (fun _ => 0) 0 23) 12 0 else upd (putN N (fun _ => 0) 0 23) 12 (O 20))
theorem in_X9_takeRead_X9 : ∀ w ∈ u_ws RX9 TX9 38, w ∈ wsX9_takeRead := by decide +kernel
set_option maxHeartbeats 1000000 in
set_option maxRecDepth 100000 in
theorem c_X9_takeRead (l : Launch) (D : va_G) (cy : Nat → ClassId) (ad : Nat → Nat) (σ : Nat → Nat → Int32) (O : Nat → Int32) (ar : Nat → Int32) (ow : Nat → Int32) (wt : Nat → Int32) (wo : Nat → Int32) (fr : Nat → Int32) (N : Nat → Int32) (ra : Nat → Int32) (rh : Nat → Int32) (rg : Nat → Int32) (ro : Nat → Int32) (rf : Nat → Int32) (k : Nat) (n : Nat) (r_O : σ 0 = O) (r_ar : σ 1 = ar) (r_ow : σ 2 = ow) (r_wt : σ 3 = wt) (r_wo : σ 4 = wo) (r_fr : σ 5 = fr) (r_N : σ 6 = N) (r_ra : σ 8 = ra) (r_rh : σ 9 = rh) (r_rg : σ 10 = rg) (r_ro : σ 11 = ro) (r_rf : σ 12 = rf) (hk : k ≤ 5) (ek : σ 0 22 = nI k) (hn : n ≤ 10) (en : σ 0 24 = nI n) (hvb : vb (σ 0 19)) : MV l D (tysW cy) 19 ad (cfM ad cy) yX9_takeRead wsX9_takeRead ({ frames := 1, cells := 0, slots := 0, locals := 23 }) σ [.ref (ad 0)] (fun τ_ => (va_up (va_up (va_up (va_up (va_up (va_up (va_up σ 0 (T_X9_takeRead_O O ar ow wt wo fr N ra rh rg ro rf k n)) 1 (T_X9_takeRead_ar O ar ow wt wo fr N ra rh rg ro rf k n)) 2 (T_X9_takeRead_ow O ar ow wt wo fr N ra rh rg ro rf k n)) 3 (T_X9_takeRead_wt O ar ow wt wo fr N ra rh rg ro rf k n)) 4 (T_X9_takeRead_wo O ar ow wt wo fr N ra rh rg ro rf k n)) 5 (T_X9_takeRead_fr O ar ow wt wo fr N ra rh rg ro rf k n)) 6 (T_X9_takeRead_N O ar ow wt wo fr N ra rh rg ro rf k n)) = τ_) := by
  refine MV.go (cc := cX9_takeRead) (maxL := 2) (by decide) rfl (Nat.le_of_ble_eq_true rfl) ?_
  intro p_ e_ s_ m_ args_ bl_ mt_ c_ A_ Q_ ls hx hb hml hown hts hK hA hD hP hS hl hret
  have hl : lv_has ls 2 [(0, .ref (ad 0))] := hl
  subst r_O r_ar r_ow r_wt r_wo r_fr r_N r_ra r_rh r_rg r_ro r_rf
  have hP : va_P D classes (rw_ 19 ad (cfM ad cy) (va_up (va_up (va_up (va_up (va_up (va_up (va_up σ 0 (σ 0)) 1 (σ 1)) 2 (σ 2)) 3 (σ 3)) 4 (σ 4)) 5 (σ 5)) 6 (σ 6))) s_.heap := by rw [va_selfR _ 6 (((va_Q (by decide)).trans ((va_Q (by decide)).trans ((va_Q (by decide)).trans ((va_Q (by decide)).trans ((va_Q (by decide)).trans (va_Q (by decide)))))))), va_selfR _ 5 (((va_Q (by decide)).trans ((va_Q (by decide)).trans ((va_Q (by decide)).trans ((va_Q (by decide)).trans (va_Q (by decide))))))), va_selfR _ 4 (((va_Q (by decide)).trans ((va_Q (by decide)).trans ((va_Q (by decide)).trans (va_Q (by decide)))))), va_selfR _ 3 (((va_Q (by decide)).trans ((va_Q (by decide)).trans (va_Q (by decide))))), va_selfR _ 2 (((va_Q (by decide)).trans (va_Q (by decide)))), va_selfR _ 1 ((va_Q (by decide))), va_selfR _ 0 (rfl)]; exact hP
  refine lv_aload_n hx hb dX9_takeRead_0 rfl (lv_at hl 0 rfl) ?_
  refine lv_aload_n hx hb dX9_takeRead_1 rfl (lv_at hl 0 rfl) ?_
  refine rp_get (C := RX9) (T := TX9) (N := 38) hx hb hts in_X9_takeRead_X9 hown hK hP 0 (by decide) (kX9 _) rfl 19 (by decide) (by decide +kernel) rfl dX9_takeRead_2 ?_
  rw [show (va_up (va_up (va_up (va_up (va_up (va_up (va_up σ 0 (σ 0)) 1 (σ 1)) 2 (σ 2)) 3 (σ 3)) 4 (σ 4)) 5 (σ 5)) 6 (σ 6)) 0 19 = (σ 0 19) from ((va_R (by decide)).trans ((va_R (by decide)).trans ((va_R (by decide)).trans ((va_R (by decide)).trans ((va_R (by decide)).trans ((va_R (by decide)).trans va_S'))))))]
  refine rp_put (C := RX9) (T := TX9) (N := 38) (v := (σ 0 19)) hx hb hts in_X9_takeRead_X9 tyX9 tyX9_ok nmX9 hown hK hP hD hS 0 (by decide) (kX9 _) rfl 0 (by decide) (by decide +kernel) rfl (vb_n hvb) (vb_f hvb) (Nat.le_of_ble_eq_true rfl) (kp9_0 _ _) dX9_takeRead_5 (fun H locs hP hS => ?_)
  rw [show up2 (va_up (va_up (va_up (va_up (va_up (va_up (va_up σ 0 (σ 0)) 1 (σ 1)) 2 (σ 2)) 3 (σ 3)) 4 (σ 4)) 5 (σ 5)) 6 (σ 6)) 0 0 (σ 0 19) = va_up (va_up (va_up (va_up (va_up (va_up (va_up σ 0 (upd (σ 0) 0 (σ 0 19))) 1 (σ 1)) 2 (σ 2)) 3 (σ 3)) 4 (σ 4)) 5 (σ 5)) 6 (σ 6) from ((up2_in (by decide)).trans (congrArg (fun z => va_up z 6 _) ((up2_in (by decide)).trans (congrArg (fun z => va_up z 5 _) ((up2_in (by decide)).trans (congrArg (fun z => va_up z 4 _) ((up2_in (by decide)).trans (congrArg (fun z => va_up z 3 _) ((up2_in (by decide)).trans (congrArg (fun z => va_up z 2 _) ((up2_in (by decide)).trans (congrArg (fun z => va_up z 1 _) (vu_up _ _ _ _ _)))))))))))))] at hP
  refine lv_aload_n hx hb dX9_takeRead_8 rfl (lv_at hl 0 rfl) ?_
  refine lv_aload_n hx hb dX9_takeRead_9 rfl (lv_at hl 0 rfl) ?_
  refine rp_get (C := RX9) (T := TX9) (N := 38) hx hb hts in_X9_takeRead_X9 hown hK hP 0 (by decide) (kX9 _) rfl 19 (by decide) (by decide +kernel) rfl dX9_takeRead_10 ?_
  rw [show (va_up (va_up (va_up (va_up (va_up (va_up (va_up σ 0 (upd (σ 0) 0 (σ 0 19))) 1 (σ 1)) 2 (σ 2)) 3 (σ 3)) 4 (σ 4)) 5 (σ 5)) 6 (σ 6)) 0 19 = (σ 0 19) from ((va_R (by decide)).trans ((va_R (by decide)).trans ((va_R (by decide)).trans ((va_R (by decide)).trans ((va_R (by decide)).trans ((va_R (by decide)).trans (va_S'.trans (pk_un (by decide)))))))))]
  refine lv_if_eq (tgt := 23) hx hb dX9_takeRead_13 (by decide) (fun c13 => ?_) (fun c13 => ?_)
  · skip
    refine lv_iconst (v := 0) hx hb dX9_takeRead_23 (by decide) ?_
    refine rp_put (C := RX9) (T := TX9) (N := 38) (v := 0) hx hb hts in_X9_takeRead_X9 tyX9 tyX9_ok nmX9 hown hK hP hD hS 0 (by decide) (kX9 _) rfl 1 (by decide) (by decide +kernel) rfl rfl rfl (Nat.le_of_ble_eq_true rfl) (kp9_1 _ _) dX9_takeRead_24 (fun H locs hP hS => ?_)
    rw [show up2 (va_up (va_up (va_up (va_up (va_up (va_up (va_up σ 0 (upd (σ 0) 0 (σ 0 19))) 1 (σ 1)) 2 (σ 2)) 3 (σ 3)) 4 (σ 4)) 5 (σ 5)) 6 (σ 6)) 0 1 0 = va_up (va_up (va_up (va_up (va_up (va_up (va_up σ 0 (upd (upd (σ 0) 0 (σ 0 19)) 1 0)) 1 (σ 1)) 2 (σ 2)) 3 (σ 3)) 4 (σ 4)) 5 (σ 5)) 6 (σ 6) from ((up2_in (by decide)).trans (congrArg (fun z => va_up z 6 _) ((up2_in (by decide)).trans (congrArg (fun z => va_up z 5 _) ((up2_in (by decide)).trans (congrArg (fun z => va_up z 4 _) ((up2_in (by decide)).trans (congrArg (fun z => va_up z 3 _) ((up2_in (by decide)).trans (congrArg (fun z => va_up z 2 _) ((up2_in (by decide)).trans (congrArg (fun z => va_up z 1 _) (vu_up _ _ _ _ _)))))))))))))] at hP
    refine lv_aload_n hx hb dX9_takeRead_27 rfl (lv_at hl 0 rfl) ?_
    refine lv_aload_n hx hb dX9_takeRead_28 rfl (lv_at hl 0 rfl) ?_
    refine rp_get (C := RX9) (T := TX9) (N := 38) hx hb hts in_X9_takeRead_X9 hown hK hP 0 (by decide) (kX9 _) rfl 19 (by decide) (by decide +kernel) rfl dX9_takeRead_29 ?_
    rw [show (va_up (va_up (va_up (va_up (va_up (va_up (va_up σ 0 (upd (upd (σ 0) 0 (σ 0 19)) 1 0)) 1 (σ 1)) 2 (σ 2)) 3 (σ 3)) 4 (σ 4)) 5 (σ 5)) 6 (σ 6)) 0 19 = (σ 0 19) from ((va_R (by decide)).trans ((va_R (by decide)).trans ((va_R (by decide)).trans ((va_R (by decide)).trans ((va_R (by decide)).trans ((va_R (by decide)).trans (va_S'.trans ((pk_un (by decide)).trans (pk_un (by decide))))))))))]
    refine lv_if_eq (tgt := 42) hx hb dX9_takeRead_32 (by decide) (fun c32 => ?_) (fun c32 => ?_)
    · skip
      refine lv_iconst (v := 0) hx hb dX9_takeRead_42 (by decide) ?_
      refine rp_put (C := RX9) (T := TX9) (N := 38) (v := 0) hx hb hts in_X9_takeRead_X9 tyX9 tyX9_ok nmX9 hown hK hP hD hS 0 (by decide) (kX9 _) rfl 2 (by decide) (by decide +kernel) rfl rfl rfl (Nat.le_of_ble_eq_true rfl) (kp9_2 _ _) dX9_takeRead_43 (fun H locs hP hS => ?_)
      rw [show up2 (va_up (va_up (va_up (va_up (va_up (va_up (va_up σ 0 (upd (upd (σ 0) 0 (σ 0 19)) 1 0)) 1 (σ 1)) 2 (σ 2)) 3 (σ 3)) 4 (σ 4)) 5 (σ 5)) 6 (σ 6)) 0 2 0 = va_up (va_up (va_up (va_up (va_up (va_up (va_up σ 0 (upd (upd (upd (σ 0) 0 (σ 0 19)) 1 0) 2 0)) 1 (σ 1)) 2 (σ 2)) 3 (σ 3)) 4 (σ 4)) 5 (σ 5)) 6 (σ 6) from ((up2_in (by decide)).trans (congrArg (fun z => va_up z 6 _) ((up2_in (by decide)).trans (congrArg (fun z => va_up z 5 _) ((up2_in (by decide)).trans (congrArg (fun z => va_up z 4 _) ((up2_in (by decide)).trans (congrArg (fun z => va_up z 3 _) ((up2_in (by decide)).trans (congrArg (fun z => va_up z 2 _) ((up2_in (by decide)).trans (congrArg (fun z => va_up z 1 _) (vu_up _ _ _ _ _)))))))))))))] at hP
      refine lv_aload_n hx hb dX9_takeRead_46 rfl (lv_at hl 0 rfl) ?_
      refine lv_aload_n hx hb dX9_takeRead_47 rfl (lv_at hl 0 rfl) ?_
      refine rp_get (C := RX9) (T := TX9) (N := 38) hx hb hts in_X9_takeRead_X9 hown hK hP 0 (by decide) (kX9 _) rfl 22 (by decide) (by decide +kernel) rfl dX9_takeRead_48 ?_
      rw [show (va_up (va_up (va_up (va_up (va_up (va_up (va_up σ 0 (upd (upd (upd (σ 0) 0 (σ 0 19)) 1 0) 2 0)) 1 (σ 1)) 2 (σ 2)) 3 (σ 3)) 4 (σ 4)) 5 (σ 5)) 6 (σ 6)) 0 22 = (σ 0 22) from ((va_R (by decide)).trans ((va_R (by decide)).trans ((va_R (by decide)).trans ((va_R (by decide)).trans ((va_R (by decide)).trans ((va_R (by decide)).trans (va_S'.trans ((pk_un (by decide)).trans ((pk_un (by decide)).trans (pk_un (by decide)))))))))))]
      rw [ek]
      refine rp_put (C := RX9) (T := TX9) (N := 38) (v := (nI k)) hx hb hts in_X9_takeRead_X9 tyX9 tyX9_ok nmX9 hown hK hP hD hS 0 (by decide) (kX9 _) rfl 3 (by decide) (by decide +kernel) rfl rfl rfl (Nat.le_of_ble_eq_true rfl) (kp9_3 _ _) dX9_takeRead_51 (fun H locs hP hS => ?_)
      rw [show up2 (va_up (va_up (va_up (va_up (va_up (va_up (va_up σ 0 (upd (upd (upd (σ 0) 0 (σ 0 19)) 1 0) 2 0)) 1 (σ 1)) 2 (σ 2)) 3 (σ 3)) 4 (σ 4)) 5 (σ 5)) 6 (σ 6)) 0 3 (nI k) = va_up (va_up (va_up (va_up (va_up (va_up (va_up σ 0 (upd (upd (upd (upd (σ 0) 0 (σ 0 19)) 1 0) 2 0) 3 (nI k))) 1 (σ 1)) 2 (σ 2)) 3 (σ 3)) 4 (σ 4)) 5 (σ 5)) 6 (σ 6) from ((up2_in (by decide)).trans (congrArg (fun z => va_up z 6 _) ((up2_in (by decide)).trans (congrArg (fun z => va_up z 5 _) ((up2_in (by decide)).trans (congrArg (fun z => va_up z 4 _) ((up2_in (by decide)).trans (congrArg (fun z => va_up z 3 _) ((up2_in (by decide)).trans (congrArg (fun z => va_up z 2 _) ((up2_in (by decide)).trans (congrArg (fun z => va_up z 1 _) (vu_up _ _ _ _ _)))))))))))))] at hP
      refine lv_aload_n hx hb dX9_takeRead_54 rfl (lv_at hl 0 rfl) ?_
      refine lv_aload_n hx hb dX9_takeRead_55 rfl (lv_at hl 0 rfl) ?_
      refine rp_get (C := RX9) (T := TX9) (N := 38) hx hb hts in_X9_takeRead_X9 hown hK hP 0 (by decide) (kX9 _) rfl 24 (by decide) (by decide +kernel) rfl dX9_takeRead_56 ?_
      rw [show (va_up (va_up (va_up (va_up (va_up (va_up (va_up σ 0 (upd (upd (upd (upd (σ 0) 0 (σ 0 19)) 1 0) 2 0) 3 (nI k))) 1 (σ 1)) 2 (σ 2)) 3 (σ 3)) 4 (σ 4)) 5 (σ 5)) 6 (σ 6)) 0 24 = (σ 0 24) from ((va_R (by decide)).trans ((va_R (by decide)).trans ((va_R (by decide)).trans ((va_R (by decide)).trans ((va_R (by decide)).trans ((va_R (by decide)).trans (va_S'.trans ((pk_un (by decide)).trans ((pk_un (by decide)).trans ((pk_un (by decide)).trans (pk_un (by decide))))))))))))]
      rw [en]
      refine rp_put (C := RX9) (T := TX9) (N := 38) (v := (nI n)) hx hb hts in_X9_takeRead_X9 tyX9 tyX9_ok nmX9 hown hK hP hD hS 0 (by decide) (kX9 _) rfl 5 (by decide) (by decide +kernel) rfl rfl rfl (Nat.le_of_ble_eq_true rfl) (kp9_5 _ _) dX9_takeRead_59 (fun H locs hP hS => ?_)
      rw [show up2 (va_up (va_up (va_up (va_up (va_up (va_up (va_up σ 0 (upd (upd (upd (upd (σ 0) 0 (σ 0 19)) 1 0) 2 0) 3 (nI k))) 1 (σ 1)) 2 (σ 2)) 3 (σ 3)) 4 (σ 4)) 5 (σ 5)) 6 (σ 6)) 0 5 (nI n) = va_up (va_up (va_up (va_up (va_up (va_up (va_up σ 0 (upd (upd (upd (upd (upd (σ 0) 0 (σ 0 19)) 1 0) 2 0) 3 (nI k)) 5 (nI n))) 1 (σ 1)) 2 (σ 2)) 3 (σ 3)) 4 (σ 4)) 5 (σ 5)) 6 (σ 6) from ((up2_in (by decide)).trans (congrArg (fun z => va_up z 6 _) ((up2_in (by decide)).trans (congrArg (fun z => va_up z 5 _) ((up2_in (by decide)).trans (congrArg (fun z => va_up z 4 _) ((up2_in (by decide)).trans (congrArg (fun z => va_up z 3 _) ((up2_in (by decide)).trans (congrArg (fun z => va_up z 2 _) ((up2_in (by decide)).trans (congrArg (fun z => va_up z 1 _) (vu_up _ _ _ _ _)))))))))))))] at hP
      refine lv_aload_n hx hb dX9_takeRead_62 rfl (lv_at hl 0 rfl) ?_
      refine lv_aload_n hx hb dX9_takeRead_63 rfl (lv_at hl 0 rfl) ?_
      refine rp_get (C := RX9) (T := TX9) (N := 38) hx hb hts in_X9_takeRead_X9 hown hK hP 0 (by decide) (kX9 _) rfl 28 (by decide) (by decide +kernel) rfl dX9_takeRead_64 ?_
      rw [show (va_up (va_up (va_up (va_up (va_up (va_up (va_up σ 0 (upd (upd (upd (upd (upd (σ 0) 0 (σ 0 19)) 1 0) 2 0) 3 (nI k)) 5 (nI n))) 1 (σ 1)) 2 (σ 2)) 3 (σ 3)) 4 (σ 4)) 5 (σ 5)) 6 (σ 6)) 0 28 = (σ 0 28) from ((va_R (by decide)).trans ((va_R (by decide)).trans ((va_R (by decide)).trans ((va_R (by decide)).trans ((va_R (by decide)).trans ((va_R (by decide)).trans (va_S'.trans ((pk_un (by decide)).trans ((pk_un (by decide)).trans ((pk_un (by decide)).trans ((pk_un (by decide)).trans (pk_un (by decide)))))))))))))]
      refine rp_put (C := RX9) (T := TX9) (N := 38) (v := (σ 0 28)) hx hb hts in_X9_takeRead_X9 tyX9 tyX9_ok nmX9 hown hK hP hD hS 0 (by decide) (kX9 _) rfl 9 (by decide) (by decide +kernel) rfl rfl rfl (Nat.le_of_ble_eq_true rfl) (kp9_9 _ _) dX9_takeRead_67 (fun H locs hP hS => ?_)
      rw [show up2 (va_up (va_up (va_up (va_up (va_up (va_up (va_up σ 0 (upd (upd (upd (upd (upd (σ 0) 0 (σ 0 19)) 1 0) 2 0) 3 (nI k)) 5 (nI n))) 1 (σ 1)) 2 (σ 2)) 3 (σ 3)) 4 (σ 4)) 5 (σ 5)) 6 (σ 6)) 0 9 (σ 0 28) = va_up (va_up (va_up (va_up (va_up (va_up (va_up σ 0 (upd (upd (upd (upd (upd (upd (σ 0) 0 (σ 0 19)) 1 0) 2 0) 3 (nI k)) 5 (nI n)) 9 (σ 0 28))) 1 (σ 1)) 2 (σ 2)) 3 (σ 3)) 4 (σ 4)) 5 (σ 5)) 6 (σ 6) from ((up2_in (by decide)).trans (congrArg (fun z => va_up z 6 _) ((up2_in (by decide)).trans (congrArg (fun z => va_up z 5 _) ((up2_in (by decide)).trans (congrArg (fun z => va_up z 4 _) ((up2_in (by decide)).trans (congrArg (fun z => va_up z 3 _) ((up2_in (by decide)).trans (congrArg (fun z => va_up z 2 _) ((up2_in (by decide)).trans (congrArg (fun z => va_up z 1 _) (vu_up _ _ _ _ _)))))))))))))] at hP
      refine lv_aload_n hx hb dX9_takeRead_70 rfl (lv_at hl 0 rfl) ?_
      refine rp_get (C := RX9) (T := TX9) (N := 38) hx hb hts in_X9_takeRead_X9 hown hK hP 0 (by decide) (kX9 _) rfl 23 (by decide) (by decide +kernel) rfl dX9_takeRead_71 ?_
      refine lv_aload_n hx hb dX9_takeRead_74 rfl (lv_at hl 0 rfl) ?_
      refine rp_get (C := RX9) (T := TX9) (N := 38) hx hb hts in_X9_takeRead_X9 hown hK hP 0 (by decide) (kX9 _) rfl 4 (by decide) (by decide +kernel) rfl dX9_takeRead_75 ?_
      refine lv_aload_n hx hb dX9_takeRead_78 rfl (lv_at hl 0 rfl) ?_
      refine rp_get (C := RX9) (T := TX9) (N := 38) hx hb hts in_X9_takeRead_X9 hown hK hP 0 (by decide) (kX9 _) rfl 3 (by decide) (by decide +kernel) rfl dX9_takeRead_79 ?_
      rw [show (va_up (va_up (va_up (va_up (va_up (va_up (va_up σ 0 (upd (upd (upd (upd (upd (upd (σ 0) 0 (σ 0 19)) 1 0) 2 0) 3 (nI k)) 5 (nI n)) 9 (σ 0 28))) 1 (σ 1)) 2 (σ 2)) 3 (σ 3)) 4 (σ 4)) 5 (σ 5)) 6 (σ 6)) 0 3 = (nI k) from ((va_R (by decide)).trans ((va_R (by decide)).trans ((va_R (by decide)).trans ((va_R (by decide)).trans ((va_R (by decide)).trans ((va_R (by decide)).trans (va_S'.trans ((pk_un (by decide)).trans ((pk_un (by decide)).trans pk_us)))))))))]
      refine rp_callSV (na := 3) hx hb hml hown hts hK hA hD hP hS hl.1 [.ref (ad 8), .ref (ad 1), .int (nI k)] (c_X9_copyRow_1 l D cy ad (va_up (va_up (va_up (va_up (va_up (va_up (va_up σ 0 (upd (upd (upd (upd (upd (upd (σ 0) 0 (σ 0 19)) 1 0) 2 0) 3 (nI k)) 5 (nI n)) 9 (σ 0 28))) 1 (σ 1)) 2 (σ 2)) 3 (σ 3)) 4 (σ 4)) 5 (σ 5)) 6 (σ 6)) (σ 8) (σ 1) k ((va_Q (by decide)).trans ((va_Q (by decide)).trans ((va_Q (by decide)).trans ((va_Q (by decide)).trans ((va_Q (by decide)).trans ((va_Q (by decide)).trans (va_Q (by decide)))))))) ((va_Q (by decide)).trans ((va_Q (by decide)).trans ((va_Q (by decide)).trans ((va_Q (by decide)).trans ((va_Q (by decide)).trans va_Qs))))) (by first | assumption | omega)) gX9_takeRead_X9_copyRow rfl (by decide +kernel) rfl ⟨Nat.le_of_ble_eq_true rfl, Nat.le_of_ble_eq_true rfl⟩ ⟨rfl, rfl⟩ ⟨Nat.zero_le _, Nat.zero_le _⟩ rfl (Nat.le_of_ble_eq_true rfl) dX9_takeRead_82 (fun τ_ H locs hq hP hS => ?_)
      subst hq
      rw [show va_up (va_up (va_up (va_up (va_up (va_up (va_up (va_up σ 0 (upd (upd (upd (upd (upd (upd (σ 0) 0 (σ 0 19)) 1 0) 2 0) 3 (nI k)) 5 (nI n)) 9 (σ 0 28))) 1 (σ 1)) 2 (σ 2)) 3 (σ 3)) 4 (σ 4)) 5 (σ 5)) 6 (σ 6)) 1 (putN (σ 1) (σ 8) 0 k) = va_up (va_up (va_up (va_up (va_up (va_up (va_up σ 0 (upd (upd (upd (upd (upd (upd (σ 0) 0 (σ 0 19)) 1 0) 2 0) 3 (nI k)) 5 (nI n)) 9 (σ 0 28))) 1 (putN (σ 1) (σ 8) 0 k)) 2 (σ 2)) 3 (σ 3)) 4 (σ 4)) 5 (σ 5)) 6 (σ 6) from ((va_in (by decide)).trans (congrArg (fun z => va_up z 6 _) ((va_in (by decide)).trans (congrArg (fun z => va_up z 5 _) ((va_in (by decide)).trans (congrArg (fun z => va_up z 4 _) ((va_in (by decide)).trans (congrArg (fun z => va_up z 3 _) ((va_in (by decide)).trans (congrArg (fun z => va_up z 2 _) (bx_uu _ _ _ _)))))))))))] at hP
      refine lv_aload_n hx hb dX9_takeRead_85 rfl (lv_at hl 0 rfl) ?_
      refine rp_get (C := RX9) (T := TX9) (N := 38) hx hb hts in_X9_takeRead_X9 hown hK hP 0 (by decide) (kX9 _) rfl 25 (by decide) (by decide +kernel) rfl dX9_takeRead_86 ?_
      refine lv_aload_n hx hb dX9_takeRead_89 rfl (lv_at hl 0 rfl) ?_
      refine rp_get (C := RX9) (T := TX9) (N := 38) hx hb hts in_X9_takeRead_X9 hown hK hP 0 (by decide) (kX9 _) rfl 6 (by decide) (by decide +kernel) rfl dX9_takeRead_90 ?_
      refine lv_aload_n hx hb dX9_takeRead_93 rfl (lv_at hl 0 rfl) ?_
      refine rp_get (C := RX9) (T := TX9) (N := 38) hx hb hts in_X9_takeRead_X9 hown hK hP 0 (by decide) (kX9 _) rfl 5 (by decide) (by decide +kernel) rfl dX9_takeRead_94 ?_
      rw [show (va_up (va_up (va_up (va_up (va_up (va_up (va_up σ 0 (upd (upd (upd (upd (upd (upd (σ 0) 0 (σ 0 19)) 1 0) 2 0) 3 (nI k)) 5 (nI n)) 9 (σ 0 28))) 1 (putN (σ 1) (σ 8) 0 k)) 2 (σ 2)) 3 (σ 3)) 4 (σ 4)) 5 (σ 5)) 6 (σ 6)) 0 5 = (nI n) from ((va_R (by decide)).trans ((va_R (by decide)).trans ((va_R (by decide)).trans ((va_R (by decide)).trans ((va_R (by decide)).trans ((va_R (by decide)).trans (va_S'.trans ((pk_un (by decide)).trans pk_us))))))))]
      refine rp_callSV (na := 3) hx hb hml hown hts hK hA hD hP hS hl.1 [.ref (ad 9), .ref (ad 2), .int (nI n)] (c_X9_copyRow_2 l D cy ad (va_up (va_up (va_up (va_up (va_up (va_up (va_up σ 0 (upd (upd (upd (upd (upd (upd (σ 0) 0 (σ 0 19)) 1 0) 2 0) 3 (nI k)) 5 (nI n)) 9 (σ 0 28))) 1 (putN (σ 1) (σ 8) 0 k)) 2 (σ 2)) 3 (σ 3)) 4 (σ 4)) 5 (σ 5)) 6 (σ 6)) (σ 9) (σ 2) n ((va_Q (by decide)).trans ((va_Q (by decide)).trans ((va_Q (by decide)).trans ((va_Q (by decide)).trans ((va_Q (by decide)).trans ((va_Q (by decide)).trans (va_Q (by decide)))))))) ((va_Q (by decide)).trans ((va_Q (by decide)).trans ((va_Q (by decide)).trans ((va_Q (by decide)).trans va_Qs)))) (by first | assumption | omega)) gX9_takeRead_X9_copyRow rfl (by decide +kernel) rfl ⟨Nat.le_of_ble_eq_true rfl, Nat.le_of_ble_eq_true rfl⟩ ⟨rfl, rfl⟩ ⟨Nat.zero_le _, Nat.zero_le _⟩ rfl (Nat.le_of_ble_eq_true rfl) dX9_takeRead_97 (fun τ_ H locs hq hP hS => ?_)
      subst hq
      rw [show va_up (va_up (va_up (va_up (va_up (va_up (va_up (va_up σ 0 (upd (upd (upd (upd (upd (upd (σ 0) 0 (σ 0 19)) 1 0) 2 0) 3 (nI k)) 5 (nI n)) 9 (σ 0 28))) 1 (putN (σ 1) (σ 8) 0 k)) 2 (σ 2)) 3 (σ 3)) 4 (σ 4)) 5 (σ 5)) 6 (σ 6)) 2 (putN (σ 2) (σ 9) 0 n) = va_up (va_up (va_up (va_up (va_up (va_up (va_up σ 0 (upd (upd (upd (upd (upd (upd (σ 0) 0 (σ 0 19)) 1 0) 2 0) 3 (nI k)) 5 (nI n)) 9 (σ 0 28))) 1 (putN (σ 1) (σ 8) 0 k)) 2 (putN (σ 2) (σ 9) 0 n)) 3 (σ 3)) 4 (σ 4)) 5 (σ 5)) 6 (σ 6) from ((va_in (by decide)).trans (congrArg (fun z => va_up z 6 _) ((va_in (by decide)).trans (congrArg (fun z => va_up z 5 _) ((va_in (by decide)).trans (congrArg (fun z => va_up z 4 _) ((va_in (by decide)).trans (congrArg (fun z => va_up z 3 _) (bx_uu _ _ _ _)))))))))] at hP
      refine lv_aload_n hx hb dX9_takeRead_100 rfl (lv_at hl 0 rfl) ?_
      refine rp_get (C := RX9) (T := TX9) (N := 38) hx hb hts in_X9_takeRead_X9 hown hK hP 0 (by decide) (kX9 _) rfl 26 (by decide) (by decide +kernel) rfl dX9_takeRead_101 ?_
      refine lv_aload_n hx hb dX9_takeRead_104 rfl (lv_at hl 0 rfl) ?_
      refine rp_get (C := RX9) (T := TX9) (N := 38) hx hb hts in_X9_takeRead_X9 hown hK hP 0 (by decide) (kX9 _) rfl 7 (by decide) (by decide +kernel) rfl dX9_takeRead_105 ?_
      refine lv_aload_n hx hb dX9_takeRead_108 rfl (lv_at hl 0 rfl) ?_
      refine rp_get (C := RX9) (T := TX9) (N := 38) hx hb hts in_X9_takeRead_X9 hown hK hP 0 (by decide) (kX9 _) rfl 5 (by decide) (by decide +kernel) rfl dX9_takeRead_109 ?_
      rw [show (va_up (va_up (va_up (va_up (va_up (va_up (va_up σ 0 (upd (upd (upd (upd (upd (upd (σ 0) 0 (σ 0 19)) 1 0) 2 0) 3 (nI k)) 5 (nI n)) 9 (σ 0 28))) 1 (putN (σ 1) (σ 8) 0 k)) 2 (putN (σ 2) (σ 9) 0 n)) 3 (σ 3)) 4 (σ 4)) 5 (σ 5)) 6 (σ 6)) 0 5 = (nI n) from ((va_R (by decide)).trans ((va_R (by decide)).trans ((va_R (by decide)).trans ((va_R (by decide)).trans ((va_R (by decide)).trans ((va_R (by decide)).trans (va_S'.trans ((pk_un (by decide)).trans pk_us))))))))]
      refine rp_callSV (na := 3) hx hb hml hown hts hK hA hD hP hS hl.1 [.ref (ad 10), .ref (ad 3), .int (nI n)] (c_X9_copyRow_3 l D cy ad (va_up (va_up (va_up (va_up (va_up (va_up (va_up σ 0 (upd (upd (upd (upd (upd (upd (σ 0) 0 (σ 0 19)) 1 0) 2 0) 3 (nI k)) 5 (nI n)) 9 (σ 0 28))) 1 (putN (σ 1) (σ 8) 0 k)) 2 (putN (σ 2) (σ 9) 0 n)) 3 (σ 3)) 4 (σ 4)) 5 (σ 5)) 6 (σ 6)) (σ 10) (σ 3) n ((va_Q (by decide)).trans ((va_Q (by decide)).trans ((va_Q (by decide)).trans ((va_Q (by decide)).trans ((va_Q (by decide)).trans ((va_Q (by decide)).trans (va_Q (by decide)))))))) ((va_Q (by decide)).trans ((va_Q (by decide)).trans ((va_Q (by decide)).trans va_Qs))) (by first | assumption | omega)) gX9_takeRead_X9_copyRow rfl (by decide +kernel) rfl ⟨Nat.le_of_ble_eq_true rfl, Nat.le_of_ble_eq_true rfl⟩ ⟨rfl, rfl⟩ ⟨Nat.zero_le _, Nat.zero_le _⟩ rfl (Nat.le_of_ble_eq_true rfl) dX9_takeRead_112 (fun τ_ H locs hq hP hS => ?_)
      subst hq
      rw [show va_up (va_up (va_up (va_up (va_up (va_up (va_up (va_up σ 0 (upd (upd (upd (upd (upd (upd (σ 0) 0 (σ 0 19)) 1 0) 2 0) 3 (nI k)) 5 (nI n)) 9 (σ 0 28))) 1 (putN (σ 1) (σ 8) 0 k)) 2 (putN (σ 2) (σ 9) 0 n)) 3 (σ 3)) 4 (σ 4)) 5 (σ 5)) 6 (σ 6)) 3 (putN (σ 3) (σ 10) 0 n) = va_up (va_up (va_up (va_up (va_up (va_up (va_up σ 0 (upd (upd (upd (upd (upd (upd (σ 0) 0 (σ 0 19)) 1 0) 2 0) 3 (nI k)) 5 (nI n)) 9 (σ 0 28))) 1 (putN (σ 1) (σ 8) 0 k)) 2 (putN (σ 2) (σ 9) 0 n)) 3 (putN (σ 3) (σ 10) 0 n)) 4 (σ 4)) 5 (σ 5)) 6 (σ 6) from ((va_in (by decide)).trans (congrArg (fun z => va_up z 6 _) ((va_in (by decide)).trans (congrArg (fun z => va_up z 5 _) ((va_in (by decide)).trans (congrArg (fun z => va_up z 4 _) (bx_uu _ _ _ _)))))))] at hP
      refine lv_aload_n hx hb dX9_takeRead_115 rfl (lv_at hl 0 rfl) ?_
      refine rp_get (C := RX9) (T := TX9) (N := 38) hx hb hts in_X9_takeRead_X9 hown hK hP 0 (by decide) (kX9 _) rfl 27 (by decide) (by decide +kernel) rfl dX9_takeRead_116 ?_
      refine lv_aload_n hx hb dX9_takeRead_119 rfl (lv_at hl 0 rfl) ?_
      refine rp_get (C := RX9) (T := TX9) (N := 38) hx hb hts in_X9_takeRead_X9 hown hK hP 0 (by decide) (kX9 _) rfl 8 (by decide) (by decide +kernel) rfl dX9_takeRead_120 ?_
      refine lv_aload_n hx hb dX9_takeRead_123 rfl (lv_at hl 0 rfl) ?_
      refine rp_get (C := RX9) (T := TX9) (N := 38) hx hb hts in_X9_takeRead_X9 hown hK hP 0 (by decide) (kX9 _) rfl 5 (by decide) (by decide +kernel) rfl dX9_takeRead_124 ?_
      rw [show (va_up (va_up (va_up (va_up (va_up (va_up (va_up σ 0 (upd (upd (upd (upd (upd (upd (σ 0) 0 (σ 0 19)) 1 0) 2 0) 3 (nI k)) 5 (nI n)) 9 (σ 0 28))) 1 (putN (σ 1) (σ 8) 0 k)) 2 (putN (σ 2) (σ 9) 0 n)) 3 (putN (σ 3) (σ 10) 0 n)) 4 (σ 4)) 5 (σ 5)) 6 (σ 6)) 0 5 = (nI n) from ((va_R (by decide)).trans ((va_R (by decide)).trans ((va_R (by decide)).trans ((va_R (by decide)).trans ((va_R (by decide)).trans ((va_R (by decide)).trans (va_S'.trans ((pk_un (by decide)).trans pk_us))))))))]
      refine rp_callSV (na := 3) hx hb hml hown hts hK hA hD hP hS hl.1 [.ref (ad 11), .ref (ad 4), .int (nI n)] (c_X9_copyRow_4 l D cy ad (va_up (va_up (va_up (va_up (va_up (va_up (va_up σ 0 (upd (upd (upd (upd (upd (upd (σ 0) 0 (σ 0 19)) 1 0) 2 0) 3 (nI k)) 5 (nI n)) 9 (σ 0 28))) 1 (putN (σ 1) (σ 8) 0 k)) 2 (putN (σ 2) (σ 9) 0 n)) 3 (putN (σ 3) (σ 10) 0 n)) 4 (σ 4)) 5 (σ 5)) 6 (σ 6)) (σ 11) (σ 4) n ((va_Q (by decide)).trans ((va_Q (by decide)).trans ((va_Q (by decide)).trans ((va_Q (by decide)).trans ((va_Q (by decide)).trans ((va_Q (by decide)).trans (va_Q (by decide)))))))) ((va_Q (by decide)).trans ((va_Q (by decide)).trans va_Qs)) (by first | assumption | omega)) gX9_takeRead_X9_copyRow rfl (by decide +kernel) rfl ⟨Nat.le_of_ble_eq_true rfl, Nat.le_of_ble_eq_true rfl⟩ ⟨rfl, rfl⟩ ⟨Nat.zero_le _, Nat.zero_le _⟩ rfl (Nat.le_of_ble_eq_true rfl) dX9_takeRead_127 (fun τ_ H locs hq hP hS => ?_)
      subst hq
      rw [show va_up (va_up (va_up (va_up (va_up (va_up (va_up (va_up σ 0 (upd (upd (upd (upd (upd (upd (σ 0) 0 (σ 0 19)) 1 0) 2 0) 3 (nI k)) 5 (nI n)) 9 (σ 0 28))) 1 (putN (σ 1) (σ 8) 0 k)) 2 (putN (σ 2) (σ 9) 0 n)) 3 (putN (σ 3) (σ 10) 0 n)) 4 (σ 4)) 5 (σ 5)) 6 (σ 6)) 4 (putN (σ 4) (σ 11) 0 n) = va_up (va_up (va_up (va_up (va_up (va_up (va_up σ 0 (upd (upd (upd (upd (upd (upd (σ 0) 0 (σ 0 19)) 1 0) 2 0) 3 (nI k)) 5 (nI n)) 9 (σ 0 28))) 1 (putN (σ 1) (σ 8) 0 k)) 2 (putN (σ 2) (σ 9) 0 n)) 3 (putN (σ 3) (σ 10) 0 n)) 4 (putN (σ 4) (σ 11) 0 n)) 5 (σ 5)) 6 (σ 6) from ((va_in (by decide)).trans (congrArg (fun z => va_up z 6 _) ((va_in (by decide)).trans (congrArg (fun z => va_up z 5 _) (bx_uu _ _ _ _)))))] at hP
      refine lv_aload_n hx hb dX9_takeRead_130 rfl (lv_at hl 0 rfl) ?_
      refine rp_get (C := RX9) (T := TX9) (N := 38) hx hb hts in_X9_takeRead_X9 hown hK hP 0 (by decide) (kX9 _) rfl 29 (by decide) (by decide +kernel) rfl dX9_takeRead_131 ?_
      refine lv_aload_n hx hb dX9_takeRead_134 rfl (lv_at hl 0 rfl) ?_
      refine rp_get (C := RX9) (T := TX9) (N := 38) hx hb hts in_X9_takeRead_X9 hown hK hP 0 (by decide) (kX9 _) rfl 10 (by decide) (by decide +kernel) rfl dX9_takeRead_135 ?_
      refine lv_aload_n hx hb dX9_takeRead_138 rfl (lv_at hl 0 rfl) ?_
      refine rp_get (C := RX9) (T := TX9) (N := 38) hx hb hts in_X9_takeRead_X9 hown hK hP 0 (by decide) (kX9 _) rfl 5 (by decide) (by decide +kernel) rfl dX9_takeRead_139 ?_
      rw [show (va_up (va_up (va_up (va_up (va_up (va_up (va_up σ 0 (upd (upd (upd (upd (upd (upd (σ 0) 0 (σ 0 19)) 1 0) 2 0) 3 (nI k)) 5 (nI n)) 9 (σ 0 28))) 1 (putN (σ 1) (σ 8) 0 k)) 2 (putN (σ 2) (σ 9) 0 n)) 3 (putN (σ 3) (σ 10) 0 n)) 4 (putN (σ 4) (σ 11) 0 n)) 5 (σ 5)) 6 (σ 6)) 0 5 = (nI n) from ((va_R (by decide)).trans ((va_R (by decide)).trans ((va_R (by decide)).trans ((va_R (by decide)).trans ((va_R (by decide)).trans ((va_R (by decide)).trans (va_S'.trans ((pk_un (by decide)).trans pk_us))))))))]
      refine rp_callSV (na := 3) hx hb hml hown hts hK hA hD hP hS hl.1 [.ref (ad 12), .ref (ad 5), .int (nI n)] (c_X9_copyRow_5 l D cy ad (va_up (va_up (va_up (va_up (va_up (va_up (va_up σ 0 (upd (upd (upd (upd (upd (upd (σ 0) 0 (σ 0 19)) 1 0) 2 0) 3 (nI k)) 5 (nI n)) 9 (σ 0 28))) 1 (putN (σ 1) (σ 8) 0 k)) 2 (putN (σ 2) (σ 9) 0 n)) 3 (putN (σ 3) (σ 10) 0 n)) 4 (putN (σ 4) (σ 11) 0 n)) 5 (σ 5)) 6 (σ 6)) (σ 12) (σ 5) n ((va_Q (by decide)).trans ((va_Q (by decide)).trans ((va_Q (by decide)).trans ((va_Q (by decide)).trans ((va_Q (by decide)).trans ((va_Q (by decide)).trans (va_Q (by decide)))))))) ((va_Q (by decide)).trans va_Qs) (by first | assumption | omega)) gX9_takeRead_X9_copyRow rfl (by decide +kernel) rfl ⟨Nat.le_of_ble_eq_true rfl, Nat.le_of_ble_eq_true rfl⟩ ⟨rfl, rfl⟩ ⟨Nat.zero_le _, Nat.zero_le _⟩ rfl (Nat.le_of_ble_eq_true rfl) dX9_takeRead_142 (fun τ_ H locs hq hP hS => ?_)
      subst hq
      rw [show va_up (va_up (va_up (va_up (va_up (va_up (va_up (va_up σ 0 (upd (upd (upd (upd (upd (upd (σ 0) 0 (σ 0 19)) 1 0) 2 0) 3 (nI k)) 5 (nI n)) 9 (σ 0 28))) 1 (putN (σ 1) (σ 8) 0 k)) 2 (putN (σ 2) (σ 9) 0 n)) 3 (putN (σ 3) (σ 10) 0 n)) 4 (putN (σ 4) (σ 11) 0 n)) 5 (σ 5)) 6 (σ 6)) 5 (putN (σ 5) (σ 12) 0 n) = va_up (va_up (va_up (va_up (va_up (va_up (va_up σ 0 (upd (upd (upd (upd (upd (upd (σ 0) 0 (σ 0 19)) 1 0) 2 0) 3 (nI k)) 5 (nI n)) 9 (σ 0 28))) 1 (putN (σ 1) (σ 8) 0 k)) 2 (putN (σ 2) (σ 9) 0 n)) 3 (putN (σ 3) (σ 10) 0 n)) 4 (putN (σ 4) (σ 11) 0 n)) 5 (putN (σ 5) (σ 12) 0 n)) 6 (σ 6) from ((va_in (by decide)).trans (congrArg (fun z => va_up z 6 _) (bx_uu _ _ _ _)))] at hP
      refine lv_iconst (v := 0) hx hb dX9_takeRead_145 (by decide) ?_
      refine lv_istore_n (lv' := [(1, .int 0), (0, .ref (ad 0))]) hx hb dX9_takeRead_146 rfl hl (by decide) rfl (fun ls hl => ?_)
      have L147 : ∀ (fu147 : Nat) (i : Nat), (i ≤ 23) → 23 - i < fu147 → ∀ (x1 : Int32) (τ : Nat → Nat → Int32) (H : Heap) (locs : List Loc) (ls : Array Slot), (nI i) = x1 → (va_up (va_up (va_up (va_up (va_up (va_up (va_up σ 0 (upd (upd (upd (upd (upd (upd (σ 0) 0 (σ 0 19)) 1 0) 2 0) 3 (nI k)) 5 (nI n)) 9 (σ 0 28))) 1 (putN (σ 1) (σ 8) 0 k)) 2 (putN (σ 2) (σ 9) 0 n)) 3 (putN (σ 3) (σ 10) 0 n)) 4 (putN (σ 4) (σ 11) 0 n)) 5 (putN (σ 5) (σ 12) 0 n)) 6 (putN (σ 6) (fun _ => 0) 0 i)) = τ → va_P D classes (rw_ 19 ad (cfM ad cy) τ) H → va_S A_ s_.heap H locs → lv_has ls 2 [(1, .int x1), (0, .ref (ad 0))] → W p_ l e_ ({ frames := 1, cells := 0, slots := 0, locals := 23 }) s_ m_ args_ bl_ mt_ c_ H locs 0 0 Q_ (F0 m_ 147 ls []) := by
        intro fu147
        induction fu147 with
        | zero => intro i hi hf; exact absurd hf (Nat.not_lt_zero _)
        | succ fu147 ih147 =>
          intro i hi hf147 x1 τ H locs ls ex1 eτ hP hS hl
          subst ex1
          subst eτ
          refine lv_iload_n hx hb dX9_takeRead_147 rfl (lv_at hl 0 rfl) ?_
          refine lv_bipush (v := 23) hx hb dX9_takeRead_148 (by decide) ?_
          refine lv_icmp_ge (tgt := 166) hx hb dX9_takeRead_150 (by decide) (fun c150 => ?_) (fun c150 => ?_)
          · skip
            have ei : i = 23 := cl_ex hi (by omega) c150
            refine lv_aload_n hx hb dX9_takeRead_166 rfl (lv_at hl 1 rfl) ?_
            refine rp_get (C := RX9) (T := TX9) (N := 38) hx hb hts in_X9_takeRead_X9 hown hK hP 0 (by decide) (kX9 _) rfl 11 (by decide) (by decide +kernel) rfl dX9_takeRead_167 ?_
            refine lv_bipush (v := 12) hx hb dX9_takeRead_170 (by decide) ?_
            refine lv_aload_n hx hb dX9_takeRead_172 rfl (lv_at hl 1 rfl) ?_
            refine rp_get (C := RX9) (T := TX9) (N := 38) hx hb hts in_X9_takeRead_X9 hown hK hP 0 (by decide) (kX9 _) rfl 1 (by decide) (by decide +kernel) rfl dX9_takeRead_173 ?_
            rw [show (va_up (va_up (va_up (va_up (va_up (va_up (va_up σ 0 (upd (upd (upd (upd (upd (upd (σ 0) 0 (σ 0 19)) 1 0) 2 0) 3 (nI k)) 5 (nI n)) 9 (σ 0 28))) 1 (putN (σ 1) (σ 8) 0 k)) 2 (putN (σ 2) (σ 9) 0 n)) 3 (putN (σ 3) (σ 10) 0 n)) 4 (putN (σ 4) (σ 11) 0 n)) 5 (putN (σ 5) (σ 12) 0 n)) 6 (putN (σ 6) (fun _ => 0) 0 i)) 0 1 = 0 from ((va_R (by decide)).trans ((va_R (by decide)).trans ((va_R (by decide)).trans ((va_R (by decide)).trans ((va_R (by decide)).trans ((va_R (by decide)).trans (va_S'.trans ((pk_un (by decide)).trans ((pk_un (by decide)).trans ((pk_un (by decide)).trans ((pk_un (by decide)).trans pk_us)))))))))))]
            refine rp_iast (x := 0) hx hb hK hP hD hS 6 (by decide) (fun f => kX9_11 f) 0 rfl 12 rfl (by decide) (by decide) dX9_takeRead_176 (fun H locs hP hS => ?_)
            rw [show up2 (va_up (va_up (va_up (va_up (va_up (va_up (va_up σ 0 (upd (upd (upd (upd (upd (upd (σ 0) 0 (σ 0 19)) 1 0) 2 0) 3 (nI k)) 5 (nI n)) 9 (σ 0 28))) 1 (putN (σ 1) (σ 8) 0 k)) 2 (putN (σ 2) (σ 9) 0 n)) 3 (putN (σ 3) (σ 10) 0 n)) 4 (putN (σ 4) (σ 11) 0 n)) 5 (putN (σ 5) (σ 12) 0 n)) 6 (putN (σ 6) (fun _ => 0) 0 i)) 6 12 0 = va_up (va_up (va_up (va_up (va_up (va_up (va_up σ 0 (upd (upd (upd (upd (upd (upd (σ 0) 0 (σ 0 19)) 1 0) 2 0) 3 (nI k)) 5 (nI n)) 9 (σ 0 28))) 1 (putN (σ 1) (σ 8) 0 k)) 2 (putN (σ 2) (σ 9) 0 n)) 3 (putN (σ 3) (σ 10) 0 n)) 4 (putN (σ 4) (σ 11) 0 n)) 5 (putN (σ 5) (σ 12) 0 n)) 6 (upd (putN (σ 6) (fun _ => 0) 0 i) 12 0) from (vu_up _ _ _ _ _)] at hP
            exact hret hP hS dX9_takeRead_177 (by unfold T_X9_takeRead_O T_X9_takeRead_ar T_X9_takeRead_ow T_X9_takeRead_wt T_X9_takeRead_wo T_X9_takeRead_fr T_X9_takeRead_N <;> simp only [if_pos c13, ei])
          · skip
            have hi2 : i < 23 := cl_in (by omega) (by omega) c150
            refine lv_aload_n hx hb dX9_takeRead_153 rfl (lv_at hl 1 rfl) ?_
            refine rp_get (C := RX9) (T := TX9) (N := 38) hx hb hts in_X9_takeRead_X9 hown hK hP 0 (by decide) (kX9 _) rfl 11 (by decide) (by decide +kernel) rfl dX9_takeRead_154 ?_
            refine lv_iload_n hx hb dX9_takeRead_157 rfl (lv_at hl 0 rfl) ?_
            refine lv_iconst (v := 0) hx hb dX9_takeRead_158 (by decide) ?_
            refine rp_iast (x := 0) hx hb hK hP hD hS 6 (by decide) (fun f => kX9_11 f) 0 rfl i rfl (by omega) (by decide) dX9_takeRead_159 (fun H locs hP hS => ?_)
            rw [show up2 (va_up (va_up (va_up (va_up (va_up (va_up (va_up σ 0 (upd (upd (upd (upd (upd (upd (σ 0) 0 (σ 0 19)) 1 0) 2 0) 3 (nI k)) 5 (nI n)) 9 (σ 0 28))) 1 (putN (σ 1) (σ 8) 0 k)) 2 (putN (σ 2) (σ 9) 0 n)) 3 (putN (σ 3) (σ 10) 0 n)) 4 (putN (σ 4) (σ 11) 0 n)) 5 (putN (σ 5) (σ 12) 0 n)) 6 (putN (σ 6) (fun _ => 0) 0 i)) 6 i 0 = va_up (va_up (va_up (va_up (va_up (va_up (va_up σ 0 (upd (upd (upd (upd (upd (upd (σ 0) 0 (σ 0 19)) 1 0) 2 0) 3 (nI k)) 5 (nI n)) 9 (σ 0 28))) 1 (putN (σ 1) (σ 8) 0 k)) 2 (putN (σ 2) (σ 9) 0 n)) 3 (putN (σ 3) (σ 10) 0 n)) 4 (putN (σ 4) (σ 11) 0 n)) 5 (putN (σ 5) (σ 12) 0 n)) 6 (upd (putN (σ 6) (fun _ => 0) 0 i) i 0) from (vu_up _ _ _ _ _)] at hP
            refine lv_iinc (v := ((nI i) + 1)) (lv' := [(1, .int ((nI i) + 1)), (0, .ref (ad 0))]) hx hb dX9_takeRead_160 hl (k := 0) rfl rfl (by decide) rfl (fun ls hl => ?_)
            refine lv_goto (tgt := 147) hx hb dX9_takeRead_163 (by decide) ?_
            exact ih147 (i + 1) (by omega) (by omega) _ _ _ _ _ ((nI_1 i).symm) (by rw [← putN_s, Nat.zero_add]) hP hS (lv_sub hl [0, 1] rfl)
      exact L147 ((23 - 0) + 1) 0 (Nat.zero_le _) (Nat.lt_succ_self _) _ _ _ _ _ (by first | rfl | simp [*]) (by rw [putN_0]) hP hS (lv_sub hl [0, 1] rfl)
    · skip
      exact absurd c13 c32
  · skip
    refine lv_aload_n hx hb dX9_takeRead_16 rfl (lv_at hl 0 rfl) ?_
    refine rp_get (C := RX9) (T := TX9) (N := 38) hx hb hts in_X9_takeRead_X9 hown hK hP 0 (by decide) (kX9 _) rfl 20 (by decide) (by decide +kernel) rfl dX9_takeRead_17 ?_
    rw [show (va_up (va_up (va_up (va_up (va_up (va_up (va_up σ 0 (upd (σ 0) 0 (σ 0 19))) 1 (σ 1)) 2 (σ 2)) 3 (σ 3)) 4 (σ 4)) 5 (σ 5)) 6 (σ 6)) 0 20 = (σ 0 20) from ((va_R (by decide)).trans ((va_R (by decide)).trans ((va_R (by decide)).trans ((va_R (by decide)).trans ((va_R (by decide)).trans ((va_R (by decide)).trans (va_S'.trans (pk_un (by decide)))))))))]
    refine lv_goto (tgt := 24) hx hb dX9_takeRead_20 (by decide) ?_
    refine rp_put (C := RX9) (T := TX9) (N := 38) (v := (σ 0 20)) hx hb hts in_X9_takeRead_X9 tyX9 tyX9_ok nmX9 hown hK hP hD hS 0 (by decide) (kX9 _) rfl 1 (by decide) (by decide +kernel) rfl rfl rfl (Nat.le_of_ble_eq_true rfl) (kp9_1 _ _) dX9_takeRead_24 (fun H locs hP hS => ?_)
    rw [show up2 (va_up (va_up (va_up (va_up (va_up (va_up (va_up σ 0 (upd (σ 0) 0 (σ 0 19))) 1 (σ 1)) 2 (σ 2)) 3 (σ 3)) 4 (σ 4)) 5 (σ 5)) 6 (σ 6)) 0 1 (σ 0 20) = va_up (va_up (va_up (va_up (va_up (va_up (va_up σ 0 (upd (upd (σ 0) 0 (σ 0 19)) 1 (σ 0 20))) 1 (σ 1)) 2 (σ 2)) 3 (σ 3)) 4 (σ 4)) 5 (σ 5)) 6 (σ 6) from ((up2_in (by decide)).trans (congrArg (fun z => va_up z 6 _) ((up2_in (by decide)).trans (congrArg (fun z => va_up z 5 _) ((up2_in (by decide)).trans (congrArg (fun z => va_up z 4 _) ((up2_in (by decide)).trans (congrArg (fun z => va_up z 3 _) ((up2_in (by decide)).trans (congrArg (fun z => va_up z 2 _) ((up2_in (by decide)).trans (congrArg (fun z => va_up z 1 _) (vu_up _ _ _ _ _)))))))))))))] at hP
    refine lv_aload_n hx hb dX9_takeRead_27 rfl (lv_at hl 0 rfl) ?_
    refine lv_aload_n hx hb dX9_takeRead_28 rfl (lv_at hl 0 rfl) ?_
    refine rp_get (C := RX9) (T := TX9) (N := 38) hx hb hts in_X9_takeRead_X9 hown hK hP 0 (by decide) (kX9 _) rfl 19 (by decide) (by decide +kernel) rfl dX9_takeRead_29 ?_
    rw [show (va_up (va_up (va_up (va_up (va_up (va_up (va_up σ 0 (upd (upd (σ 0) 0 (σ 0 19)) 1 (σ 0 20))) 1 (σ 1)) 2 (σ 2)) 3 (σ 3)) 4 (σ 4)) 5 (σ 5)) 6 (σ 6)) 0 19 = (σ 0 19) from ((va_R (by decide)).trans ((va_R (by decide)).trans ((va_R (by decide)).trans ((va_R (by decide)).trans ((va_R (by decide)).trans ((va_R (by decide)).trans (va_S'.trans ((pk_un (by decide)).trans (pk_un (by decide))))))))))]
    refine lv_if_eq (tgt := 42) hx hb dX9_takeRead_32 (by decide) (fun c32 => ?_) (fun c32 => ?_)
    · skip
      exact absurd c32 c13
    · skip
      refine lv_aload_n hx hb dX9_takeRead_35 rfl (lv_at hl 0 rfl) ?_
      refine rp_get (C := RX9) (T := TX9) (N := 38) hx hb hts in_X9_takeRead_X9 hown hK hP 0 (by decide) (kX9 _) rfl 21 (by decide) (by decide +kernel) rfl dX9_takeRead_36 ?_
      rw [show (va_up (va_up (va_up (va_up (va_up (va_up (va_up σ 0 (upd (upd (σ 0) 0 (σ 0 19)) 1 (σ 0 20))) 1 (σ 1)) 2 (σ 2)) 3 (σ 3)) 4 (σ 4)) 5 (σ 5)) 6 (σ 6)) 0 21 = (σ 0 21) from ((va_R (by decide)).trans ((va_R (by decide)).trans ((va_R (by decide)).trans ((va_R (by decide)).trans ((va_R (by decide)).trans ((va_R (by decide)).trans (va_S'.trans ((pk_un (by decide)).trans (pk_un (by decide))))))))))]
      refine lv_goto (tgt := 43) hx hb dX9_takeRead_39 (by decide) ?_
      refine rp_put (C := RX9) (T := TX9) (N := 38) (v := (σ 0 21)) hx hb hts in_X9_takeRead_X9 tyX9 tyX9_ok nmX9 hown hK hP hD hS 0 (by decide) (kX9 _) rfl 2 (by decide) (by decide +kernel) rfl rfl rfl (Nat.le_of_ble_eq_true rfl) (kp9_2 _ _) dX9_takeRead_43 (fun H locs hP hS => ?_)
      rw [show up2 (va_up (va_up (va_up (va_up (va_up (va_up (va_up σ 0 (upd (upd (σ 0) 0 (σ 0 19)) 1 (σ 0 20))) 1 (σ 1)) 2 (σ 2)) 3 (σ 3)) 4 (σ 4)) 5 (σ 5)) 6 (σ 6)) 0 2 (σ 0 21) = va_up (va_up (va_up (va_up (va_up (va_up (va_up σ 0 (upd (upd (upd (σ 0) 0 (σ 0 19)) 1 (σ 0 20)) 2 (σ 0 21))) 1 (σ 1)) 2 (σ 2)) 3 (σ 3)) 4 (σ 4)) 5 (σ 5)) 6 (σ 6) from ((up2_in (by decide)).trans (congrArg (fun z => va_up z 6 _) ((up2_in (by decide)).trans (congrArg (fun z => va_up z 5 _) ((up2_in (by decide)).trans (congrArg (fun z => va_up z 4 _) ((up2_in (by decide)).trans (congrArg (fun z => va_up z 3 _) ((up2_in (by decide)).trans (congrArg (fun z => va_up z 2 _) ((up2_in (by decide)).trans (congrArg (fun z => va_up z 1 _) (vu_up _ _ _ _ _)))))))))))))] at hP
      refine lv_aload_n hx hb dX9_takeRead_46 rfl (lv_at hl 0 rfl) ?_
      refine lv_aload_n hx hb dX9_takeRead_47 rfl (lv_at hl 0 rfl) ?_
      refine rp_get (C := RX9) (T := TX9) (N := 38) hx hb hts in_X9_takeRead_X9 hown hK hP 0 (by decide) (kX9 _) rfl 22 (by decide) (by decide +kernel) rfl dX9_takeRead_48 ?_
      rw [show (va_up (va_up (va_up (va_up (va_up (va_up (va_up σ 0 (upd (upd (upd (σ 0) 0 (σ 0 19)) 1 (σ 0 20)) 2 (σ 0 21))) 1 (σ 1)) 2 (σ 2)) 3 (σ 3)) 4 (σ 4)) 5 (σ 5)) 6 (σ 6)) 0 22 = (σ 0 22) from ((va_R (by decide)).trans ((va_R (by decide)).trans ((va_R (by decide)).trans ((va_R (by decide)).trans ((va_R (by decide)).trans ((va_R (by decide)).trans (va_S'.trans ((pk_un (by decide)).trans ((pk_un (by decide)).trans (pk_un (by decide)))))))))))]
      rw [ek]
      refine rp_put (C := RX9) (T := TX9) (N := 38) (v := (nI k)) hx hb hts in_X9_takeRead_X9 tyX9 tyX9_ok nmX9 hown hK hP hD hS 0 (by decide) (kX9 _) rfl 3 (by decide) (by decide +kernel) rfl rfl rfl (Nat.le_of_ble_eq_true rfl) (kp9_3 _ _) dX9_takeRead_51 (fun H locs hP hS => ?_)
      rw [show up2 (va_up (va_up (va_up (va_up (va_up (va_up (va_up σ 0 (upd (upd (upd (σ 0) 0 (σ 0 19)) 1 (σ 0 20)) 2 (σ 0 21))) 1 (σ 1)) 2 (σ 2)) 3 (σ 3)) 4 (σ 4)) 5 (σ 5)) 6 (σ 6)) 0 3 (nI k) = va_up (va_up (va_up (va_up (va_up (va_up (va_up σ 0 (upd (upd (upd (upd (σ 0) 0 (σ 0 19)) 1 (σ 0 20)) 2 (σ 0 21)) 3 (nI k))) 1 (σ 1)) 2 (σ 2)) 3 (σ 3)) 4 (σ 4)) 5 (σ 5)) 6 (σ 6) from ((up2_in (by decide)).trans (congrArg (fun z => va_up z 6 _) ((up2_in (by decide)).trans (congrArg (fun z => va_up z 5 _) ((up2_in (by decide)).trans (congrArg (fun z => va_up z 4 _) ((up2_in (by decide)).trans (congrArg (fun z => va_up z 3 _) ((up2_in (by decide)).trans (congrArg (fun z => va_up z 2 _) ((up2_in (by decide)).trans (congrArg (fun z => va_up z 1 _) (vu_up _ _ _ _ _)))))))))))))] at hP
      refine lv_aload_n hx hb dX9_takeRead_54 rfl (lv_at hl 0 rfl) ?_
      refine lv_aload_n hx hb dX9_takeRead_55 rfl (lv_at hl 0 rfl) ?_
      refine rp_get (C := RX9) (T := TX9) (N := 38) hx hb hts in_X9_takeRead_X9 hown hK hP 0 (by decide) (kX9 _) rfl 24 (by decide) (by decide +kernel) rfl dX9_takeRead_56 ?_
      rw [show (va_up (va_up (va_up (va_up (va_up (va_up (va_up σ 0 (upd (upd (upd (upd (σ 0) 0 (σ 0 19)) 1 (σ 0 20)) 2 (σ 0 21)) 3 (nI k))) 1 (σ 1)) 2 (σ 2)) 3 (σ 3)) 4 (σ 4)) 5 (σ 5)) 6 (σ 6)) 0 24 = (σ 0 24) from ((va_R (by decide)).trans ((va_R (by decide)).trans ((va_R (by decide)).trans ((va_R (by decide)).trans ((va_R (by decide)).trans ((va_R (by decide)).trans (va_S'.trans ((pk_un (by decide)).trans ((pk_un (by decide)).trans ((pk_un (by decide)).trans (pk_un (by decide))))))))))))]
      rw [en]
      refine rp_put (C := RX9) (T := TX9) (N := 38) (v := (nI n)) hx hb hts in_X9_takeRead_X9 tyX9 tyX9_ok nmX9 hown hK hP hD hS 0 (by decide) (kX9 _) rfl 5 (by decide) (by decide +kernel) rfl rfl rfl (Nat.le_of_ble_eq_true rfl) (kp9_5 _ _) dX9_takeRead_59 (fun H locs hP hS => ?_)
      rw [show up2 (va_up (va_up (va_up (va_up (va_up (va_up (va_up σ 0 (upd (upd (upd (upd (σ 0) 0 (σ 0 19)) 1 (σ 0 20)) 2 (σ 0 21)) 3 (nI k))) 1 (σ 1)) 2 (σ 2)) 3 (σ 3)) 4 (σ 4)) 5 (σ 5)) 6 (σ 6)) 0 5 (nI n) = va_up (va_up (va_up (va_up (va_up (va_up (va_up σ 0 (upd (upd (upd (upd (upd (σ 0) 0 (σ 0 19)) 1 (σ 0 20)) 2 (σ 0 21)) 3 (nI k)) 5 (nI n))) 1 (σ 1)) 2 (σ 2)) 3 (σ 3)) 4 (σ 4)) 5 (σ 5)) 6 (σ 6) from ((up2_in (by decide)).trans (congrArg (fun z => va_up z 6 _) ((up2_in (by decide)).trans (congrArg (fun z => va_up z 5 _) ((up2_in (by decide)).trans (congrArg (fun z => va_up z 4 _) ((up2_in (by decide)).trans (congrArg (fun z => va_up z 3 _) ((up2_in (by decide)).trans (congrArg (fun z => va_up z 2 _) ((up2_in (by decide)).trans (congrArg (fun z => va_up z 1 _) (vu_up _ _ _ _ _)))))))))))))] at hP
      refine lv_aload_n hx hb dX9_takeRead_62 rfl (lv_at hl 0 rfl) ?_
      refine lv_aload_n hx hb dX9_takeRead_63 rfl (lv_at hl 0 rfl) ?_
      refine rp_get (C := RX9) (T := TX9) (N := 38) hx hb hts in_X9_takeRead_X9 hown hK hP 0 (by decide) (kX9 _) rfl 28 (by decide) (by decide +kernel) rfl dX9_takeRead_64 ?_
      rw [show (va_up (va_up (va_up (va_up (va_up (va_up (va_up σ 0 (upd (upd (upd (upd (upd (σ 0) 0 (σ 0 19)) 1 (σ 0 20)) 2 (σ 0 21)) 3 (nI k)) 5 (nI n))) 1 (σ 1)) 2 (σ 2)) 3 (σ 3)) 4 (σ 4)) 5 (σ 5)) 6 (σ 6)) 0 28 = (σ 0 28) from ((va_R (by decide)).trans ((va_R (by decide)).trans ((va_R (by decide)).trans ((va_R (by decide)).trans ((va_R (by decide)).trans ((va_R (by decide)).trans (va_S'.trans ((pk_un (by decide)).trans ((pk_un (by decide)).trans ((pk_un (by decide)).trans ((pk_un (by decide)).trans (pk_un (by decide)))))))))))))]
      refine rp_put (C := RX9) (T := TX9) (N := 38) (v := (σ 0 28)) hx hb hts in_X9_takeRead_X9 tyX9 tyX9_ok nmX9 hown hK hP hD hS 0 (by decide) (kX9 _) rfl 9 (by decide) (by decide +kernel) rfl rfl rfl (Nat.le_of_ble_eq_true rfl) (kp9_9 _ _) dX9_takeRead_67 (fun H locs hP hS => ?_)
      rw [show up2 (va_up (va_up (va_up (va_up (va_up (va_up (va_up σ 0 (upd (upd (upd (upd (upd (σ 0) 0 (σ 0 19)) 1 (σ 0 20)) 2 (σ 0 21)) 3 (nI k)) 5 (nI n))) 1 (σ 1)) 2 (σ 2)) 3 (σ 3)) 4 (σ 4)) 5 (σ 5)) 6 (σ 6)) 0 9 (σ 0 28) = va_up (va_up (va_up (va_up (va_up (va_up (va_up σ 0 (upd (upd (upd (upd (upd (upd (σ 0) 0 (σ 0 19)) 1 (σ 0 20)) 2 (σ 0 21)) 3 (nI k)) 5 (nI n)) 9 (σ 0 28))) 1 (σ 1)) 2 (σ 2)) 3 (σ 3)) 4 (σ 4)) 5 (σ 5)) 6 (σ 6) from ((up2_in (by decide)).trans (congrArg (fun z => va_up z 6 _) ((up2_in (by decide)).trans (congrArg (fun z => va_up z 5 _) ((up2_in (by decide)).trans (congrArg (fun z => va_up z 4 _) ((up2_in (by decide)).trans (congrArg (fun z => va_up z 3 _) ((up2_in (by decide)).trans (congrArg (fun z => va_up z 2 _) ((up2_in (by decide)).trans (congrArg (fun z => va_up z 1 _) (vu_up _ _ _ _ _)))))))))))))] at hP
      refine lv_aload_n hx hb dX9_takeRead_70 rfl (lv_at hl 0 rfl) ?_
      refine rp_get (C := RX9) (T := TX9) (N := 38) hx hb hts in_X9_takeRead_X9 hown hK hP 0 (by decide) (kX9 _) rfl 23 (by decide) (by decide +kernel) rfl dX9_takeRead_71 ?_
      refine lv_aload_n hx hb dX9_takeRead_74 rfl (lv_at hl 0 rfl) ?_
      refine rp_get (C := RX9) (T := TX9) (N := 38) hx hb hts in_X9_takeRead_X9 hown hK hP 0 (by decide) (kX9 _) rfl 4 (by decide) (by decide +kernel) rfl dX9_takeRead_75 ?_
      refine lv_aload_n hx hb dX9_takeRead_78 rfl (lv_at hl 0 rfl) ?_
      refine rp_get (C := RX9) (T := TX9) (N := 38) hx hb hts in_X9_takeRead_X9 hown hK hP 0 (by decide) (kX9 _) rfl 3 (by decide) (by decide +kernel) rfl dX9_takeRead_79 ?_
      rw [show (va_up (va_up (va_up (va_up (va_up (va_up (va_up σ 0 (upd (upd (upd (upd (upd (upd (σ 0) 0 (σ 0 19)) 1 (σ 0 20)) 2 (σ 0 21)) 3 (nI k)) 5 (nI n)) 9 (σ 0 28))) 1 (σ 1)) 2 (σ 2)) 3 (σ 3)) 4 (σ 4)) 5 (σ 5)) 6 (σ 6)) 0 3 = (nI k) from ((va_R (by decide)).trans ((va_R (by decide)).trans ((va_R (by decide)).trans ((va_R (by decide)).trans ((va_R (by decide)).trans ((va_R (by decide)).trans (va_S'.trans ((pk_un (by decide)).trans ((pk_un (by decide)).trans pk_us)))))))))]
      refine rp_callSV (na := 3) hx hb hml hown hts hK hA hD hP hS hl.1 [.ref (ad 8), .ref (ad 1), .int (nI k)] (c_X9_copyRow_1 l D cy ad (va_up (va_up (va_up (va_up (va_up (va_up (va_up σ 0 (upd (upd (upd (upd (upd (upd (σ 0) 0 (σ 0 19)) 1 (σ 0 20)) 2 (σ 0 21)) 3 (nI k)) 5 (nI n)) 9 (σ 0 28))) 1 (σ 1)) 2 (σ 2)) 3 (σ 3)) 4 (σ 4)) 5 (σ 5)) 6 (σ 6)) (σ 8) (σ 1) k ((va_Q (by decide)).trans ((va_Q (by decide)).trans ((va_Q (by decide)).trans ((va_Q (by decide)).trans ((va_Q (by decide)).trans ((va_Q (by decide)).trans (va_Q (by decide)))))))) ((va_Q (by decide)).trans ((va_Q (by decide)).trans ((va_Q (by decide)).trans ((va_Q (by decide)).trans ((va_Q (by decide)).trans va_Qs))))) (by first | assumption | omega)) gX9_takeRead_X9_copyRow rfl (by decide +kernel) rfl ⟨Nat.le_of_ble_eq_true rfl, Nat.le_of_ble_eq_true rfl⟩ ⟨rfl, rfl⟩ ⟨Nat.zero_le _, Nat.zero_le _⟩ rfl (Nat.le_of_ble_eq_true rfl) dX9_takeRead_82 (fun τ_ H locs hq hP hS => ?_)
      subst hq
      rw [show va_up (va_up (va_up (va_up (va_up (va_up (va_up (va_up σ 0 (upd (upd (upd (upd (upd (upd (σ 0) 0 (σ 0 19)) 1 (σ 0 20)) 2 (σ 0 21)) 3 (nI k)) 5 (nI n)) 9 (σ 0 28))) 1 (σ 1)) 2 (σ 2)) 3 (σ 3)) 4 (σ 4)) 5 (σ 5)) 6 (σ 6)) 1 (putN (σ 1) (σ 8) 0 k) = va_up (va_up (va_up (va_up (va_up (va_up (va_up σ 0 (upd (upd (upd (upd (upd (upd (σ 0) 0 (σ 0 19)) 1 (σ 0 20)) 2 (σ 0 21)) 3 (nI k)) 5 (nI n)) 9 (σ 0 28))) 1 (putN (σ 1) (σ 8) 0 k)) 2 (σ 2)) 3 (σ 3)) 4 (σ 4)) 5 (σ 5)) 6 (σ 6) from ((va_in (by decide)).trans (congrArg (fun z => va_up z 6 _) ((va_in (by decide)).trans (congrArg (fun z => va_up z 5 _) ((va_in (by decide)).trans (congrArg (fun z => va_up z 4 _) ((va_in (by decide)).trans (congrArg (fun z => va_up z 3 _) ((va_in (by decide)).trans (congrArg (fun z => va_up z 2 _) (bx_uu _ _ _ _)))))))))))] at hP
      refine lv_aload_n hx hb dX9_takeRead_85 rfl (lv_at hl 0 rfl) ?_
      refine rp_get (C := RX9) (T := TX9) (N := 38) hx hb hts in_X9_takeRead_X9 hown hK hP 0 (by decide) (kX9 _) rfl 25 (by decide) (by decide +kernel) rfl dX9_takeRead_86 ?_
      refine lv_aload_n hx hb dX9_takeRead_89 rfl (lv_at hl 0 rfl) ?_
      refine rp_get (C := RX9) (T := TX9) (N := 38) hx hb hts in_X9_takeRead_X9 hown hK hP 0 (by decide) (kX9 _) rfl 6 (by decide) (by decide +kernel) rfl dX9_takeRead_90 ?_
      refine lv_aload_n hx hb dX9_takeRead_93 rfl (lv_at hl 0 rfl) ?_
      refine rp_get (C := RX9) (T := TX9) (N := 38) hx hb hts in_X9_takeRead_X9 hown hK hP 0 (by decide) (kX9 _) rfl 5 (by decide) (by decide +kernel) rfl dX9_takeRead_94 ?_
      rw [show (va_up (va_up (va_up (va_up (va_up (va_up (va_up σ 0 (upd (upd (upd (upd (upd (upd (σ 0) 0 (σ 0 19)) 1 (σ 0 20)) 2 (σ 0 21)) 3 (nI k)) 5 (nI n)) 9 (σ 0 28))) 1 (putN (σ 1) (σ 8) 0 k)) 2 (σ 2)) 3 (σ 3)) 4 (σ 4)) 5 (σ 5)) 6 (σ 6)) 0 5 = (nI n) from ((va_R (by decide)).trans ((va_R (by decide)).trans ((va_R (by decide)).trans ((va_R (by decide)).trans ((va_R (by decide)).trans ((va_R (by decide)).trans (va_S'.trans ((pk_un (by decide)).trans pk_us))))))))]
      refine rp_callSV (na := 3) hx hb hml hown hts hK hA hD hP hS hl.1 [.ref (ad 9), .ref (ad 2), .int (nI n)] (c_X9_copyRow_2 l D cy ad (va_up (va_up (va_up (va_up (va_up (va_up (va_up σ 0 (upd (upd (upd (upd (upd (upd (σ 0) 0 (σ 0 19)) 1 (σ 0 20)) 2 (σ 0 21)) 3 (nI k)) 5 (nI n)) 9 (σ 0 28))) 1 (putN (σ 1) (σ 8) 0 k)) 2 (σ 2)) 3 (σ 3)) 4 (σ 4)) 5 (σ 5)) 6 (σ 6)) (σ 9) (σ 2) n ((va_Q (by decide)).trans ((va_Q (by decide)).trans ((va_Q (by decide)).trans ((va_Q (by decide)).trans ((va_Q (by decide)).trans ((va_Q (by decide)).trans (va_Q (by decide)))))))) ((va_Q (by decide)).trans ((va_Q (by decide)).trans ((va_Q (by decide)).trans ((va_Q (by decide)).trans va_Qs)))) (by first | assumption | omega)) gX9_takeRead_X9_copyRow rfl (by decide +kernel) rfl ⟨Nat.le_of_ble_eq_true rfl, Nat.le_of_ble_eq_true rfl⟩ ⟨rfl, rfl⟩ ⟨Nat.zero_le _, Nat.zero_le _⟩ rfl (Nat.le_of_ble_eq_true rfl) dX9_takeRead_97 (fun τ_ H locs hq hP hS => ?_)
      subst hq
      rw [show va_up (va_up (va_up (va_up (va_up (va_up (va_up (va_up σ 0 (upd (upd (upd (upd (upd (upd (σ 0) 0 (σ 0 19)) 1 (σ 0 20)) 2 (σ 0 21)) 3 (nI k)) 5 (nI n)) 9 (σ 0 28))) 1 (putN (σ 1) (σ 8) 0 k)) 2 (σ 2)) 3 (σ 3)) 4 (σ 4)) 5 (σ 5)) 6 (σ 6)) 2 (putN (σ 2) (σ 9) 0 n) = va_up (va_up (va_up (va_up (va_up (va_up (va_up σ 0 (upd (upd (upd (upd (upd (upd (σ 0) 0 (σ 0 19)) 1 (σ 0 20)) 2 (σ 0 21)) 3 (nI k)) 5 (nI n)) 9 (σ 0 28))) 1 (putN (σ 1) (σ 8) 0 k)) 2 (putN (σ 2) (σ 9) 0 n)) 3 (σ 3)) 4 (σ 4)) 5 (σ 5)) 6 (σ 6) from ((va_in (by decide)).trans (congrArg (fun z => va_up z 6 _) ((va_in (by decide)).trans (congrArg (fun z => va_up z 5 _) ((va_in (by decide)).trans (congrArg (fun z => va_up z 4 _) ((va_in (by decide)).trans (congrArg (fun z => va_up z 3 _) (bx_uu _ _ _ _)))))))))] at hP
      refine lv_aload_n hx hb dX9_takeRead_100 rfl (lv_at hl 0 rfl) ?_
      refine rp_get (C := RX9) (T := TX9) (N := 38) hx hb hts in_X9_takeRead_X9 hown hK hP 0 (by decide) (kX9 _) rfl 26 (by decide) (by decide +kernel) rfl dX9_takeRead_101 ?_
      refine lv_aload_n hx hb dX9_takeRead_104 rfl (lv_at hl 0 rfl) ?_
      refine rp_get (C := RX9) (T := TX9) (N := 38) hx hb hts in_X9_takeRead_X9 hown hK hP 0 (by decide) (kX9 _) rfl 7 (by decide) (by decide +kernel) rfl dX9_takeRead_105 ?_
      refine lv_aload_n hx hb dX9_takeRead_108 rfl (lv_at hl 0 rfl) ?_
      refine rp_get (C := RX9) (T := TX9) (N := 38) hx hb hts in_X9_takeRead_X9 hown hK hP 0 (by decide) (kX9 _) rfl 5 (by decide) (by decide +kernel) rfl dX9_takeRead_109 ?_
      rw [show (va_up (va_up (va_up (va_up (va_up (va_up (va_up σ 0 (upd (upd (upd (upd (upd (upd (σ 0) 0 (σ 0 19)) 1 (σ 0 20)) 2 (σ 0 21)) 3 (nI k)) 5 (nI n)) 9 (σ 0 28))) 1 (putN (σ 1) (σ 8) 0 k)) 2 (putN (σ 2) (σ 9) 0 n)) 3 (σ 3)) 4 (σ 4)) 5 (σ 5)) 6 (σ 6)) 0 5 = (nI n) from ((va_R (by decide)).trans ((va_R (by decide)).trans ((va_R (by decide)).trans ((va_R (by decide)).trans ((va_R (by decide)).trans ((va_R (by decide)).trans (va_S'.trans ((pk_un (by decide)).trans pk_us))))))))]
      refine rp_callSV (na := 3) hx hb hml hown hts hK hA hD hP hS hl.1 [.ref (ad 10), .ref (ad 3), .int (nI n)] (c_X9_copyRow_3 l D cy ad (va_up (va_up (va_up (va_up (va_up (va_up (va_up σ 0 (upd (upd (upd (upd (upd (upd (σ 0) 0 (σ 0 19)) 1 (σ 0 20)) 2 (σ 0 21)) 3 (nI k)) 5 (nI n)) 9 (σ 0 28))) 1 (putN (σ 1) (σ 8) 0 k)) 2 (putN (σ 2) (σ 9) 0 n)) 3 (σ 3)) 4 (σ 4)) 5 (σ 5)) 6 (σ 6)) (σ 10) (σ 3) n ((va_Q (by decide)).trans ((va_Q (by decide)).trans ((va_Q (by decide)).trans ((va_Q (by decide)).trans ((va_Q (by decide)).trans ((va_Q (by decide)).trans (va_Q (by decide)))))))) ((va_Q (by decide)).trans ((va_Q (by decide)).trans ((va_Q (by decide)).trans va_Qs))) (by first | assumption | omega)) gX9_takeRead_X9_copyRow rfl (by decide +kernel) rfl ⟨Nat.le_of_ble_eq_true rfl, Nat.le_of_ble_eq_true rfl⟩ ⟨rfl, rfl⟩ ⟨Nat.zero_le _, Nat.zero_le _⟩ rfl (Nat.le_of_ble_eq_true rfl) dX9_takeRead_112 (fun τ_ H locs hq hP hS => ?_)
      subst hq
      rw [show va_up (va_up (va_up (va_up (va_up (va_up (va_up (va_up σ 0 (upd (upd (upd (upd (upd (upd (σ 0) 0 (σ 0 19)) 1 (σ 0 20)) 2 (σ 0 21)) 3 (nI k)) 5 (nI n)) 9 (σ 0 28))) 1 (putN (σ 1) (σ 8) 0 k)) 2 (putN (σ 2) (σ 9) 0 n)) 3 (σ 3)) 4 (σ 4)) 5 (σ 5)) 6 (σ 6)) 3 (putN (σ 3) (σ 10) 0 n) = va_up (va_up (va_up (va_up (va_up (va_up (va_up σ 0 (upd (upd (upd (upd (upd (upd (σ 0) 0 (σ 0 19)) 1 (σ 0 20)) 2 (σ 0 21)) 3 (nI k)) 5 (nI n)) 9 (σ 0 28))) 1 (putN (σ 1) (σ 8) 0 k)) 2 (putN (σ 2) (σ 9) 0 n)) 3 (putN (σ 3) (σ 10) 0 n)) 4 (σ 4)) 5 (σ 5)) 6 (σ 6) from ((va_in (by decide)).trans (congrArg (fun z => va_up z 6 _) ((va_in (by decide)).trans (congrArg (fun z => va_up z 5 _) ((va_in (by decide)).trans (congrArg (fun z => va_up z 4 _) (bx_uu _ _ _ _)))))))] at hP
      refine lv_aload_n hx hb dX9_takeRead_115 rfl (lv_at hl 0 rfl) ?_
      refine rp_get (C := RX9) (T := TX9) (N := 38) hx hb hts in_X9_takeRead_X9 hown hK hP 0 (by decide) (kX9 _) rfl 27 (by decide) (by decide +kernel) rfl dX9_takeRead_116 ?_
      refine lv_aload_n hx hb dX9_takeRead_119 rfl (lv_at hl 0 rfl) ?_
      refine rp_get (C := RX9) (T := TX9) (N := 38) hx hb hts in_X9_takeRead_X9 hown hK hP 0 (by decide) (kX9 _) rfl 8 (by decide) (by decide +kernel) rfl dX9_takeRead_120 ?_
      refine lv_aload_n hx hb dX9_takeRead_123 rfl (lv_at hl 0 rfl) ?_
      refine rp_get (C := RX9) (T := TX9) (N := 38) hx hb hts in_X9_takeRead_X9 hown hK hP 0 (by decide) (kX9 _) rfl 5 (by decide) (by decide +kernel) rfl dX9_takeRead_124 ?_
      rw [show (va_up (va_up (va_up (va_up (va_up (va_up (va_up σ 0 (upd (upd (upd (upd (upd (upd (σ 0) 0 (σ 0 19)) 1 (σ 0 20)) 2 (σ 0 21)) 3 (nI k)) 5 (nI n)) 9 (σ 0 28))) 1 (putN (σ 1) (σ 8) 0 k)) 2 (putN (σ 2) (σ 9) 0 n)) 3 (putN (σ 3) (σ 10) 0 n)) 4 (σ 4)) 5 (σ 5)) 6 (σ 6)) 0 5 = (nI n) from ((va_R (by decide)).trans ((va_R (by decide)).trans ((va_R (by decide)).trans ((va_R (by decide)).trans ((va_R (by decide)).trans ((va_R (by decide)).trans (va_S'.trans ((pk_un (by decide)).trans pk_us))))))))]
      refine rp_callSV (na := 3) hx hb hml hown hts hK hA hD hP hS hl.1 [.ref (ad 11), .ref (ad 4), .int (nI n)] (c_X9_copyRow_4 l D cy ad (va_up (va_up (va_up (va_up (va_up (va_up (va_up σ 0 (upd (upd (upd (upd (upd (upd (σ 0) 0 (σ 0 19)) 1 (σ 0 20)) 2 (σ 0 21)) 3 (nI k)) 5 (nI n)) 9 (σ 0 28))) 1 (putN (σ 1) (σ 8) 0 k)) 2 (putN (σ 2) (σ 9) 0 n)) 3 (putN (σ 3) (σ 10) 0 n)) 4 (σ 4)) 5 (σ 5)) 6 (σ 6)) (σ 11) (σ 4) n ((va_Q (by decide)).trans ((va_Q (by decide)).trans ((va_Q (by decide)).trans ((va_Q (by decide)).trans ((va_Q (by decide)).trans ((va_Q (by decide)).trans (va_Q (by decide)))))))) ((va_Q (by decide)).trans ((va_Q (by decide)).trans va_Qs)) (by first | assumption | omega)) gX9_takeRead_X9_copyRow rfl (by decide +kernel) rfl ⟨Nat.le_of_ble_eq_true rfl, Nat.le_of_ble_eq_true rfl⟩ ⟨rfl, rfl⟩ ⟨Nat.zero_le _, Nat.zero_le _⟩ rfl (Nat.le_of_ble_eq_true rfl) dX9_takeRead_127 (fun τ_ H locs hq hP hS => ?_)
      subst hq
      rw [show va_up (va_up (va_up (va_up (va_up (va_up (va_up (va_up σ 0 (upd (upd (upd (upd (upd (upd (σ 0) 0 (σ 0 19)) 1 (σ 0 20)) 2 (σ 0 21)) 3 (nI k)) 5 (nI n)) 9 (σ 0 28))) 1 (putN (σ 1) (σ 8) 0 k)) 2 (putN (σ 2) (σ 9) 0 n)) 3 (putN (σ 3) (σ 10) 0 n)) 4 (σ 4)) 5 (σ 5)) 6 (σ 6)) 4 (putN (σ 4) (σ 11) 0 n) = va_up (va_up (va_up (va_up (va_up (va_up (va_up σ 0 (upd (upd (upd (upd (upd (upd (σ 0) 0 (σ 0 19)) 1 (σ 0 20)) 2 (σ 0 21)) 3 (nI k)) 5 (nI n)) 9 (σ 0 28))) 1 (putN (σ 1) (σ 8) 0 k)) 2 (putN (σ 2) (σ 9) 0 n)) 3 (putN (σ 3) (σ 10) 0 n)) 4 (putN (σ 4) (σ 11) 0 n)) 5 (σ 5)) 6 (σ 6) from ((va_in (by decide)).trans (congrArg (fun z => va_up z 6 _) ((va_in (by decide)).trans (congrArg (fun z => va_up z 5 _) (bx_uu _ _ _ _)))))] at hP
      refine lv_aload_n hx hb dX9_takeRead_130 rfl (lv_at hl 0 rfl) ?_
      refine rp_get (C := RX9) (T := TX9) (N := 38) hx hb hts in_X9_takeRead_X9 hown hK hP 0 (by decide) (kX9 _) rfl 29 (by decide) (by decide +kernel) rfl dX9_takeRead_131 ?_
      refine lv_aload_n hx hb dX9_takeRead_134 rfl (lv_at hl 0 rfl) ?_
      refine rp_get (C := RX9) (T := TX9) (N := 38) hx hb hts in_X9_takeRead_X9 hown hK hP 0 (by decide) (kX9 _) rfl 10 (by decide) (by decide +kernel) rfl dX9_takeRead_135 ?_
      refine lv_aload_n hx hb dX9_takeRead_138 rfl (lv_at hl 0 rfl) ?_
      refine rp_get (C := RX9) (T := TX9) (N := 38) hx hb hts in_X9_takeRead_X9 hown hK hP 0 (by decide) (kX9 _) rfl 5 (by decide) (by decide +kernel) rfl dX9_takeRead_139 ?_
      rw [show (va_up (va_up (va_up (va_up (va_up (va_up (va_up σ 0 (upd (upd (upd (upd (upd (upd (σ 0) 0 (σ 0 19)) 1 (σ 0 20)) 2 (σ 0 21)) 3 (nI k)) 5 (nI n)) 9 (σ 0 28))) 1 (putN (σ 1) (σ 8) 0 k)) 2 (putN (σ 2) (σ 9) 0 n)) 3 (putN (σ 3) (σ 10) 0 n)) 4 (putN (σ 4) (σ 11) 0 n)) 5 (σ 5)) 6 (σ 6)) 0 5 = (nI n) from ((va_R (by decide)).trans ((va_R (by decide)).trans ((va_R (by decide)).trans ((va_R (by decide)).trans ((va_R (by decide)).trans ((va_R (by decide)).trans (va_S'.trans ((pk_un (by decide)).trans pk_us))))))))]
      refine rp_callSV (na := 3) hx hb hml hown hts hK hA hD hP hS hl.1 [.ref (ad 12), .ref (ad 5), .int (nI n)] (c_X9_copyRow_5 l D cy ad (va_up (va_up (va_up (va_up (va_up (va_up (va_up σ 0 (upd (upd (upd (upd (upd (upd (σ 0) 0 (σ 0 19)) 1 (σ 0 20)) 2 (σ 0 21)) 3 (nI k)) 5 (nI n)) 9 (σ 0 28))) 1 (putN (σ 1) (σ 8) 0 k)) 2 (putN (σ 2) (σ 9) 0 n)) 3 (putN (σ 3) (σ 10) 0 n)) 4 (putN (σ 4) (σ 11) 0 n)) 5 (σ 5)) 6 (σ 6)) (σ 12) (σ 5) n ((va_Q (by decide)).trans ((va_Q (by decide)).trans ((va_Q (by decide)).trans ((va_Q (by decide)).trans ((va_Q (by decide)).trans ((va_Q (by decide)).trans (va_Q (by decide)))))))) ((va_Q (by decide)).trans va_Qs) (by first | assumption | omega)) gX9_takeRead_X9_copyRow rfl (by decide +kernel) rfl ⟨Nat.le_of_ble_eq_true rfl, Nat.le_of_ble_eq_true rfl⟩ ⟨rfl, rfl⟩ ⟨Nat.zero_le _, Nat.zero_le _⟩ rfl (Nat.le_of_ble_eq_true rfl) dX9_takeRead_142 (fun τ_ H locs hq hP hS => ?_)
      subst hq
      rw [show va_up (va_up (va_up (va_up (va_up (va_up (va_up (va_up σ 0 (upd (upd (upd (upd (upd (upd (σ 0) 0 (σ 0 19)) 1 (σ 0 20)) 2 (σ 0 21)) 3 (nI k)) 5 (nI n)) 9 (σ 0 28))) 1 (putN (σ 1) (σ 8) 0 k)) 2 (putN (σ 2) (σ 9) 0 n)) 3 (putN (σ 3) (σ 10) 0 n)) 4 (putN (σ 4) (σ 11) 0 n)) 5 (σ 5)) 6 (σ 6)) 5 (putN (σ 5) (σ 12) 0 n) = va_up (va_up (va_up (va_up (va_up (va_up (va_up σ 0 (upd (upd (upd (upd (upd (upd (σ 0) 0 (σ 0 19)) 1 (σ 0 20)) 2 (σ 0 21)) 3 (nI k)) 5 (nI n)) 9 (σ 0 28))) 1 (putN (σ 1) (σ 8) 0 k)) 2 (putN (σ 2) (σ 9) 0 n)) 3 (putN (σ 3) (σ 10) 0 n)) 4 (putN (σ 4) (σ 11) 0 n)) 5 (putN (σ 5) (σ 12) 0 n)) 6 (σ 6) from ((va_in (by decide)).trans (congrArg (fun z => va_up z 6 _) (bx_uu _ _ _ _)))] at hP
      refine lv_iconst (v := 0) hx hb dX9_takeRead_145 (by decide) ?_
      refine lv_istore_n (lv' := [(1, .int 0), (0, .ref (ad 0))]) hx hb dX9_takeRead_146 rfl hl (by decide) rfl (fun ls hl => ?_)
      have L147 : ∀ (fu147 : Nat) (i : Nat), (i ≤ 23) → 23 - i < fu147 → ∀ (x1 : Int32) (τ : Nat → Nat → Int32) (H : Heap) (locs : List Loc) (ls : Array Slot), (nI i) = x1 → (va_up (va_up (va_up (va_up (va_up (va_up (va_up σ 0 (upd (upd (upd (upd (upd (upd (σ 0) 0 (σ 0 19)) 1 (σ 0 20)) 2 (σ 0 21)) 3 (nI k)) 5 (nI n)) 9 (σ 0 28))) 1 (putN (σ 1) (σ 8) 0 k)) 2 (putN (σ 2) (σ 9) 0 n)) 3 (putN (σ 3) (σ 10) 0 n)) 4 (putN (σ 4) (σ 11) 0 n)) 5 (putN (σ 5) (σ 12) 0 n)) 6 (putN (σ 6) (fun _ => 0) 0 i)) = τ → va_P D classes (rw_ 19 ad (cfM ad cy) τ) H → va_S A_ s_.heap H locs → lv_has ls 2 [(1, .int x1), (0, .ref (ad 0))] → W p_ l e_ ({ frames := 1, cells := 0, slots := 0, locals := 23 }) s_ m_ args_ bl_ mt_ c_ H locs 0 0 Q_ (F0 m_ 147 ls []) := by
        intro fu147
        induction fu147 with
        | zero => intro i hi hf; exact absurd hf (Nat.not_lt_zero _)
        | succ fu147 ih147 =>
          intro i hi hf147 x1 τ H locs ls ex1 eτ hP hS hl
          subst ex1
          subst eτ
          refine lv_iload_n hx hb dX9_takeRead_147 rfl (lv_at hl 0 rfl) ?_
          refine lv_bipush (v := 23) hx hb dX9_takeRead_148 (by decide) ?_
          refine lv_icmp_ge (tgt := 166) hx hb dX9_takeRead_150 (by decide) (fun c150 => ?_) (fun c150 => ?_)
          · skip
            have ei : i = 23 := cl_ex hi (by omega) c150
            refine lv_aload_n hx hb dX9_takeRead_166 rfl (lv_at hl 1 rfl) ?_
            refine rp_get (C := RX9) (T := TX9) (N := 38) hx hb hts in_X9_takeRead_X9 hown hK hP 0 (by decide) (kX9 _) rfl 11 (by decide) (by decide +kernel) rfl dX9_takeRead_167 ?_
            refine lv_bipush (v := 12) hx hb dX9_takeRead_170 (by decide) ?_
            refine lv_aload_n hx hb dX9_takeRead_172 rfl (lv_at hl 1 rfl) ?_
            refine rp_get (C := RX9) (T := TX9) (N := 38) hx hb hts in_X9_takeRead_X9 hown hK hP 0 (by decide) (kX9 _) rfl 1 (by decide) (by decide +kernel) rfl dX9_takeRead_173 ?_
            rw [show (va_up (va_up (va_up (va_up (va_up (va_up (va_up σ 0 (upd (upd (upd (upd (upd (upd (σ 0) 0 (σ 0 19)) 1 (σ 0 20)) 2 (σ 0 21)) 3 (nI k)) 5 (nI n)) 9 (σ 0 28))) 1 (putN (σ 1) (σ 8) 0 k)) 2 (putN (σ 2) (σ 9) 0 n)) 3 (putN (σ 3) (σ 10) 0 n)) 4 (putN (σ 4) (σ 11) 0 n)) 5 (putN (σ 5) (σ 12) 0 n)) 6 (putN (σ 6) (fun _ => 0) 0 i)) 0 1 = (σ 0 20) from ((va_R (by decide)).trans ((va_R (by decide)).trans ((va_R (by decide)).trans ((va_R (by decide)).trans ((va_R (by decide)).trans ((va_R (by decide)).trans (va_S'.trans ((pk_un (by decide)).trans ((pk_un (by decide)).trans ((pk_un (by decide)).trans ((pk_un (by decide)).trans pk_us)))))))))))]
            refine rp_iast (x := (σ 0 20)) hx hb hK hP hD hS 6 (by decide) (fun f => kX9_11 f) 0 rfl 12 rfl (by decide) (by decide) dX9_takeRead_176 (fun H locs hP hS => ?_)
            rw [show up2 (va_up (va_up (va_up (va_up (va_up (va_up (va_up σ 0 (upd (upd (upd (upd (upd (upd (σ 0) 0 (σ 0 19)) 1 (σ 0 20)) 2 (σ 0 21)) 3 (nI k)) 5 (nI n)) 9 (σ 0 28))) 1 (putN (σ 1) (σ 8) 0 k)) 2 (putN (σ 2) (σ 9) 0 n)) 3 (putN (σ 3) (σ 10) 0 n)) 4 (putN (σ 4) (σ 11) 0 n)) 5 (putN (σ 5) (σ 12) 0 n)) 6 (putN (σ 6) (fun _ => 0) 0 i)) 6 12 (σ 0 20) = va_up (va_up (va_up (va_up (va_up (va_up (va_up σ 0 (upd (upd (upd (upd (upd (upd (σ 0) 0 (σ 0 19)) 1 (σ 0 20)) 2 (σ 0 21)) 3 (nI k)) 5 (nI n)) 9 (σ 0 28))) 1 (putN (σ 1) (σ 8) 0 k)) 2 (putN (σ 2) (σ 9) 0 n)) 3 (putN (σ 3) (σ 10) 0 n)) 4 (putN (σ 4) (σ 11) 0 n)) 5 (putN (σ 5) (σ 12) 0 n)) 6 (upd (putN (σ 6) (fun _ => 0) 0 i) 12 (σ 0 20)) from (vu_up _ _ _ _ _)] at hP
            exact hret hP hS dX9_takeRead_177 (by unfold T_X9_takeRead_O T_X9_takeRead_ar T_X9_takeRead_ow T_X9_takeRead_wt T_X9_takeRead_wo T_X9_takeRead_fr T_X9_takeRead_N <;> simp only [if_neg c13, ei])
          · skip
            have hi2 : i < 23 := cl_in (by omega) (by omega) c150
            refine lv_aload_n hx hb dX9_takeRead_153 rfl (lv_at hl 1 rfl) ?_
            refine rp_get (C := RX9) (T := TX9) (N := 38) hx hb hts in_X9_takeRead_X9 hown hK hP 0 (by decide) (kX9 _) rfl 11 (by decide) (by decide +kernel) rfl dX9_takeRead_154 ?_
            refine lv_iload_n hx hb dX9_takeRead_157 rfl (lv_at hl 0 rfl) ?_
            refine lv_iconst (v := 0) hx hb dX9_takeRead_158 (by decide) ?_
            refine rp_iast (x := 0) hx hb hK hP hD hS 6 (by decide) (fun f => kX9_11 f) 0 rfl i rfl (by omega) (by decide) dX9_takeRead_159 (fun H locs hP hS => ?_)
            rw [show up2 (va_up (va_up (va_up (va_up (va_up (va_up (va_up σ 0 (upd (upd (upd (upd (upd (upd (σ 0) 0 (σ 0 19)) 1 (σ 0 20)) 2 (σ 0 21)) 3 (nI k)) 5 (nI n)) 9 (σ 0 28))) 1 (putN (σ 1) (σ 8) 0 k)) 2 (putN (σ 2) (σ 9) 0 n)) 3 (putN (σ 3) (σ 10) 0 n)) 4 (putN (σ 4) (σ 11) 0 n)) 5 (putN (σ 5) (σ 12) 0 n)) 6 (putN (σ 6) (fun _ => 0) 0 i)) 6 i 0 = va_up (va_up (va_up (va_up (va_up (va_up (va_up σ 0 (upd (upd (upd (upd (upd (upd (σ 0) 0 (σ 0 19)) 1 (σ 0 20)) 2 (σ 0 21)) 3 (nI k)) 5 (nI n)) 9 (σ 0 28))) 1 (putN (σ 1) (σ 8) 0 k)) 2 (putN (σ 2) (σ 9) 0 n)) 3 (putN (σ 3) (σ 10) 0 n)) 4 (putN (σ 4) (σ 11) 0 n)) 5 (putN (σ 5) (σ 12) 0 n)) 6 (upd (putN (σ 6) (fun _ => 0) 0 i) i 0) from (vu_up _ _ _ _ _)] at hP
            refine lv_iinc (v := ((nI i) + 1)) (lv' := [(1, .int ((nI i) + 1)), (0, .ref (ad 0))]) hx hb dX9_takeRead_160 hl (k := 0) rfl rfl (by decide) rfl (fun ls hl => ?_)
            refine lv_goto (tgt := 147) hx hb dX9_takeRead_163 (by decide) ?_
            exact ih147 (i + 1) (by omega) (by omega) _ _ _ _ _ ((nI_1 i).symm) (by rw [← putN_s, Nat.zero_add]) hP hS (lv_sub hl [0, 1] rfl)
      exact L147 ((23 - 0) + 1) 0 (Nat.zero_le _) (Nat.lt_succ_self _) _ _ _ _ _ (by first | rfl | simp [*]) (by rw [putN_0]) hP hS (lv_sub hl [0, 1] rfl)
