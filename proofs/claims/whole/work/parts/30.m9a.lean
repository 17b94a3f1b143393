set_option maxHeartbeats 1000000 in
set_option maxRecDepth 100000 in
theorem c_X9_in (l : Launch) (D : va_G) (cy : Nat → ClassId) (ad : Nat → Nat) (σ : Nat → Nat → Int32) (a : Int64) (b : Int64) (c : Int64)  : MI l D (tysW cy) 19 ad (cfM ad cy) yX9_in wsX9_in ({ frames := 0, cells := 0, slots := 0, locals := 0 }) σ [.long a, .long b, .long c] (fun v_ τ_ => (bi (b ≤ a ∧ a ≤ c)) = v_ ∧ σ = τ_) := by
  refine MI.go (cc := cX9_in) (maxL := 6) .boolean (by decide) rfl (Nat.le_of_ble_eq_true rfl) ?_
  intro p_ e_ s_ m_ args_ bl_ mt_ c_ A_ Q_ ls hx hb hml hown hts hK hA hD hP hS hl hret
  have hl : lv_has ls 6 [(0, .long a), (2, .long b), (4, .long c)] := hl
  refine lv_lload_n hx hb dX9_in_0 rfl (lv_at hl 0 rfl) ?_
  refine lv_lload_n hx hb dX9_in_1 rfl (lv_at hl 1 rfl) ?_
  refine W.lcmp hx hb dX9_in_2 ?_
  refine lv_if_lt (tgt := 17) hx hb dX9_in_3 (by decide) (fun c3 => ?_) (fun c3 => ?_)
  · skip
    refine lv_iconst (v := 0) hx hb dX9_in_17 (by decide) ?_
    exact hret hP hS dX9_in_18 rfl ⟨(by first | exact bi_f (fun q => absurd ((lg_cmp_lt _ _).mp c3) (Int64.not_lt.mpr q.1)) | exact bi_f (fun q => absurd ((lg_cmp_gt _ _).mp c10) (Int64.not_lt.mpr q.2)) | exact bi_t ⟨Int64.not_lt.mp (fun h => c3 ((lg_cmp_lt _ _).mpr h)), Int64.not_lt.mp (fun h => c10 ((lg_cmp_gt _ _).mpr h))⟩), rfl⟩
  · skip
    refine lv_lload_n hx hb dX9_in_6 rfl (lv_at hl 0 rfl) ?_
    refine lv_lload hx hb dX9_in_7 (lv_at hl 2 rfl) ?_
    refine W.lcmp hx hb dX9_in_9 ?_
    refine lv_if_gt (tgt := 17) hx hb dX9_in_10 (by decide) (fun c10 => ?_) (fun c10 => ?_)
    · skip
      refine lv_iconst (v := 0) hx hb dX9_in_17 (by decide) ?_
      exact hret hP hS dX9_in_18 rfl ⟨(by first | exact bi_f (fun q => absurd ((lg_cmp_lt _ _).mp c3) (Int64.not_lt.mpr q.1)) | exact bi_f (fun q => absurd ((lg_cmp_gt _ _).mp c10) (Int64.not_lt.mpr q.2)) | exact bi_t ⟨Int64.not_lt.mp (fun h => c3 ((lg_cmp_lt _ _).mpr h)), Int64.not_lt.mp (fun h => c10 ((lg_cmp_gt _ _).mpr h))⟩), rfl⟩
    · skip
      refine lv_iconst (v := 1) hx hb dX9_in_13 (by decide) ?_
      refine lv_goto (tgt := 18) hx hb dX9_in_14 (by decide) ?_
      exact hret hP hS dX9_in_18 rfl ⟨(by first | exact bi_f (fun q => absurd ((lg_cmp_lt _ _).mp c3) (Int64.not_lt.mpr q.1)) | exact bi_f (fun q => absurd ((lg_cmp_gt _ _).mp c10) (Int64.not_lt.mpr q.2)) | exact bi_t ⟨Int64.not_lt.mp (fun h => c3 ((lg_cmp_lt _ _).mpr h)), Int64.not_lt.mp (fun h => c10 ((lg_cmp_gt _ _).mpr h))⟩), rfl⟩

set_option maxHeartbeats 1000000 in
set_option maxRecDepth 100000 in
theorem c_X9_has (l : Launch) (D : va_G) (cy : Nat → ClassId) (ad : Nat → Nat) (σ : Nat → Nat → Int32) (u : Int32) (s : Int32)  : MI l D (tysW cy) 19 ad (cfM ad cy) yX9_has wsX9_has ({ frames := 0, cells := 0, slots := 0, locals := 0 }) σ [.int u, .int s] (fun v_ τ_ => (bi (hasB u s)) = v_ ∧ σ = τ_) := by
  refine MI.go (cc := cX9_has) (maxL := 2) .boolean (by decide) rfl (Nat.le_of_ble_eq_true rfl) ?_
  intro p_ e_ s_ m_ args_ bl_ mt_ c_ A_ Q_ ls hx hb hml hown hts hK hA hD hP hS hl hret
  have hl : lv_has ls 2 [(0, .int u), (1, .int s)] := hl
  refine lv_iload_n hx hb dX9_has_0 rfl (lv_at hl 0 rfl) ?_
  refine lv_iload_n hx hb dX9_has_1 rfl (lv_at hl 1 rfl) ?_
  refine lv_ishr hx hb dX9_has_2 ?_
  refine lv_iconst (v := 1) hx hb dX9_has_3 (by decide) ?_
  refine lv_iand hx hb dX9_has_4 ?_
  refine lv_iconst (v := 1) hx hb dX9_has_5 (by decide) ?_
  refine lv_icmp_ne (tgt := 13) hx hb dX9_has_6 (by decide) (fun c6 => ?_) (fun c6 => ?_)
  · skip
    refine lv_iconst (v := 0) hx hb dX9_has_13 (by decide) ?_
    exact hret hP hS dX9_has_14 rfl ⟨(by first | exact bi_f c6 | exact bi_t c6), rfl⟩
  · skip
    refine lv_iconst (v := 1) hx hb dX9_has_9 (by decide) ?_
    refine lv_goto (tgt := 14) hx hb dX9_has_10 (by decide) ?_
    exact hret hP hS dX9_has_14 rfl ⟨(by first | exact bi_f c6 | exact bi_t c6), rfl⟩

set_option maxHeartbeats 1000000 in
set_option maxRecDepth 100000 in
theorem c_X9_bits (l : Launch) (D : va_G) (cy : Nat → ClassId) (ad : Nat → Nat) (σ : Nat → Nat → Int32) (u : Int32)  : MI l D (tysW cy) 19 ad (cfM ad cy) yX9_bits wsX9_bits ({ frames := 0, cells := 0, slots := 0, locals := 0 }) σ [.int u] (fun v_ τ_ => (bitsN u 10) = v_ ∧ σ = τ_) := by
  refine MI.go (cc := cX9_bits) (maxL := 3) .int (by decide) rfl (Nat.le_of_ble_eq_true rfl) ?_
  intro p_ e_ s_ m_ args_ bl_ mt_ c_ A_ Q_ ls hx hb hml hown hts hK hA hD hP hS hl hret
  have hl : lv_has ls 3 [(0, .int u)] := hl
  refine lv_iconst (v := 0) hx hb dX9_bits_0 (by decide) ?_
  refine lv_istore_n (lv' := [(1, .int 0), (0, .int u)]) hx hb dX9_bits_1 rfl hl (by decide) rfl (fun ls hl => ?_)
  refine lv_iconst (v := 0) hx hb dX9_bits_2 (by decide) ?_
  refine lv_istore_n (lv' := [(2, .int 0), (1, .int 0), (0, .int u)]) hx hb dX9_bits_3 rfl hl (by decide) rfl (fun ls hl => ?_)
  have L4 : ∀ (fu4 : Nat) (i : Nat), (i ≤ 10) → 10 - i < fu4 → ∀ (x2 : Int32) (x1 : Int32) (τ : Nat → Nat → Int32) (H : Heap) (locs : List Loc) (ls : Array Slot), (nI i) = x2 → (bitsN u i) = x1 → σ = τ → va_P D classes (rw_ 19 ad (cfM ad cy) τ) H → va_S A_ s_.heap H locs → lv_has ls 3 [(2, .int x2), (1, .int x1), (0, .int u)] → W p_ l e_ ({ frames := 0, cells := 0, slots := 0, locals := 0 }) s_ m_ args_ bl_ mt_ c_ H locs 0 0 Q_ (F0 m_ 4 ls []) := by
    intro fu4
    induction fu4 with
    | zero => intro i hi hf; exact absurd hf (Nat.not_lt_zero _)
    | succ fu4 ih4 =>
      intro i hi hf4 x2 x1 τ H locs ls ex2 ex1 eτ hP hS hl
      subst ex2
      subst ex1
      subst eτ
      refine lv_iload_n hx hb dX9_bits_4 rfl (lv_at hl 0 rfl) ?_
      refine lv_bipush (v := 10) hx hb dX9_bits_5 (by decide) ?_
      refine lv_icmp_ge (tgt := 24) hx hb dX9_bits_7 (by decide) (fun c7 => ?_) (fun c7 => ?_)
      · skip
        have ei : i = 10 := cl_ex hi (by omega) c7
        refine lv_iload_n hx hb dX9_bits_24 rfl (lv_at hl 1 rfl) ?_
        exact hret hP hS dX9_bits_25 rfl ⟨(by rw [ei]), rfl⟩
      · skip
        have hi2 : i < 10 := cl_in (by omega) (by omega) c7
        refine lv_iload_n hx hb dX9_bits_10 rfl (lv_at hl 1 rfl) ?_
        refine lv_iload_n hx hb dX9_bits_11 rfl (lv_at hl 2 rfl) ?_
        refine lv_iload_n hx hb dX9_bits_12 rfl (lv_at hl 0 rfl) ?_
        refine lv_ishr hx hb dX9_bits_13 ?_
        refine lv_iconst (v := 1) hx hb dX9_bits_14 (by decide) ?_
        refine lv_iand hx hb dX9_bits_15 ?_
        refine lv_iadd hx hb dX9_bits_16 ?_
        refine lv_istore_n (lv' := [(1, .int ((bitsN u i) + ((u >>> ((nI i) &&& 31)) &&& 1))), (2, .int (nI i)), (0, .int u)]) hx hb dX9_bits_17 rfl hl (by decide) rfl (fun ls hl => ?_)
        refine lv_iinc (v := ((nI i) + 1)) (lv' := [(2, .int ((nI i) + 1)), (1, .int ((bitsN u i) + ((u >>> ((nI i) &&& 31)) &&& 1))), (0, .int u)]) hx hb dX9_bits_18 hl (k := 1) rfl rfl (by decide) rfl (fun ls hl => ?_)
        refine lv_goto (tgt := 4) hx hb dX9_bits_21 (by decide) ?_
        exact ih4 (i + 1) (by omega) (by omega) _ _ _ _ _ _ ((nI_1 i).symm) rfl rfl hP hS (lv_sub hl [0, 1, 2] rfl)
  exact L4 ((10 - 0) + 1) 0 (Nat.zero_le _) (Nat.lt_succ_self _) _ _ _ _ _ _ (by first | rfl | simp [*]) (by first | rfl | simp [*]) rfl hP hS (lv_sub hl [0, 1, 2] rfl)

theorem in_X9_isPerson_X9 : ∀ w ∈ u_ws RX9 TX9 38, w ∈ wsX9_isPerson := by decide +kernel
set_option maxHeartbeats 1000000 in
set_option maxRecDepth 100000 in
theorem c_X9_isPerson (l : Launch) (D : va_G) (cy : Nat → ClassId) (ad : Nat → Nat) (σ : Nat → Nat → Int32) (k : Nat) (v : Int32) (hk : k ≤ 5) (ek : σ 0 3 = nI k) : MI l D (tysW cy) 19 ad (cfM ad cy) yX9_isPerson wsX9_isPerson ({ frames := 1, cells := 0, slots := 0, locals := 25 }) σ [.ref (ad 0), .int v] (fun v_ τ_ => (bi (0 ≤ v ∧ ¬ nI k ≤ v)) = v_ ∧ σ = τ_) := by
  refine MI.go (cc := cX9_isPerson) (maxL := 2) .boolean (by decide) rfl (Nat.le_of_ble_eq_true rfl) ?_
  intro p_ e_ s_ m_ args_ bl_ mt_ c_ A_ Q_ ls hx hb hml hown hts hK hA hD hP hS hl hret
  have hl : lv_has ls 2 [(0, .ref (ad 0)), (1, .int v)] := hl
  refine lv_iload_n hx hb dX9_isPerson_0 rfl (lv_at hl 1 rfl) ?_
  refine lv_i2l (v := (v).toInt64) hx hb dX9_isPerson_1 rfl ?_
  refine lv_lconst (v := 0) hx hb dX9_isPerson_2 (by decide) ?_
  refine lv_aload_n hx hb dX9_isPerson_3 rfl (lv_at hl 0 rfl) ?_
  refine rp_get (C := RX9) (T := TX9) (N := 38) hx hb hts in_X9_isPerson_X9 hown hK hP 0 (by decide) (kX9 _) rfl 3 (by decide) (by decide +kernel) rfl dX9_isPerson_4 ?_
  refine lv_iconst (v := 1) hx hb dX9_isPerson_7 (by decide) ?_
  refine lv_isub hx hb dX9_isPerson_8 ?_
  refine lv_i2l (v := (((σ 0 3) - 1)).toInt64) hx hb dX9_isPerson_9 rfl ?_
  refine rp_callSI (na := 3) hx hb hml hown hts hK hA hD hP hS hl.1 [.long (v).toInt64, .long 0, .long (((σ 0 3) - 1)).toInt64] (c_X9_in l D cy ad σ ((v).toInt64) 0 ((((σ 0 3) - 1)).toInt64) ) gX9_isPerson_X9_in rfl (by decide +kernel) rfl ⟨Nat.le_of_ble_eq_true rfl, Nat.le_of_ble_eq_true rfl⟩ ⟨rfl, rfl⟩ ⟨Nat.zero_le _, Nat.zero_le _⟩ rfl (Nat.le_of_ble_eq_true rfl) dX9_isPerson_10 (fun v_ τ_ H locs hq hP hS => ?_)
  obtain ⟨rfl, rfl⟩ := hq
  exact hret hP hS dX9_isPerson_13 bi_narrow ⟨(by rw [ek]; exact (in_cnt v (by omega)).symm), rfl⟩

theorem in_X9_isSaying_X9 : ∀ w ∈ u_ws RX9 TX9 38, w ∈ wsX9_isSaying := by decide +kernel
set_option maxHeartbeats 1000000 in
set_option maxRecDepth 100000 in
theorem c_X9_isSaying (l : Launch) (D : va_G) (cy : Nat → ClassId) (ad : Nat → Nat) (σ : Nat → Nat → Int32) (n : Nat) (v : Int32) (hn : n ≤ 10) (en : σ 0 5 = nI n) : MI l D (tysW cy) 19 ad (cfM ad cy) yX9_isSaying wsX9_isSaying ({ frames := 1, cells := 0, slots := 0, locals := 25 }) σ [.ref (ad 0), .int v] (fun v_ τ_ => (bi (0 ≤ v ∧ ¬ nI n ≤ v)) = v_ ∧ σ = τ_) := by
  refine MI.go (cc := cX9_isSaying) (maxL := 2) .boolean (by decide) rfl (Nat.le_of_ble_eq_true rfl) ?_
  intro p_ e_ s_ m_ args_ bl_ mt_ c_ A_ Q_ ls hx hb hml hown hts hK hA hD hP hS hl hret
  have hl : lv_has ls 2 [(0, .ref (ad 0)), (1, .int v)] := hl
  refine lv_iload_n hx hb dX9_isSaying_0 rfl (lv_at hl 1 rfl) ?_
  refine lv_i2l (v := (v).toInt64) hx hb dX9_isSaying_1 rfl ?_
  refine lv_lconst (v := 0) hx hb dX9_isSaying_2 (by decide) ?_
  refine lv_aload_n hx hb dX9_isSaying_3 rfl (lv_at hl 0 rfl) ?_
  refine rp_get (C := RX9) (T := TX9) (N := 38) hx hb hts in_X9_isSaying_X9 hown hK hP 0 (by decide) (kX9 _) rfl 5 (by decide) (by decide +kernel) rfl dX9_isSaying_4 ?_
  refine lv_iconst (v := 1) hx hb dX9_isSaying_7 (by decide) ?_
  refine lv_isub hx hb dX9_isSaying_8 ?_
  refine lv_i2l (v := (((σ 0 5) - 1)).toInt64) hx hb dX9_isSaying_9 rfl ?_
  refine rp_callSI (na := 3) hx hb hml hown hts hK hA hD hP hS hl.1 [.long (v).toInt64, .long 0, .long (((σ 0 5) - 1)).toInt64] (c_X9_in l D cy ad σ ((v).toInt64) 0 ((((σ 0 5) - 1)).toInt64) ) gX9_isSaying_X9_in rfl (by decide +kernel) rfl ⟨Nat.le_of_ble_eq_true rfl, Nat.le_of_ble_eq_true rfl⟩ ⟨rfl, rfl⟩ ⟨Nat.zero_le _, Nat.zero_le _⟩ rfl (Nat.le_of_ble_eq_true rfl) dX9_isSaying_10 (fun v_ τ_ H locs hq hP hS => ?_)
  obtain ⟨rfl, rfl⟩ := hq
  exact hret hP hS dX9_isSaying_13 bi_narrow ⟨(by rw [en]; exact (in_cnt v (by omega)).symm), rfl⟩

theorem in_X9_isSet_X9 : ∀ w ∈ u_ws RX9 TX9 38, w ∈ wsX9_isSet := by decide +kernel
set_option maxHeartbeats 1000000 in
set_option maxRecDepth 100000 in
theorem c_X9_isSet (l : Launch) (D : va_G) (cy : Nat → ClassId) (ad : Nat → Nat) (σ : Nat → Nat → Int32) (n : Nat) (v : Int32) (hn : n ≤ 10) (en : σ 0 5 = nI n) : MI l D (tysW cy) 19 ad (cfM ad cy) yX9_isSet wsX9_isSet ({ frames := 1, cells := 0, slots := 0, locals := 25 }) σ [.ref (ad 0), .int v] (fun v_ τ_ => (bi (0 ≤ v ∧ ¬ nI (2 ^ n) ≤ v)) = v_ ∧ σ = τ_) := by
  refine MI.go (cc := cX9_isSet) (maxL := 2) .boolean (by decide) rfl (Nat.le_of_ble_eq_true rfl) ?_
  intro p_ e_ s_ m_ args_ bl_ mt_ c_ A_ Q_ ls hx hb hml hown hts hK hA hD hP hS hl hret
  have hl : lv_has ls 2 [(0, .ref (ad 0)), (1, .int v)] := hl
  refine lv_iload_n hx hb dX9_isSet_0 rfl (lv_at hl 1 rfl) ?_
  refine lv_i2l (v := (v).toInt64) hx hb dX9_isSet_1 rfl ?_
  refine lv_lconst (v := 0) hx hb dX9_isSet_2 (by decide) ?_
  refine lv_iconst (v := 1) hx hb dX9_isSet_3 (by decide) ?_
  refine lv_aload_n hx hb dX9_isSet_4 rfl (lv_at hl 0 rfl) ?_
  refine rp_get (C := RX9) (T := TX9) (N := 38) hx hb hts in_X9_isSet_X9 hown hK hP 0 (by decide) (kX9 _) rfl 5 (by decide) (by decide +kernel) rfl dX9_isSet_5 ?_
  refine lv_ishl hx hb dX9_isSet_8 ?_
  refine lv_iconst (v := 1) hx hb dX9_isSet_9 (by decide) ?_
  refine lv_isub hx hb dX9_isSet_10 ?_
  refine lv_i2l (v := ((((1 : Int32) <<< ((σ 0 5) &&& 31)) - 1)).toInt64) hx hb dX9_isSet_11 rfl ?_
  refine rp_callSI (na := 3) hx hb hml hown hts hK hA hD hP hS hl.1 [.long (v).toInt64, .long 0, .long ((((1 : Int32) <<< ((σ 0 5) &&& 31)) - 1)).toInt64] (c_X9_in l D cy ad σ ((v).toInt64) 0 (((((1 : Int32) <<< ((σ 0 5) &&& 31)) - 1)).toInt64) ) gX9_isSet_X9_in rfl (by decide +kernel) rfl ⟨Nat.le_of_ble_eq_true rfl, Nat.le_of_ble_eq_true rfl⟩ ⟨rfl, rfl⟩ ⟨Nat.zero_le _, Nat.zero_le _⟩ rfl (Nat.le_of_ble_eq_true rfl) dX9_isSet_12 (fun v_ τ_ H locs hq hP hS => ?_)
  obtain ⟨rfl, rfl⟩ := hq
  exact hret hP hS dX9_isSet_15 bi_narrow ⟨(by rw [en]; exact (in_set v hn).symm), rfl⟩

theorem in_X9_holdsBut_X9 : ∀ w ∈ u_ws RX9 TX9 38, w ∈ wsX9_holdsBut := by decide +kernel
set_option maxHeartbeats 1000000 in
set_option maxRecDepth 100000 in
theorem c_X9_holdsBut (l : Launch) (D : va_G) (cy : Nat → ClassId) (ad : Nat → Nat) (σ : Nat → Nat → Int32) (n : Nat) (u : Int32) (hn : n ≤ 10) (en : σ 0 5 = nI n) : MI l D (tysW cy) 19 ad (cfM ad cy) yX9_holdsBut wsX9_holdsBut ({ frames := 1, cells := 0, slots := 0, locals := 21 }) σ [.ref (ad 0), .int u] (fun v_ τ_ => (holdN (σ 5) u n) = v_ ∧ σ = τ_) := by
  refine MI.go (cc := cX9_holdsBut) (maxL := 5) .int (by decide) rfl (Nat.le_of_ble_eq_true rfl) ?_
  intro p_ e_ s_ m_ args_ bl_ mt_ c_ A_ Q_ ls hx hb hml hown hts hK hA hD hP hS hl hret
  have hl : lv_has ls 5 [(0, .ref (ad 0)), (1, .int u)] := hl
  refine lv_iconst (v := 0) hx hb dX9_holdsBut_0 (by decide) ?_
  refine lv_istore_n (lv' := [(2, .int 0), (0, .ref (ad 0)), (1, .int u)]) hx hb dX9_holdsBut_1 rfl hl (by decide) rfl (fun ls hl => ?_)
  refine lv_iconst (v := 0) hx hb dX9_holdsBut_2 (by decide) ?_
  refine lv_istore_n (lv' := [(3, .int 0), (2, .int 0), (0, .ref (ad 0)), (1, .int u)]) hx hb dX9_holdsBut_3 rfl hl (by decide) rfl (fun ls hl => ?_)
  have L4 : ∀ (fu4 : Nat) (i : Nat), (i ≤ n) → n - i < fu4 → ∀ (x3 : Int32) (x2 : Int32) (τ : Nat → Nat → Int32) (H : Heap) (locs : List Loc) (ls : Array Slot), (nI i) = x3 → (holdN (σ 5) u i) = x2 → σ = τ → va_P D classes (rw_ 19 ad (cfM ad cy) τ) H → va_S A_ s_.heap H locs → lv_has ls 5 [(3, .int x3), (2, .int x2), (0, .ref (ad 0)), (1, .int u)] → W p_ l e_ ({ frames := 1, cells := 0, slots := 0, locals := 21 }) s_ m_ args_ bl_ mt_ c_ H locs 0 0 Q_ (F0 m_ 4 ls []) := by
    intro fu4
    induction fu4 with
    | zero => intro i hi hf; exact absurd hf (Nat.not_lt_zero _)
    | succ fu4 ih4 =>
      intro i hi hf4 x3 x2 τ H locs ls ex3 ex2 eτ hP hS hl
      subst ex3
      subst ex2
      subst eτ
      refine lv_iload_n hx hb dX9_holdsBut_4 rfl (lv_at hl 0 rfl) ?_
      refine lv_aload_n hx hb dX9_holdsBut_5 rfl (lv_at hl 2 rfl) ?_
      refine rp_get (C := RX9) (T := TX9) (N := 38) hx hb hts in_X9_holdsBut_X9 hown hK hP 0 (by decide) (kX9 _) rfl 5 (by decide) (by decide +kernel) rfl dX9_holdsBut_6 ?_
      rw [en]
      refine lv_icmp_ge (tgt := 61) hx hb dX9_holdsBut_9 (by decide) (fun c9 => ?_) (fun c9 => ?_)
      · skip
        have ei := cl_ex hi (by omega) c9
        refine lv_iload_n hx hb dX9_holdsBut_61 rfl (lv_at hl 1 rfl) ?_
        exact hret hP hS dX9_holdsBut_62 rfl ⟨(by rw [ei]), rfl⟩
      · skip
        have hi2 := cl_in (by omega) (by omega) c9
        refine lv_iload_n hx hb dX9_holdsBut_12 rfl (lv_at hl 3 rfl) ?_
        refine lv_iload_n hx hb dX9_holdsBut_13 rfl (lv_at hl 0 rfl) ?_
        refine rp_callSI (na := 2) hx hb hml hown hts hK hA hD hP hS hl.1 [.int u, .int (nI i)] (c_X9_has l D cy ad σ u (nI i) ) gX9_holdsBut_X9_has rfl (by decide +kernel) rfl ⟨Nat.le_of_ble_eq_true rfl, Nat.le_of_ble_eq_true rfl⟩ ⟨rfl, rfl⟩ ⟨Nat.zero_le _, Nat.zero_le _⟩ rfl (Nat.le_of_ble_eq_true rfl) dX9_holdsBut_14 (fun v_ τ_ H locs hq hP hS => ?_)
        obtain ⟨rfl, rfl⟩ := hq
        refine lv_if_ne (tgt := 37) hx hb dX9_holdsBut_17 (by decide) (fun c17 => ?_) (fun c17 => ?_)
        · skip
          have c17 := bi_ne0.mp c17
          refine lv_iconst (v := 0) hx hb dX9_holdsBut_37 (by decide) ?_
          refine lv_istore (lv' := [(4, .int 0), (3, .int (nI i)), (2, .int (holdN (σ 5) u i)), (0, .ref (ad 0)), (1, .int u)]) hx hb dX9_holdsBut_38 hl (by decide) rfl (fun ls hl => ?_)
          refine lv_iload_n hx hb dX9_holdsBut_40 rfl (lv_at hl 2 rfl) ?_
          refine lv_iload hx hb dX9_holdsBut_41 (lv_at hl 0 rfl) ?_
          refine lv_if_eq (tgt := 52) hx hb dX9_holdsBut_43 (by decide) (fun c43 => ?_) (fun c43 => ?_)
          · skip
            refine lv_iconst (v := 0) hx hb dX9_holdsBut_52 (by decide) ?_
            refine lv_ior hx hb dX9_holdsBut_53 ?_
            refine lv_istore_n (lv' := [(2, .int ((holdN (σ 5) u i) ||| 0)), (4, .int 0), (3, .int (nI i)), (0, .ref (ad 0)), (1, .int u)]) hx hb dX9_holdsBut_54 rfl hl (by decide) rfl (fun ls hl => ?_)
            refine lv_iinc (v := ((nI i) + 1)) (lv' := [(3, .int ((nI i) + 1)), (2, .int ((holdN (σ 5) u i) ||| 0)), (4, .int 0), (0, .ref (ad 0)), (1, .int u)]) hx hb dX9_holdsBut_55 hl (k := 2) rfl rfl (by decide) rfl (fun ls hl => ?_)
            refine lv_goto (tgt := 4) hx hb dX9_holdsBut_58 (by decide) ?_
            exact ih4 (i + 1) (by omega) (by omega) _ _ _ _ _ _ ((nI_1 i).symm) (by first | exact (holdN_f c17).trans (or_0 _).symm | exact (holdN_g c30).trans (or_0 _).symm | exact holdN_t c17 c30 | exact absurd c43 (by decide)) rfl hP hS (lv_sub hl [0, 1, 3, 4] rfl)
          · skip
            exact absurd (by decide) c43
        · skip
          have c17 := bi_eq0.mp c17
          refine lv_aload_n hx hb dX9_holdsBut_20 rfl (lv_at hl 2 rfl) ?_
          refine rp_get (C := RX9) (T := TX9) (N := 38) hx hb hts in_X9_holdsBut_X9 hown hK hP 0 (by decide) (kX9 _) rfl 10 (by decide) (by decide +kernel) rfl dX9_holdsBut_21 ?_
          refine lv_iload_n hx hb dX9_holdsBut_24 rfl (lv_at hl 0 rfl) ?_
          refine rp_iald hx hb hK hP 5 (by decide) (kX9_10 _) 0 rfl i rfl (by omega) (by decide) dX9_holdsBut_25 ?_
          refine lv_iload_n hx hb dX9_holdsBut_26 rfl (lv_at hl 1 rfl) ?_
          refine lv_iconst (v := (-1)) hx hb dX9_holdsBut_27 (by decide) ?_
          refine lv_ixor hx hb dX9_holdsBut_28 ?_
          refine lv_iand hx hb dX9_holdsBut_29 ?_
          refine lv_if_ne (tgt := 37) hx hb dX9_holdsBut_30 (by decide) (fun c30 => ?_) (fun c30 => ?_)
          · skip
            refine lv_iconst (v := 0) hx hb dX9_holdsBut_37 (by decide) ?_
            refine lv_istore (lv' := [(4, .int 0), (3, .int (nI i)), (2, .int (holdN (σ 5) u i)), (0, .ref (ad 0)), (1, .int u)]) hx hb dX9_holdsBut_38 hl (by decide) rfl (fun ls hl => ?_)
            refine lv_iload_n hx hb dX9_holdsBut_40 rfl (lv_at hl 2 rfl) ?_
            refine lv_iload hx hb dX9_holdsBut_41 (lv_at hl 0 rfl) ?_
            refine lv_if_eq (tgt := 52) hx hb dX9_holdsBut_43 (by decide) (fun c43 => ?_) (fun c43 => ?_)
            · skip
              refine lv_iconst (v := 0) hx hb dX9_holdsBut_52 (by decide) ?_
              refine lv_ior hx hb dX9_holdsBut_53 ?_
              refine lv_istore_n (lv' := [(2, .int ((holdN (σ 5) u i) ||| 0)), (4, .int 0), (3, .int (nI i)), (0, .ref (ad 0)), (1, .int u)]) hx hb dX9_holdsBut_54 rfl hl (by decide) rfl (fun ls hl => ?_)
              refine lv_iinc (v := ((nI i) + 1)) (lv' := [(3, .int ((nI i) + 1)), (2, .int ((holdN (σ 5) u i) ||| 0)), (4, .int 0), (0, .ref (ad 0)), (1, .int u)]) hx hb dX9_holdsBut_55 hl (k := 2) rfl rfl (by decide) rfl (fun ls hl => ?_)
              refine lv_goto (tgt := 4) hx hb dX9_holdsBut_58 (by decide) ?_
              exact ih4 (i + 1) (by omega) (by omega) _ _ _ _ _ _ ((nI_1 i).symm) (by first | exact (holdN_f c17).trans (or_0 _).symm | exact (holdN_g c30).trans (or_0 _).symm | exact holdN_t c17 c30 | exact absurd c43 (by decide)) rfl hP hS (lv_sub hl [0, 1, 3, 4] rfl)
            · skip
              exact absurd (by decide) c43
          · skip
            refine lv_iconst (v := 1) hx hb dX9_holdsBut_33 (by decide) ?_
            refine lv_goto (tgt := 38) hx hb dX9_holdsBut_34 (by decide) ?_
            refine lv_istore (lv' := [(4, .int 1), (3, .int (nI i)), (2, .int (holdN (σ 5) u i)), (0, .ref (ad 0)), (1, .int u)]) hx hb dX9_holdsBut_38 hl (by decide) rfl (fun ls hl => ?_)
            refine lv_iload_n hx hb dX9_holdsBut_40 rfl (lv_at hl 2 rfl) ?_
            refine lv_iload hx hb dX9_holdsBut_41 (lv_at hl 0 rfl) ?_
            refine lv_if_eq (tgt := 52) hx hb dX9_holdsBut_43 (by decide) (fun c43 => ?_) (fun c43 => ?_)
            · skip
              exact absurd c43 (by decide)
            · skip
              refine lv_iconst (v := 1) hx hb dX9_holdsBut_46 (by decide) ?_
              refine lv_iload_n hx hb dX9_holdsBut_47 rfl (lv_at hl 1 rfl) ?_
              refine lv_ishl hx hb dX9_holdsBut_48 ?_
              refine lv_goto (tgt := 53) hx hb dX9_holdsBut_49 (by decide) ?_
              refine lv_ior hx hb dX9_holdsBut_53 ?_
              refine lv_istore_n (lv' := [(2, .int ((holdN (σ 5) u i) ||| ((1 : Int32) <<< ((nI i) &&& 31)))), (4, .int 1), (3, .int (nI i)), (0, .ref (ad 0)), (1, .int u)]) hx hb dX9_holdsBut_54 rfl hl (by decide) rfl (fun ls hl => ?_)
              refine lv_iinc (v := ((nI i) + 1)) (lv' := [(3, .int ((nI i) + 1)), (2, .int ((holdN (σ 5) u i) ||| ((1 : Int32) <<< ((nI i) &&& 31)))), (4, .int 1), (0, .ref (ad 0)), (1, .int u)]) hx hb dX9_holdsBut_55 hl (k := 2) rfl rfl (by decide) rfl (fun ls hl => ?_)
              refine lv_goto (tgt := 4) hx hb dX9_holdsBut_58 (by decide) ?_
              exact ih4 (i + 1) (by omega) (by omega) _ _ _ _ _ _ ((nI_1 i).symm) (by first | exact (holdN_f c17).trans (or_0 _).symm | exact (holdN_g c30).trans (or_0 _).symm | exact holdN_t c17 c30 | exact absurd c43 (by decide)) rfl hP hS (lv_sub hl [0, 1, 3, 4] rfl)
  exact L4 ((n - 0) + 1) 0 (Nat.zero_le _) (Nat.lt_succ_self _) _ _ _ _ _ _ (by first | rfl | simp [*]) (by first | rfl | simp [*]) rfl hP hS (lv_sub hl [0, 1, 2, 3] rfl)

theorem in_X9_holds_X9 : ∀ w ∈ u_ws RX9 TX9 38, w ∈ wsX9_holds := by decide +kernel
set_option maxHeartbeats 1000000 in
set_option maxRecDepth 100000 in
theorem c_X9_holds (l : Launch) (D : va_G) (cy : Nat → ClassId) (ad : Nat → Nat) (σ : Nat → Nat → Int32) (n : Nat) (hn : n ≤ 10) (en : σ 0 5 = nI n) : MI l D (tysW cy) 19 ad (cfM ad cy) yX9_holds wsX9_holds ({ frames := 2, cells := 0, slots := 0, locals := 45 }) σ [.ref (ad 0)] (fun v_ τ_ => (holdN (σ 5) (σ 6 10) n) = v_ ∧ σ = τ_) := by
  refine MI.go (cc := cX9_holds) (maxL := 1) .int (by decide) rfl (Nat.le_of_ble_eq_true rfl) ?_
  intro p_ e_ s_ m_ args_ bl_ mt_ c_ A_ Q_ ls hx hb hml hown hts hK hA hD hP hS hl hret
  have hl : lv_has ls 1 [(0, .ref (ad 0))] := hl
  refine lv_aload_n hx hb dX9_holds_0 rfl (lv_at hl 0 rfl) ?_
  refine lv_aload_n hx hb dX9_holds_1 rfl (lv_at hl 0 rfl) ?_
  refine rp_get (C := RX9) (T := TX9) (N := 38) hx hb hts in_X9_holds_X9 hown hK hP 0 (by decide) (kX9 _) rfl 11 (by decide) (by decide +kernel) rfl dX9_holds_2 ?_
  refine lv_bipush (v := 10) hx hb dX9_holds_5 (by decide) ?_
  refine rp_iald hx hb hK hP 6 (by decide) (kX9_11 _) 0 rfl 10 rfl (by decide) (by decide) dX9_holds_7 ?_
  refine rp_callVI (na := 1) hx hb hml hown hts hK hA hD hP hS hl.1 0 (by decide) (kX9 _) rfl [.int (σ 6 10)] (c_X9_holdsBut l D cy ad σ n (σ 6 10) (by first | assumption | omega) (by first | assumption | rfl)) gX9_holds_X9_holdsBut rfl (by decide +kernel) rfl ⟨Nat.le_of_ble_eq_true rfl, Nat.le_of_ble_eq_true rfl⟩ ⟨rfl, rfl⟩ ⟨Nat.zero_le _, Nat.zero_le _⟩ rfl (Nat.le_of_ble_eq_true rfl) dX9_holds_8 (fun v_ τ_ H locs hq hP hS => ?_)
  obtain ⟨rfl, rfl⟩ := hq
  exact hret hP hS dX9_holds_11 rfl ⟨rfl, rfl⟩

theorem in_X9_worthOf_X9 : ∀ w ∈ u_ws RX9 TX9 38, w ∈ wsX9_worthOf := by decide +kernel
set_option maxHeartbeats 1000000 in
set_option maxRecDepth 100000 in
theorem c_X9_worthOf (l : Launch) (D : va_G) (cy : Nat → ClassId) (ad : Nat → Nat) (σ : Nat → Nat → Int32) (n : Nat) (u : Int32) (hn : n ≤ 10) (en : σ 0 5 = nI n) : MI l D (tysW cy) 19 ad (cfM ad cy) yX9_worthOf wsX9_worthOf ({ frames := 1, cells := 0, slots := 0, locals := 21 }) σ [.ref (ad 0), .int u] (fun v_ τ_ => (sumN (fun j => σ 4 j - 50) u n) = v_ ∧ σ = τ_) := by
  refine MI.go (cc := cX9_worthOf) (maxL := 4) .int (by decide) rfl (Nat.le_of_ble_eq_true rfl) ?_
  intro p_ e_ s_ m_ args_ bl_ mt_ c_ A_ Q_ ls hx hb hml hown hts hK hA hD hP hS hl hret
  have hl : lv_has ls 4 [(0, .ref (ad 0)), (1, .int u)] := hl
  refine lv_iconst (v := 0) hx hb dX9_worthOf_0 (by decide) ?_
  refine lv_istore_n (lv' := [(2, .int 0), (0, .ref (ad 0)), (1, .int u)]) hx hb dX9_worthOf_1 rfl hl (by decide) rfl (fun ls hl => ?_)
  refine lv_iconst (v := 0) hx hb dX9_worthOf_2 (by decide) ?_
  refine lv_istore_n (lv' := [(3, .int 0), (2, .int 0), (0, .ref (ad 0)), (1, .int u)]) hx hb dX9_worthOf_3 rfl hl (by decide) rfl (fun ls hl => ?_)
  have L4 : ∀ (fu4 : Nat) (i : Nat), (i ≤ n) → n - i < fu4 → ∀ (x3 : Int32) (x2 : Int32) (τ : Nat → Nat → Int32) (H : Heap) (locs : List Loc) (ls : Array Slot), (nI i) = x3 → (sumN (fun j => σ 4 j - 50) u i) = x2 → σ = τ → va_P D classes (rw_ 19 ad (cfM ad cy) τ) H → va_S A_ s_.heap H locs → lv_has ls 4 [(3, .int x3), (2, .int x2), (0, .ref (ad 0)), (1, .int u)] → W p_ l e_ ({ frames := 1, cells := 0, slots := 0, locals := 21 }) s_ m_ args_ bl_ mt_ c_ H locs 0 0 Q_ (F0 m_ 4 ls []) := by
    intro fu4
    induction fu4 with
    | zero => intro i hi hf; exact absurd hf (Nat.not_lt_zero _)
    | succ fu4 ih4 =>
      intro i hi hf4 x3 x2 τ H locs ls ex3 ex2 eτ hP hS hl
      subst ex3
      subst ex2
      subst eτ
      refine lv_iload_n hx hb dX9_worthOf_4 rfl (lv_at hl 0 rfl) ?_
      refine lv_aload_n hx hb dX9_worthOf_5 rfl (lv_at hl 2 rfl) ?_
      refine rp_get (C := RX9) (T := TX9) (N := 38) hx hb hts in_X9_worthOf_X9 hown hK hP 0 (by decide) (kX9 _) rfl 5 (by decide) (by decide +kernel) rfl dX9_worthOf_6 ?_
      rw [en]
      refine lv_icmp_ge (tgt := 42) hx hb dX9_worthOf_9 (by decide) (fun c9 => ?_) (fun c9 => ?_)
      · skip
        have ei := cl_ex hi (by omega) c9
        refine lv_iload_n hx hb dX9_worthOf_42 rfl (lv_at hl 1 rfl) ?_
        exact hret hP hS dX9_worthOf_43 rfl ⟨(by rw [ei]), rfl⟩
      · skip
        have hi2 := cl_in (by omega) (by omega) c9
        refine lv_iload_n hx hb dX9_worthOf_12 rfl (lv_at hl 1 rfl) ?_
        refine lv_iload_n hx hb dX9_worthOf_13 rfl (lv_at hl 3 rfl) ?_
        refine lv_iload_n hx hb dX9_worthOf_14 rfl (lv_at hl 0 rfl) ?_
        refine rp_callSI (na := 2) hx hb hml hown hts hK hA hD hP hS hl.1 [.int u, .int (nI i)] (c_X9_has l D cy ad σ u (nI i) ) gX9_worthOf_X9_has rfl (by decide +kernel) rfl ⟨Nat.le_of_ble_eq_true rfl, Nat.le_of_ble_eq_true rfl⟩ ⟨rfl, rfl⟩ ⟨Nat.zero_le _, Nat.zero_le _⟩ rfl (Nat.le_of_ble_eq_true rfl) dX9_worthOf_15 (fun v_ τ_ H locs hq hP hS => ?_)
        obtain ⟨rfl, rfl⟩ := hq
        refine lv_if_eq (tgt := 33) hx hb dX9_worthOf_18 (by decide) (fun c18 => ?_) (fun c18 => ?_)
        · skip
          have c18 := bi_eq0.mp c18
          refine lv_iconst (v := 0) hx hb dX9_worthOf_33 (by decide) ?_
          refine lv_iadd hx hb dX9_worthOf_34 ?_
          refine lv_istore_n (lv' := [(2, .int ((sumN (fun j => σ 4 j - 50) u i) + 0)), (3, .int (nI i)), (0, .ref (ad 0)), (1, .int u)]) hx hb dX9_worthOf_35 rfl hl (by decide) rfl (fun ls hl => ?_)
          refine lv_iinc (v := ((nI i) + 1)) (lv' := [(3, .int ((nI i) + 1)), (2, .int ((sumN (fun j => σ 4 j - 50) u i) + 0)), (0, .ref (ad 0)), (1, .int u)]) hx hb dX9_worthOf_36 hl (k := 1) rfl rfl (by decide) rfl (fun ls hl => ?_)
          refine lv_goto (tgt := 4) hx hb dX9_worthOf_39 (by decide) ?_
          exact ih4 (i + 1) (by omega) (by omega) _ _ _ _ _ _ ((nI_1 i).symm) (by first | exact sumN_t c18 | exact sumN_f c18) rfl hP hS (lv_sub hl [0, 1, 2, 3] rfl)
        · skip
          have c18 := bi_ne0.mp c18
          refine lv_aload_n hx hb dX9_worthOf_21 rfl (lv_at hl 2 rfl) ?_
          refine rp_get (C := RX9) (T := TX9) (N := 38) hx hb hts in_X9_worthOf_X9 hown hK hP 0 (by decide) (kX9 _) rfl 8 (by decide) (by decide +kernel) rfl dX9_worthOf_22 ?_
          refine lv_iload_n hx hb dX9_worthOf_25 rfl (lv_at hl 0 rfl) ?_
          refine rp_iald hx hb hK hP 4 (by decide) (kX9_8 _) 0 rfl i rfl (by omega) (by decide) dX9_worthOf_26 ?_
          refine lv_bipush (v := 50) hx hb dX9_worthOf_27 (by decide) ?_
          refine lv_isub hx hb dX9_worthOf_29 ?_
          refine lv_goto (tgt := 34) hx hb dX9_worthOf_30 (by decide) ?_
          refine lv_iadd hx hb dX9_worthOf_34 ?_
          refine lv_istore_n (lv' := [(2, .int ((sumN (fun j => σ 4 j - 50) u i) + ((σ 4 i) - 50))), (3, .int (nI i)), (0, .ref (ad 0)), (1, .int u)]) hx hb dX9_worthOf_35 rfl hl (by decide) rfl (fun ls hl => ?_)
          refine lv_iinc (v := ((nI i) + 1)) (lv' := [(3, .int ((nI i) + 1)), (2, .int ((sumN (fun j => σ 4 j - 50) u i) + ((σ 4 i) - 50))), (0, .ref (ad 0)), (1, .int u)]) hx hb dX9_worthOf_36 hl (k := 1) rfl rfl (by decide) rfl (fun ls hl => ?_)
          refine lv_goto (tgt := 4) hx hb dX9_worthOf_39 (by decide) ?_
          exact ih4 (i + 1) (by omega) (by omega) _ _ _ _ _ _ ((nI_1 i).symm) (by first | exact sumN_t c18 | exact sumN_f c18) rfl hP hS (lv_sub hl [0, 1, 2, 3] rfl)
  exact L4 ((n - 0) + 1) 0 (Nat.zero_le _) (Nat.lt_succ_self _) _ _ _ _ _ _ (by first | rfl | simp [*]) (by first | rfl | simp [*]) rfl hP hS (lv_sub hl [0, 1, 2, 3] rfl)

theorem in_X9_fallsOf_X9 : ∀ w ∈ u_ws RX9 TX9 38, w ∈ wsX9_fallsOf := by decide +kernel
set_option maxHeartbeats 1000000 in
set_option maxRecDepth 100000 in
theorem c_X9_fallsOf (l : Launch) (D : va_G) (cy : Nat → ClassId) (ad : Nat → Nat) (σ : Nat → Nat → Int32) (n : Nat) (s : Int32) (hn : n ≤ 10) (en : σ 0 5 = nI n) : MI l D (tysW cy) 19 ad (cfM ad cy) yX9_fallsOf wsX9_fallsOf ({ frames := 3, cells := 0, slots := 0, locals := 65 }) σ [.ref (ad 0), .int s] (fun v_ τ_ => (fallN (σ 5) (σ 6 10) s n) = v_ ∧ σ = τ_) := by
  refine MI.go (cc := cX9_fallsOf) (maxL := 2) .int (by decide) rfl (Nat.le_of_ble_eq_true rfl) ?_
  intro p_ e_ s_ m_ args_ bl_ mt_ c_ A_ Q_ ls hx hb hml hown hts hK hA hD hP hS hl hret
  have hl : lv_has ls 2 [(0, .ref (ad 0)), (1, .int s)] := hl
  refine lv_aload_n hx hb dX9_fallsOf_0 rfl (lv_at hl 0 rfl) ?_
  refine rp_callVI (na := 0) hx hb hml hown hts hK hA hD hP hS hl.1 0 (by decide) (kX9 _) rfl [] (c_X9_holds l D cy ad σ n (by first | assumption | omega) (by first | assumption | rfl)) gX9_fallsOf_X9_holds rfl (by decide +kernel) rfl ⟨Nat.le_of_ble_eq_true rfl, Nat.le_of_ble_eq_true rfl⟩ ⟨rfl, rfl⟩ ⟨Nat.zero_le _, Nat.zero_le _⟩ rfl (Nat.le_of_ble_eq_true rfl) dX9_fallsOf_1 (fun v_ τ_ H locs hq hP hS => ?_)
  obtain ⟨rfl, rfl⟩ := hq
  refine lv_aload_n hx hb dX9_fallsOf_4 rfl (lv_at hl 0 rfl) ?_
  refine lv_aload_n hx hb dX9_fallsOf_5 rfl (lv_at hl 0 rfl) ?_
  refine rp_get (C := RX9) (T := TX9) (N := 38) hx hb hts in_X9_fallsOf_X9 hown hK hP 0 (by decide) (kX9 _) rfl 11 (by decide) (by decide +kernel) rfl dX9_fallsOf_6 ?_
  refine lv_bipush (v := 10) hx hb dX9_fallsOf_9 (by decide) ?_
  refine rp_iald hx hb hK hP 6 (by decide) (kX9_11 _) 0 rfl 10 rfl (by decide) (by decide) dX9_fallsOf_11 ?_
  refine lv_iconst (v := 1) hx hb dX9_fallsOf_12 (by decide) ?_
  refine lv_iload_n hx hb dX9_fallsOf_13 rfl (lv_at hl 1 rfl) ?_
  refine lv_ishl hx hb dX9_fallsOf_14 ?_
  refine lv_ior hx hb dX9_fallsOf_15 ?_
  refine rp_callVI (na := 1) hx hb hml hown hts hK hA hD hP hS hl.1 0 (by decide) (kX9 _) rfl [.int ((σ 6 10) ||| ((1 : Int32) <<< (s &&& 31)))] (c_X9_holdsBut l D cy ad σ n ((σ 6 10) ||| ((1 : Int32) <<< (s &&& 31))) (by first | assumption | omega) (by first | assumption | rfl)) gX9_fallsOf_X9_holdsBut rfl (by decide +kernel) rfl ⟨Nat.le_of_ble_eq_true rfl, Nat.le_of_ble_eq_true rfl⟩ ⟨rfl, rfl⟩ ⟨Nat.zero_le _, Nat.zero_le _⟩ rfl (Nat.le_of_ble_eq_true rfl) dX9_fallsOf_16 (fun v_ τ_ H locs hq hP hS => ?_)
  obtain ⟨rfl, rfl⟩ := hq
  refine lv_iconst (v := (-1)) hx hb dX9_fallsOf_19 (by decide) ?_
  refine lv_ixor hx hb dX9_fallsOf_20 ?_
  refine lv_iand hx hb dX9_fallsOf_21 ?_
  exact hret hP hS dX9_fallsOf_22 rfl ⟨rfl, rfl⟩

theorem in_X9_heaviest_X9 : ∀ w ∈ u_ws RX9 TX9 38, w ∈ wsX9_heaviest := by decide +kernel
set_option maxHeartbeats 1000000 in
set_option maxRecDepth 100000 in
theorem c_X9_heaviest (l : Launch) (D : va_G) (cy : Nat → ClassId) (ad : Nat → Nat) (σ : Nat → Nat → Int32) (n : Nat) (hn : n ≤ 10) (en : σ 0 5 = nI n) : MI l D (tysW cy) 19 ad (cfM ad cy) yX9_heaviest wsX9_heaviest ({ frames := 4, cells := 0, slots := 0, locals := 86 }) σ [.ref (ad 0)] (fun v_ τ_ => ((heavN (σ 5) (σ 6 10) n n).1) = v_ ∧ σ = τ_) := by
  refine MI.go (cc := cX9_heaviest) (maxL := 5) .int (by decide) rfl (Nat.le_of_ble_eq_true rfl) ?_
  intro p_ e_ s_ m_ args_ bl_ mt_ c_ A_ Q_ ls hx hb hml hown hts hK hA hD hP hS hl hret
  have hl : lv_has ls 5 [(0, .ref (ad 0))] := hl
  refine lv_iconst (v := (-1)) hx hb dX9_heaviest_0 (by decide) ?_
  refine lv_istore_n (lv' := [(1, .int (-1)), (0, .ref (ad 0))]) hx hb dX9_heaviest_1 rfl hl (by decide) rfl (fun ls hl => ?_)
  refine lv_iconst (v := 0) hx hb dX9_heaviest_2 (by decide) ?_
  refine lv_istore_n (lv' := [(2, .int 0), (1, .int (-1)), (0, .ref (ad 0))]) hx hb dX9_heaviest_3 rfl hl (by decide) rfl (fun ls hl => ?_)
  refine lv_iconst (v := 0) hx hb dX9_heaviest_4 (by decide) ?_
  refine lv_istore_n (lv' := [(3, .int 0), (2, .int 0), (1, .int (-1)), (0, .ref (ad 0))]) hx hb dX9_heaviest_5 rfl hl (by decide) rfl (fun ls hl => ?_)
  have L6 : ∀ (fu6 : Nat) (i : Nat), (i ≤ n) → n - i < fu6 → ∀ (x3 : Int32) (x2 : Int32) (x1 : Int32) (τ : Nat → Nat → Int32) (H : Heap) (locs : List Loc) (ls : Array Slot), (nI i) = x3 → ((heavN (σ 5) (σ 6 10) n i).2) = x2 → ((heavN (σ 5) (σ 6 10) n i).1) = x1 → σ = τ → va_P D classes (rw_ 19 ad (cfM ad cy) τ) H → va_S A_ s_.heap H locs → lv_has ls 5 [(3, .int x3), (2, .int x2), (1, .int x1), (0, .ref (ad 0))] → W p_ l e_ ({ frames := 4, cells := 0, slots := 0, locals := 86 }) s_ m_ args_ bl_ mt_ c_ H locs 0 0 Q_ (F0 m_ 6 ls []) := by
    intro fu6
    induction fu6 with
    | zero => intro i hi hf; exact absurd hf (Nat.not_lt_zero _)
    | succ fu6 ih6 =>
      intro i hi hf6 x3 x2 x1 τ H locs ls ex3 ex2 ex1 eτ hP hS hl
      subst ex3
      subst ex2
      subst ex1
      subst eτ
      refine lv_iload_n hx hb dX9_heaviest_6 rfl (lv_at hl 0 rfl) ?_
      refine lv_aload_n hx hb dX9_heaviest_7 rfl (lv_at hl 3 rfl) ?_
      refine rp_get (C := RX9) (T := TX9) (N := 38) hx hb hts in_X9_heaviest_X9 hown hK hP 0 (by decide) (kX9 _) rfl 5 (by decide) (by decide +kernel) rfl dX9_heaviest_8 ?_
      rw [en]
      refine lv_icmp_ge (tgt := 55) hx hb dX9_heaviest_11 (by decide) (fun c11 => ?_) (fun c11 => ?_)
      · skip
        have ei := cl_ex hi (by omega) c11
        refine lv_iload_n hx hb dX9_heaviest_55 rfl (lv_at hl 2 rfl) ?_
        exact hret hP hS dX9_heaviest_56 rfl ⟨(by rw [ei]), rfl⟩
      · skip
        have hi2 := cl_in (by omega) (by omega) c11
        refine lv_aload_n hx hb dX9_heaviest_14 rfl (lv_at hl 3 rfl) ?_
        refine lv_iload_n hx hb dX9_heaviest_15 rfl (lv_at hl 0 rfl) ?_
        refine rp_callVI (na := 1) hx hb hml hown hts hK hA hD hP hS hl.1 0 (by decide) (kX9 _) rfl [.int (nI i)] (c_X9_fallsOf l D cy ad σ n (nI i) (by first | assumption | omega) (by first | assumption | rfl)) gX9_heaviest_X9_fallsOf rfl (by decide +kernel) rfl ⟨Nat.le_of_ble_eq_true rfl, Nat.le_of_ble_eq_true rfl⟩ ⟨rfl, rfl⟩ ⟨Nat.zero_le _, Nat.zero_le _⟩ rfl (Nat.le_of_ble_eq_true rfl) dX9_heaviest_16 (fun v_ τ_ H locs hq hP hS => ?_)
        obtain ⟨rfl, rfl⟩ := hq
        refine rp_callSI (na := 1) hx hb hml hown hts hK hA hD hP hS hl.1 [.int (fallN (σ 5) (σ 6 10) (nI i) n)] (c_X9_bits l D cy ad σ (fallN (σ 5) (σ 6 10) (nI i) n) ) gX9_heaviest_X9_bits rfl (by decide +kernel) rfl ⟨Nat.le_of_ble_eq_true rfl, Nat.le_of_ble_eq_true rfl⟩ ⟨rfl, rfl⟩ ⟨Nat.zero_le _, Nat.zero_le _⟩ rfl (Nat.le_of_ble_eq_true rfl) dX9_heaviest_19 (fun v_ τ_ H locs hq hP hS => ?_)
        obtain ⟨rfl, rfl⟩ := hq
        refine lv_istore (lv' := [(4, .int (bitsN (fallN (σ 5) (σ 6 10) (nI i) n) 10)), (3, .int (nI i)), (2, .int ((heavN (σ 5) (σ 6 10) n i).2)), (1, .int ((heavN (σ 5) (σ 6 10) n i).1)), (0, .ref (ad 0))]) hx hb dX9_heaviest_22 hl (by decide) rfl (fun ls hl => ?_)
        refine lv_iload hx hb dX9_heaviest_24 (lv_at hl 0 rfl) ?_
        refine lv_iload_n hx hb dX9_heaviest_26 rfl (lv_at hl 2 rfl) ?_
        refine lv_icmp_le (tgt := 34) hx hb dX9_heaviest_27 (by decide) (fun c27 => ?_) (fun c27 => ?_)
        · skip
          refine lv_iload_n hx hb dX9_heaviest_34 rfl (lv_at hl 3 rfl) ?_
          refine lv_istore_n (lv' := [(1, .int ((heavN (σ 5) (σ 6 10) n i).1)), (4, .int (bitsN (fallN (σ 5) (σ 6 10) (nI i) n) 10)), (3, .int (nI i)), (2, .int ((heavN (σ 5) (σ 6 10) n i).2)), (0, .ref (ad 0))]) hx hb dX9_heaviest_35 rfl hl (by decide) rfl (fun ls hl => ?_)
          refine lv_iload hx hb dX9_heaviest_36 (lv_at hl 1 rfl) ?_
          refine lv_iload_n hx hb dX9_heaviest_38 rfl (lv_at hl 3 rfl) ?_
          refine lv_icmp_le (tgt := 47) hx hb dX9_heaviest_39 (by decide) (fun c39 => ?_) (fun c39 => ?_)
          · skip
            refine lv_iload_n hx hb dX9_heaviest_47 rfl (lv_at hl 3 rfl) ?_
            refine lv_istore_n (lv' := [(2, .int ((heavN (σ 5) (σ 6 10) n i).2)), (1, .int ((heavN (σ 5) (σ 6 10) n i).1)), (4, .int (bitsN (fallN (σ 5) (σ 6 10) (nI i) n) 10)), (3, .int (nI i)), (0, .ref (ad 0))]) hx hb dX9_heaviest_48 rfl hl (by decide) rfl (fun ls hl => ?_)
            refine lv_iinc (v := ((nI i) + 1)) (lv' := [(3, .int ((nI i) + 1)), (2, .int ((heavN (σ 5) (σ 6 10) n i).2)), (1, .int ((heavN (σ 5) (σ 6 10) n i).1)), (4, .int (bitsN (fallN (σ 5) (σ 6 10) (nI i) n) 10)), (0, .ref (ad 0))]) hx hb dX9_heaviest_49 hl (k := 3) rfl rfl (by decide) rfl (fun ls hl => ?_)
            refine lv_goto (tgt := 6) hx hb dX9_heaviest_52 (by decide) ?_
            exact ih6 (i + 1) (by omega) (by omega) _ _ _ _ _ _ _ ((nI_1 i).symm) (by first | exact heavN_f2 c27 | exact heavN_t2 c27) (by first | exact heavN_f1 c27 | exact heavN_t1 c27) rfl hP hS (lv_sub hl [0, 1, 2, 4] rfl)
          · skip
            exact absurd c27 c39
        · skip
          refine lv_iload_n hx hb dX9_heaviest_30 rfl (lv_at hl 1 rfl) ?_
          refine lv_goto (tgt := 35) hx hb dX9_heaviest_31 (by decide) ?_
          refine lv_istore_n (lv' := [(1, .int (nI i)), (4, .int (bitsN (fallN (σ 5) (σ 6 10) (nI i) n) 10)), (3, .int (nI i)), (2, .int ((heavN (σ 5) (σ 6 10) n i).2)), (0, .ref (ad 0))]) hx hb dX9_heaviest_35 rfl hl (by decide) rfl (fun ls hl => ?_)
          refine lv_iload hx hb dX9_heaviest_36 (lv_at hl 1 rfl) ?_
          refine lv_iload_n hx hb dX9_heaviest_38 rfl (lv_at hl 3 rfl) ?_
          refine lv_icmp_le (tgt := 47) hx hb dX9_heaviest_39 (by decide) (fun c39 => ?_) (fun c39 => ?_)
          · skip
            exact absurd c39 c27
          · skip
            refine lv_iload hx hb dX9_heaviest_42 (lv_at hl 1 rfl) ?_
            refine lv_goto (tgt := 48) hx hb dX9_heaviest_44 (by decide) ?_
            refine lv_istore_n (lv' := [(2, .int (bitsN (fallN (σ 5) (σ 6 10) (nI i) n) 10)), (1, .int (nI i)), (4, .int (bitsN (fallN (σ 5) (σ 6 10) (nI i) n) 10)), (3, .int (nI i)), (0, .ref (ad 0))]) hx hb dX9_heaviest_48 rfl hl (by decide) rfl (fun ls hl => ?_)
            refine lv_iinc (v := ((nI i) + 1)) (lv' := [(3, .int ((nI i) + 1)), (2, .int (bitsN (fallN (σ 5) (σ 6 10) (nI i) n) 10)), (1, .int (nI i)), (4, .int (bitsN (fallN (σ 5) (σ 6 10) (nI i) n) 10)), (0, .ref (ad 0))]) hx hb dX9_heaviest_49 hl (k := 3) rfl rfl (by decide) rfl (fun ls hl => ?_)
            refine lv_goto (tgt := 6) hx hb dX9_heaviest_52 (by decide) ?_
            exact ih6 (i + 1) (by omega) (by omega) _ _ _ _ _ _ _ ((nI_1 i).symm) (by first | exact heavN_f2 c27 | exact heavN_t2 c27) (by first | exact heavN_f1 c27 | exact heavN_t1 c27) rfl hP hS (lv_sub hl [0, 1, 2, 4] rfl)
  exact L6 ((n - 0) + 1) 0 (Nat.zero_le _) (Nat.lt_succ_self _) _ _ _ _ _ _ _ (by first | rfl | simp [*]) (by first | rfl | simp [*]) (by first | rfl | simp [*]) rfl hP hS (lv_sub hl [0, 1, 2, 3] rfl)

theorem in_X9_saidBy_X9 : ∀ w ∈ u_ws RX9 TX9 38, w ∈ wsX9_saidBy := by decide +kernel
set_option maxHeartbeats 1000000 in
set_option maxRecDepth 100000 in
theorem c_X9_saidBy (l : Launch) (D : va_G) (cy : Nat → ClassId) (ad : Nat → Nat) (σ : Nat → Nat → Int32) (n : Nat) (v : Int32) (hn : n ≤ 10) (en : σ 0 5 = nI n) : MI l D (tysW cy) 19 ad (cfM ad cy) yX9_saidBy wsX9_saidBy ({ frames := 0, cells := 0, slots := 0, locals := 0 }) σ [.ref (ad 0), .int v] (fun v_ τ_ => (saidN (σ 2) v n) = v_ ∧ σ = τ_) := by
  refine MI.go (cc := cX9_saidBy) (maxL := 4) .int (by decide) rfl (Nat.le_of_ble_eq_true rfl) ?_
  intro p_ e_ s_ m_ args_ bl_ mt_ c_ A_ Q_ ls hx hb hml hown hts hK hA hD hP hS hl hret
  have hl : lv_has ls 4 [(0, .ref (ad 0)), (1, .int v)] := hl
  refine lv_iconst (v := 0) hx hb dX9_saidBy_0 (by decide) ?_
  refine lv_istore_n (lv' := [(2, .int 0), (0, .ref (ad 0)), (1, .int v)]) hx hb dX9_saidBy_1 rfl hl (by decide) rfl (fun ls hl => ?_)
  refine lv_iconst (v := 0) hx hb dX9_saidBy_2 (by decide) ?_
  refine lv_istore_n (lv' := [(3, .int 0), (2, .int 0), (0, .ref (ad 0)), (1, .int v)]) hx hb dX9_saidBy_3 rfl hl (by decide) rfl (fun ls hl => ?_)
  have L4 : ∀ (fu4 : Nat) (i : Nat), (i ≤ n) → n - i < fu4 → ∀ (x3 : Int32) (x2 : Int32) (τ : Nat → Nat → Int32) (H : Heap) (locs : List Loc) (ls : Array Slot), (nI i) = x3 → (saidN (σ 2) v i) = x2 → σ = τ → va_P D classes (rw_ 19 ad (cfM ad cy) τ) H → va_S A_ s_.heap H locs → lv_has ls 4 [(3, .int x3), (2, .int x2), (0, .ref (ad 0)), (1, .int v)] → W p_ l e_ ({ frames := 0, cells := 0, slots := 0, locals := 0 }) s_ m_ args_ bl_ mt_ c_ H locs 0 0 Q_ (F0 m_ 4 ls []) := by
    intro fu4
    induction fu4 with
    | zero => intro i hi hf; exact absurd hf (Nat.not_lt_zero _)
    | succ fu4 ih4 =>
      intro i hi hf4 x3 x2 τ H locs ls ex3 ex2 eτ hP hS hl
      subst ex3
      subst ex2
      subst eτ
      refine lv_iload_n hx hb dX9_saidBy_4 rfl (lv_at hl 0 rfl) ?_
      refine lv_aload_n hx hb dX9_saidBy_5 rfl (lv_at hl 2 rfl) ?_
      refine rp_get (C := RX9) (T := TX9) (N := 38) hx hb hts in_X9_saidBy_X9 hown hK hP 0 (by decide) (kX9 _) rfl 5 (by decide) (by decide +kernel) rfl dX9_saidBy_6 ?_
      rw [en]
      refine lv_icmp_ge (tgt := 38) hx hb dX9_saidBy_9 (by decide) (fun c9 => ?_) (fun c9 => ?_)
      · skip
        have ei := cl_ex hi (by omega) c9
        refine lv_iload_n hx hb dX9_saidBy_38 rfl (lv_at hl 1 rfl) ?_
        exact hret hP hS dX9_saidBy_39 rfl ⟨(by rw [ei]), rfl⟩
      · skip
        have hi2 := cl_in (by omega) (by omega) c9
        refine lv_iload_n hx hb dX9_saidBy_12 rfl (lv_at hl 1 rfl) ?_
        refine lv_aload_n hx hb dX9_saidBy_13 rfl (lv_at hl 2 rfl) ?_
        refine rp_get (C := RX9) (T := TX9) (N := 38) hx hb hts in_X9_saidBy_X9 hown hK hP 0 (by decide) (kX9 _) rfl 6 (by decide) (by decide +kernel) rfl dX9_saidBy_14 ?_
        refine lv_iload_n hx hb dX9_saidBy_17 rfl (lv_at hl 0 rfl) ?_
        refine rp_iald hx hb hK hP 2 (by decide) (kX9_6 _) 0 rfl i rfl (by omega) (by decide) dX9_saidBy_18 ?_
        refine lv_iload_n hx hb dX9_saidBy_19 rfl (lv_at hl 3 rfl) ?_
        refine lv_icmp_ne (tgt := 29) hx hb dX9_saidBy_20 (by decide) (fun c20 => ?_) (fun c20 => ?_)
        · skip
          refine lv_iconst (v := 0) hx hb dX9_saidBy_29 (by decide) ?_
          refine lv_ior hx hb dX9_saidBy_30 ?_
          refine lv_istore_n (lv' := [(2, .int ((saidN (σ 2) v i) ||| 0)), (3, .int (nI i)), (0, .ref (ad 0)), (1, .int v)]) hx hb dX9_saidBy_31 rfl hl (by decide) rfl (fun ls hl => ?_)
          refine lv_iinc (v := ((nI i) + 1)) (lv' := [(3, .int ((nI i) + 1)), (2, .int ((saidN (σ 2) v i) ||| 0)), (0, .ref (ad 0)), (1, .int v)]) hx hb dX9_saidBy_32 hl (k := 1) rfl rfl (by decide) rfl (fun ls hl => ?_)
          refine lv_goto (tgt := 4) hx hb dX9_saidBy_35 (by decide) ?_
          exact ih4 (i + 1) (by omega) (by omega) _ _ _ _ _ _ ((nI_1 i).symm) (by first | exact saidN_f c20 | exact saidN_t c20) rfl hP hS (lv_sub hl [0, 1, 2, 3] rfl)
        · skip
          refine lv_iconst (v := 1) hx hb dX9_saidBy_23 (by decide) ?_
          refine lv_iload_n hx hb dX9_saidBy_24 rfl (lv_at hl 0 rfl) ?_
          refine lv_ishl hx hb dX9_saidBy_25 ?_
          refine lv_goto (tgt := 30) hx hb dX9_saidBy_26 (by decide) ?_
          refine lv_ior hx hb dX9_saidBy_30 ?_
          refine lv_istore_n (lv' := [(2, .int ((saidN (σ 2) v i) ||| ((1 : Int32) <<< ((nI i) &&& 31)))), (3, .int (nI i)), (0, .ref (ad 0)), (1, .int v)]) hx hb dX9_saidBy_31 rfl hl (by decide) rfl (fun ls hl => ?_)
          refine lv_iinc (v := ((nI i) + 1)) (lv' := [(3, .int ((nI i) + 1)), (2, .int ((saidN (σ 2) v i) ||| ((1 : Int32) <<< ((nI i) &&& 31)))), (0, .ref (ad 0)), (1, .int v)]) hx hb dX9_saidBy_32 hl (k := 1) rfl rfl (by decide) rfl (fun ls hl => ?_)
          refine lv_goto (tgt := 4) hx hb dX9_saidBy_35 (by decide) ?_
          exact ih4 (i + 1) (by omega) (by omega) _ _ _ _ _ _ ((nI_1 i).symm) (by first | exact saidN_f c20 | exact saidN_t c20) rfl hP hS (lv_sub hl [0, 1, 2, 3] rfl)
  exact L4 ((n - 0) + 1) 0 (Nat.zero_le _) (Nat.lt_succ_self _) _ _ _ _ _ _ (by first | rfl | simp [*]) (by first | rfl | simp [*]) rfl hP hS (lv_sub hl [0, 1, 2, 3] rfl)

theorem in_X9_allArms_X9 : ∀ w ∈ u_ws RX9 TX9 38, w ∈ wsX9_allArms := by decide +kernel
set_option maxHeartbeats 1000000 in
set_option maxRecDepth 100000 in
theorem c_X9_allArms (l : Launch) (D : va_G) (cy : Nat → ClassId) (ad : Nat → Nat) (σ : Nat → Nat → Int32) (k : Nat) (hk : k ≤ 5) (ek : σ 0 3 = nI k) : MI l D (tysW cy) 19 ad (cfM ad cy) yX9_allArms wsX9_allArms ({ frames := 0, cells := 0, slots := 0, locals := 0 }) σ [.ref (ad 0)] (fun v_ τ_ => (allN (σ 1) k) = v_ ∧ σ = τ_) := by
  refine MI.go (cc := cX9_allArms) (maxL := 3) .int (by decide) rfl (Nat.le_of_ble_eq_true rfl) ?_
  intro p_ e_ s_ m_ args_ bl_ mt_ c_ A_ Q_ ls hx hb hml hown hts hK hA hD hP hS hl hret
  have hl : lv_has ls 3 [(0, .ref (ad 0))] := hl
  refine lv_iconst (v := 0) hx hb dX9_allArms_0 (by decide) ?_
  refine lv_istore_n (lv' := [(1, .int 0), (0, .ref (ad 0))]) hx hb dX9_allArms_1 rfl hl (by decide) rfl (fun ls hl => ?_)
  refine lv_iconst (v := 0) hx hb dX9_allArms_2 (by decide) ?_
  refine lv_istore_n (lv' := [(2, .int 0), (1, .int 0), (0, .ref (ad 0))]) hx hb dX9_allArms_3 rfl hl (by decide) rfl (fun ls hl => ?_)
  have L4 : ∀ (fu4 : Nat) (i : Nat), (i ≤ k) → k - i < fu4 → ∀ (x2 : Int32) (x1 : Int32) (τ : Nat → Nat → Int32) (H : Heap) (locs : List Loc) (ls : Array Slot), (nI i) = x2 → (allN (σ 1) i) = x1 → σ = τ → va_P D classes (rw_ 19 ad (cfM ad cy) τ) H → va_S A_ s_.heap H locs → lv_has ls 3 [(2, .int x2), (1, .int x1), (0, .ref (ad 0))] → W p_ l e_ ({ frames := 0, cells := 0, slots := 0, locals := 0 }) s_ m_ args_ bl_ mt_ c_ H locs 0 0 Q_ (F0 m_ 4 ls []) := by
    intro fu4
    induction fu4 with
    | zero => intro i hi hf; exact absurd hf (Nat.not_lt_zero _)
    | succ fu4 ih4 =>
      intro i hi hf4 x2 x1 τ H locs ls ex2 ex1 eτ hP hS hl
      subst ex2
      subst ex1
      subst eτ
      refine lv_iload_n hx hb dX9_allArms_4 rfl (lv_at hl 0 rfl) ?_
      refine lv_aload_n hx hb dX9_allArms_5 rfl (lv_at hl 2 rfl) ?_
      refine rp_get (C := RX9) (T := TX9) (N := 38) hx hb hts in_X9_allArms_X9 hown hK hP 0 (by decide) (kX9 _) rfl 3 (by decide) (by decide +kernel) rfl dX9_allArms_6 ?_
      rw [ek]
      refine lv_icmp_ge (tgt := 27) hx hb dX9_allArms_9 (by decide) (fun c9 => ?_) (fun c9 => ?_)
      · skip
        have ei := cl_ex hi (by omega) c9
        refine lv_iload_n hx hb dX9_allArms_27 rfl (lv_at hl 1 rfl) ?_
        exact hret hP hS dX9_allArms_28 rfl ⟨(by rw [ei]), rfl⟩
      · skip
        have hi2 := cl_in (by omega) (by omega) c9
        refine lv_iload_n hx hb dX9_allArms_12 rfl (lv_at hl 1 rfl) ?_
        refine lv_aload_n hx hb dX9_allArms_13 rfl (lv_at hl 2 rfl) ?_
        refine rp_get (C := RX9) (T := TX9) (N := 38) hx hb hts in_X9_allArms_X9 hown hK hP 0 (by decide) (kX9 _) rfl 4 (by decide) (by decide +kernel) rfl dX9_allArms_14 ?_
        refine lv_iload_n hx hb dX9_allArms_17 rfl (lv_at hl 0 rfl) ?_
        refine rp_iald hx hb hK hP 1 (by decide) (kX9_4 _) 0 rfl i rfl (by omega) (by decide) dX9_allArms_18 ?_
        refine lv_iadd hx hb dX9_allArms_19 ?_
        refine lv_istore_n (lv' := [(1, .int ((allN (σ 1) i) + (σ 1 i))), (2, .int (nI i)), (0, .ref (ad 0))]) hx hb dX9_allArms_20 rfl hl (by decide) rfl (fun ls hl => ?_)
        refine lv_iinc (v := ((nI i) + 1)) (lv' := [(2, .int ((nI i) + 1)), (1, .int ((allN (σ 1) i) + (σ 1 i))), (0, .ref (ad 0))]) hx hb dX9_allArms_21 hl (k := 1) rfl rfl (by decide) rfl (fun ls hl => ?_)
        refine lv_goto (tgt := 4) hx hb dX9_allArms_24 (by decide) ?_
        exact ih4 (i + 1) (by omega) (by omega) _ _ _ _ _ _ ((nI_1 i).symm) rfl rfl hP hS (lv_sub hl [0, 1, 2] rfl)
  exact L4 ((k - 0) + 1) 0 (Nat.zero_le _) (Nat.lt_succ_self _) _ _ _ _ _ _ (by first | rfl | simp [*]) (by first | rfl | simp [*]) rfl hP hS (lv_sub hl [0, 1, 2] rfl)

theorem in_X9_costOf_X9 : ∀ w ∈ u_ws RX9 TX9 38, w ∈ wsX9_costOf := by decide +kernel
set_option maxHeartbeats 1000000 in
set_option maxRecDepth 100000 in
theorem c_X9_costOf (l : Launch) (D : va_G) (cy : Nat → ClassId) (ad : Nat → Nat) (σ : Nat → Nat → Int32) (n : Nat) (u : Int32) (hn : n ≤ 10) (en : σ 0 5 = nI n) : MI l D (tysW cy) 19 ad (cfM ad cy) yX9_costOf wsX9_costOf ({ frames := 1, cells := 0, slots := 0, locals := 21 }) σ [.ref (ad 0), .int u] (fun v_ τ_ => (sumN (fun j => σ 3 j - σ 6 j) u n) = v_ ∧ σ = τ_) := by
  refine MI.go (cc := cX9_costOf) (maxL := 4) .int (by decide) rfl (Nat.le_of_ble_eq_true rfl) ?_
  intro p_ e_ s_ m_ args_ bl_ mt_ c_ A_ Q_ ls hx hb hml hown hts hK hA hD hP hS hl hret
  have hl : lv_has ls 4 [(0, .ref (ad 0)), (1, .int u)] := hl
  refine lv_iconst (v := 0) hx hb dX9_costOf_0 (by decide) ?_
  refine lv_istore_n (lv' := [(2, .int 0), (0, .ref (ad 0)), (1, .int u)]) hx hb dX9_costOf_1 rfl hl (by decide) rfl (fun ls hl => ?_)
  refine lv_iconst (v := 0) hx hb dX9_costOf_2 (by decide) ?_
  refine lv_istore_n (lv' := [(3, .int 0), (2, .int 0), (0, .ref (ad 0)), (1, .int u)]) hx hb dX9_costOf_3 rfl hl (by decide) rfl (fun ls hl => ?_)
  have L4 : ∀ (fu4 : Nat) (i : Nat), (i ≤ n) → n - i < fu4 → ∀ (x3 : Int32) (x2 : Int32) (τ : Nat → Nat → Int32) (H : Heap) (locs : List Loc) (ls : Array Slot), (nI i) = x3 → (sumN (fun j => σ 3 j - σ 6 j) u i) = x2 → σ = τ → va_P D classes (rw_ 19 ad (cfM ad cy) τ) H → va_S A_ s_.heap H locs → lv_has ls 4 [(3, .int x3), (2, .int x2), (0, .ref (ad 0)), (1, .int u)] → W p_ l e_ ({ frames := 1, cells := 0, slots := 0, locals := 21 }) s_ m_ args_ bl_ mt_ c_ H locs 0 0 Q_ (F0 m_ 4 ls []) := by
    intro fu4
    induction fu4 with
    | zero => intro i hi hf; exact absurd hf (Nat.not_lt_zero _)
    | succ fu4 ih4 =>
      intro i hi hf4 x3 x2 τ H locs ls ex3 ex2 eτ hP hS hl
      subst ex3
      subst ex2
      subst eτ
      refine lv_iload_n hx hb dX9_costOf_4 rfl (lv_at hl 0 rfl) ?_
      refine lv_aload_n hx hb dX9_costOf_5 rfl (lv_at hl 2 rfl) ?_
      refine rp_get (C := RX9) (T := TX9) (N := 38) hx hb hts in_X9_costOf_X9 hown hK hP 0 (by decide) (kX9 _) rfl 5 (by decide) (by decide +kernel) rfl dX9_costOf_6 ?_
      rw [en]
      refine lv_icmp_ge (tgt := 46) hx hb dX9_costOf_9 (by decide) (fun c9 => ?_) (fun c9 => ?_)
      · skip
        have ei := cl_ex hi (by omega) c9
        refine lv_iload_n hx hb dX9_costOf_46 rfl (lv_at hl 1 rfl) ?_
        exact hret hP hS dX9_costOf_47 rfl ⟨(by rw [ei]), rfl⟩
      · skip
        have hi2 := cl_in (by omega) (by omega) c9
        refine lv_iload_n hx hb dX9_costOf_12 rfl (lv_at hl 1 rfl) ?_
        refine lv_iload_n hx hb dX9_costOf_13 rfl (lv_at hl 3 rfl) ?_
        refine lv_iload_n hx hb dX9_costOf_14 rfl (lv_at hl 0 rfl) ?_
        refine rp_callSI (na := 2) hx hb hml hown hts hK hA hD hP hS hl.1 [.int u, .int (nI i)] (c_X9_has l D cy ad σ u (nI i) ) gX9_costOf_X9_has rfl (by decide +kernel) rfl ⟨Nat.le_of_ble_eq_true rfl, Nat.le_of_ble_eq_true rfl⟩ ⟨rfl, rfl⟩ ⟨Nat.zero_le _, Nat.zero_le _⟩ rfl (Nat.le_of_ble_eq_true rfl) dX9_costOf_15 (fun v_ τ_ H locs hq hP hS => ?_)
        obtain ⟨rfl, rfl⟩ := hq
        refine lv_if_eq (tgt := 37) hx hb dX9_costOf_18 (by decide) (fun c18 => ?_) (fun c18 => ?_)
        · skip
          have c18 := bi_eq0.mp c18
          refine lv_iconst (v := 0) hx hb dX9_costOf_37 (by decide) ?_
          refine lv_iadd hx hb dX9_costOf_38 ?_
          refine lv_istore_n (lv' := [(2, .int ((sumN (fun j => σ 3 j - σ 6 j) u i) + 0)), (3, .int (nI i)), (0, .ref (ad 0)), (1, .int u)]) hx hb dX9_costOf_39 rfl hl (by decide) rfl (fun ls hl => ?_)
          refine lv_iinc (v := ((nI i) + 1)) (lv' := [(3, .int ((nI i) + 1)), (2, .int ((sumN (fun j => σ 3 j - σ 6 j) u i) + 0)), (0, .ref (ad 0)), (1, .int u)]) hx hb dX9_costOf_40 hl (k := 1) rfl rfl (by decide) rfl (fun ls hl => ?_)
          refine lv_goto (tgt := 4) hx hb dX9_costOf_43 (by decide) ?_
          exact ih4 (i + 1) (by omega) (by omega) _ _ _ _ _ _ ((nI_1 i).symm) (by first | exact sumN_t c18 | exact sumN_f c18) rfl hP hS (lv_sub hl [0, 1, 2, 3] rfl)
        · skip
          have c18 := bi_ne0.mp c18
          refine lv_aload_n hx hb dX9_costOf_21 rfl (lv_at hl 2 rfl) ?_
          refine rp_get (C := RX9) (T := TX9) (N := 38) hx hb hts in_X9_costOf_X9 hown hK hP 0 (by decide) (kX9 _) rfl 7 (by decide) (by decide +kernel) rfl dX9_costOf_22 ?_
          refine lv_iload_n hx hb dX9_costOf_25 rfl (lv_at hl 0 rfl) ?_
          refine rp_iald hx hb hK hP 3 (by decide) (kX9_7 _) 0 rfl i rfl (by omega) (by decide) dX9_costOf_26 ?_
          refine lv_aload_n hx hb dX9_costOf_27 rfl (lv_at hl 2 rfl) ?_
          refine rp_get (C := RX9) (T := TX9) (N := 38) hx hb hts in_X9_costOf_X9 hown hK hP 0 (by decide) (kX9 _) rfl 11 (by decide) (by decide +kernel) rfl dX9_costOf_28 ?_
          refine lv_iload_n hx hb dX9_costOf_31 rfl (lv_at hl 0 rfl) ?_
          refine rp_iald hx hb hK hP 6 (by decide) (kX9_11 _) 0 rfl i rfl (by omega) (by decide) dX9_costOf_32 ?_
          refine lv_isub hx hb dX9_costOf_33 ?_
          refine lv_goto (tgt := 38) hx hb dX9_costOf_34 (by decide) ?_
          refine lv_iadd hx hb dX9_costOf_38 ?_
          refine lv_istore_n (lv' := [(2, .int ((sumN (fun j => σ 3 j - σ 6 j) u i) + ((σ 3 i) - (σ 6 i)))), (3, .int (nI i)), (0, .ref (ad 0)), (1, .int u)]) hx hb dX9_costOf_39 rfl hl (by decide) rfl (fun ls hl => ?_)
          refine lv_iinc (v := ((nI i) + 1)) (lv' := [(3, .int ((nI i) + 1)), (2, .int ((sumN (fun j => σ 3 j - σ 6 j) u i) + ((σ 3 i) - (σ 6 i)))), (0, .ref (ad 0)), (1, .int u)]) hx hb dX9_costOf_40 hl (k := 1) rfl rfl (by decide) rfl (fun ls hl => ?_)
          refine lv_goto (tgt := 4) hx hb dX9_costOf_43 (by decide) ?_
          exact ih4 (i + 1) (by omega) (by omega) _ _ _ _ _ _ ((nI_1 i).symm) (by first | exact sumN_t c18 | exact sumN_f c18) rfl hP hS (lv_sub hl [0, 1, 2, 3] rfl)
  exact L4 ((n - 0) + 1) 0 (Nat.zero_le _) (Nat.lt_succ_self _) _ _ _ _ _ _ (by first | rfl | simp [*]) (by first | rfl | simp [*]) rfl hP hS (lv_sub hl [0, 1, 2, 3] rfl)

def R_X9_free (σ : Nat → Nat → Int32)  : Int32 := ((((1 : Int32) <<< ((σ 0 5) &&& 31)) - 1) &&& (((σ 6 10) ||| (σ 6 11)) ^^^ (-1)))
theorem in_X9_free_X9 : ∀ w ∈ u_ws RX9 TX9 38, w ∈ wsX9_free := by decide +kernel
set_option maxHeartbeats 1000000 in
set_option maxRecDepth 100000 in
theorem c_X9_free (l : Launch) (D : va_G) (cy : Nat → ClassId) (ad : Nat → Nat) (σ : Nat → Nat → Int32)   : MI l D (tysW cy) 19 ad (cfM ad cy) yX9_free wsX9_free ({ frames := 0, cells := 0, slots := 0, locals := 0 }) σ [.ref (ad 0)] (fun v_ τ_ => (R_X9_free σ) = v_ ∧ σ = τ_) := by
  refine MI.go (cc := cX9_free) (maxL := 1) .int (by decide) rfl (Nat.le_of_ble_eq_true rfl) ?_
  intro p_ e_ s_ m_ args_ bl_ mt_ c_ A_ Q_ ls hx hb hml hown hts hK hA hD hP hS hl hret
  have hl : lv_has ls 1 [(0, .ref (ad 0))] := hl
  refine lv_iconst (v := 1) hx hb dX9_free_0 (by decide) ?_
  refine lv_aload_n hx hb dX9_free_1 rfl (lv_at hl 0 rfl) ?_
  refine rp_get (C := RX9) (T := TX9) (N := 38) hx hb hts in_X9_free_X9 hown hK hP 0 (by decide) (kX9 _) rfl 5 (by decide) (by decide +kernel) rfl dX9_free_2 ?_
  refine lv_ishl hx hb dX9_free_5 ?_
  refine lv_iconst (v := 1) hx hb dX9_free_6 (by decide) ?_
  refine lv_isub hx hb dX9_free_7 ?_
  refine lv_aload_n hx hb dX9_free_8 rfl (lv_at hl 0 rfl) ?_
  refine rp_get (C := RX9) (T := TX9) (N := 38) hx hb hts in_X9_free_X9 hown hK hP 0 (by decide) (kX9 _) rfl 11 (by decide) (by decide +kernel) rfl dX9_free_9 ?_
  refine lv_bipush (v := 10) hx hb dX9_free_12 (by decide) ?_
  refine rp_iald hx hb hK hP 6 (by decide) (kX9_11 _) 0 rfl 10 rfl (by decide) (by decide) dX9_free_14 ?_
  refine lv_aload_n hx hb dX9_free_15 rfl (lv_at hl 0 rfl) ?_
  refine rp_get (C := RX9) (T := TX9) (N := 38) hx hb hts in_X9_free_X9 hown hK hP 0 (by decide) (kX9 _) rfl 11 (by decide) (by decide +kernel) rfl dX9_free_16 ?_
  refine lv_bipush (v := 11) hx hb dX9_free_19 (by decide) ?_
  refine rp_iald hx hb hK hP 6 (by decide) (kX9_11 _) 0 rfl 11 rfl (by decide) (by decide) dX9_free_21 ?_
  refine lv_ior hx hb dX9_free_22 ?_
  refine lv_iconst (v := (-1)) hx hb dX9_free_23 (by decide) ?_
  refine lv_ixor hx hb dX9_free_24 ?_
  refine lv_iand hx hb dX9_free_25 ?_
  exact hret hP hS dX9_free_26 rfl ⟨(by unfold R_X9_free <;> first | with_reducible rfl), rfl⟩

def R_X9_filled (a : Int32) (b : Int32) : Int32 := (if 99 ≤ (a + b) then 99 else (a + b))
set_option maxHeartbeats 1000000 in
set_option maxRecDepth 100000 in
theorem c_X9_filled (l : Launch) (D : va_G) (cy : Nat → ClassId) (ad : Nat → Nat) (σ : Nat → Nat → Int32) (a : Int32) (b : Int32)  : MI l D (tysW cy) 19 ad (cfM ad cy) yX9_filled wsX9_filled ({ frames := 0, cells := 0, slots := 0, locals := 0 }) σ [.int a, .int b] (fun v_ τ_ => (R_X9_filled a b) = v_ ∧ σ = τ_) := by
  refine MI.go (cc := cX9_filled) (maxL := 2) .int (by decide) rfl (Nat.le_of_ble_eq_true rfl) ?_
  intro p_ e_ s_ m_ args_ bl_ mt_ c_ A_ Q_ ls hx hb hml hown hts hK hA hD hP hS hl hret
  have hl : lv_has ls 2 [(0, .int a), (1, .int b)] := hl
  refine lv_iload_n hx hb dX9_filled_0 rfl (lv_at hl 0 rfl) ?_
  refine lv_iload_n hx hb dX9_filled_1 rfl (lv_at hl 1 rfl) ?_
  refine lv_iadd hx hb dX9_filled_2 ?_
  refine lv_bipush (v := 99) hx hb dX9_filled_3 (by decide) ?_
  refine lv_icmp_ge (tgt := 14) hx hb dX9_filled_5 (by decide) (fun c5 => ?_) (fun c5 => ?_)
  · skip
    refine lv_bipush (v := 99) hx hb dX9_filled_14 (by decide) ?_
    exact hret hP hS dX9_filled_16 rfl ⟨(by unfold R_X9_filled <;> rw [if_pos c5] <;> first | with_reducible rfl), rfl⟩
  · skip
    refine lv_iload_n hx hb dX9_filled_8 rfl (lv_at hl 0 rfl) ?_
    refine lv_iload_n hx hb dX9_filled_9 rfl (lv_at hl 1 rfl) ?_
    refine lv_iadd hx hb dX9_filled_10 ?_
    refine lv_goto (tgt := 16) hx hb dX9_filled_11 (by decide) ?_
    exact hret hP hS dX9_filled_16 rfl ⟨(by unfold R_X9_filled <;> rw [if_neg c5] <;> first | with_reducible rfl), rfl⟩

def R_X9_drawsOf (ar : Nat → Int32) (ow : Nat → Int32) (wt : Nat → Int32) (p : Nat) (s : Nat) (wet : Int32) (lev : Int32) : Int32 := (if (ow s) = (nI p) then (if (ar p) ≤ (1 * ((wt s) - wet)) then (if lev ≤ (ar p) then (lev - (lev - lev / 1 * 1)) else ((ar p) - ((ar p) - (ar p) / 1 * 1))) else (if lev ≤ (1 * ((wt s) - wet)) then (lev - (lev - lev / 1 * 1)) else ((1 * ((wt s) - wet)) - ((1 * ((wt s) - wet)) - (1 * ((wt s) - wet)) / 1 * 1)))) else (if (ar p) ≤ (2 * ((wt s) - wet)) then (if lev ≤ (ar p) then (lev - (lev - lev / 2 * 2)) else ((ar p) - ((ar p) - (ar p) / 2 * 2))) else (if lev ≤ (2 * ((wt s) - wet)) then (lev - (lev - lev / 2 * 2)) else ((2 * ((wt s) - wet)) - ((2 * ((wt s) - wet)) - (2 * ((wt s) - wet)) / 2 * 2)))))
theorem in_X9_drawsOf_X9 : ∀ w ∈ u_ws RX9 TX9 38, w ∈ wsX9_drawsOf := by decide +kernel
set_option maxHeartbeats 1000000 in
set_option maxRecDepth 100000 in
theorem c_X9_drawsOf (l : Launch) (D : va_G) (cy : Nat → ClassId) (ad : Nat → Nat) (σ : Nat → Nat → Int32) (ar : Nat → Int32) (ow : Nat → Int32) (wt : Nat → Int32) (p : Nat) (s : Nat) (wet : Int32) (lev : Int32) (r_ar : σ 1 = ar) (r_ow : σ 2 = ow) (r_wt : σ 3 = wt) (hp : p < 5) (hs : s < 10) : MI l D (tysW cy) 19 ad (cfM ad cy) yX9_drawsOf wsX9_drawsOf ({ frames := 0, cells := 0, slots := 0, locals := 0 }) σ [.ref (ad 0), .int (nI p), .int (nI s), .int wet, .int lev] (fun v_ τ_ => (R_X9_drawsOf ar ow wt p s wet lev) = v_ ∧ σ = τ_) := by
  refine MI.go (cc := cX9_drawsOf) (maxL := 8) .int (by decide) rfl (Nat.le_of_ble_eq_true rfl) ?_
  intro p_ e_ s_ m_ args_ bl_ mt_ c_ A_ Q_ ls hx hb hml hown hts hK hA hD hP hS hl hret
  have hl : lv_has ls 8 [(0, .ref (ad 0)), (1, .int (nI p)), (2, .int (nI s)), (3, .int wet), (4, .int lev)] := hl
  subst r_ar r_ow r_wt
  refine lv_aload_n hx hb dX9_drawsOf_0 rfl (lv_at hl 0 rfl) ?_
  refine rp_get (C := RX9) (T := TX9) (N := 38) hx hb hts in_X9_drawsOf_X9 hown hK hP 0 (by decide) (kX9 _) rfl 6 (by decide) (by decide +kernel) rfl dX9_drawsOf_1 ?_
  refine lv_iload_n hx hb dX9_drawsOf_4 rfl (lv_at hl 2 rfl) ?_
  refine rp_iald hx hb hK hP 2 (by decide) (kX9_6 _) 0 rfl s rfl (by omega) (by decide) dX9_drawsOf_5 ?_
  refine lv_iload_n hx hb dX9_drawsOf_6 rfl (lv_at hl 1 rfl) ?_
  refine lv_icmp_ne (tgt := 14) hx hb dX9_drawsOf_7 (by decide) (fun c7 => ?_) (fun c7 => ?_)
  · skip
    refine lv_iconst (v := 2) hx hb dX9_drawsOf_14 (by decide) ?_
    refine lv_istore (lv' := [(5, .int 2), (0, .ref (ad 0)), (1, .int (nI p)), (2, .int (nI s)), (3, .int wet), (4, .int lev)]) hx hb dX9_drawsOf_15 hl (by decide) rfl (fun ls hl => ?_)
    refine lv_iload hx hb dX9_drawsOf_17 (lv_at hl 0 rfl) ?_
    refine lv_aload_n hx hb dX9_drawsOf_19 rfl (lv_at hl 1 rfl) ?_
    refine rp_get (C := RX9) (T := TX9) (N := 38) hx hb hts in_X9_drawsOf_X9 hown hK hP 0 (by decide) (kX9 _) rfl 7 (by decide) (by decide +kernel) rfl dX9_drawsOf_20 ?_
    refine lv_iload_n hx hb dX9_drawsOf_23 rfl (lv_at hl 3 rfl) ?_
    refine rp_iald hx hb hK hP 3 (by decide) (kX9_7 _) 0 rfl s rfl (by omega) (by decide) dX9_drawsOf_24 ?_
    refine lv_iload_n hx hb dX9_drawsOf_25 rfl (lv_at hl 4 rfl) ?_
    refine lv_isub hx hb dX9_drawsOf_26 ?_
    refine lv_imul hx hb dX9_drawsOf_27 ?_
    refine lv_istore (lv' := [(6, .int (2 * ((σ 3 s) - wet))), (5, .int 2), (0, .ref (ad 0)), (1, .int (nI p)), (2, .int (nI s)), (3, .int wet), (4, .int lev)]) hx hb dX9_drawsOf_28 hl (by decide) rfl (fun ls hl => ?_)
    refine lv_iload hx hb dX9_drawsOf_30 (lv_at hl 0 rfl) ?_
    refine lv_aload_n hx hb dX9_drawsOf_32 rfl (lv_at hl 2 rfl) ?_
    refine rp_get (C := RX9) (T := TX9) (N := 38) hx hb hts in_X9_drawsOf_X9 hown hK hP 0 (by decide) (kX9 _) rfl 4 (by decide) (by decide +kernel) rfl dX9_drawsOf_33 ?_
    refine lv_iload_n hx hb dX9_drawsOf_36 rfl (lv_at hl 3 rfl) ?_
    refine rp_iald hx hb hK hP 1 (by decide) (kX9_4 _) 0 rfl p rfl (by omega) (by decide) dX9_drawsOf_37 ?_
    refine lv_icmp_ge (tgt := 46) hx hb dX9_drawsOf_38 (by decide) (fun c38 => ?_) (fun c38 => ?_)
    · skip
      refine lv_aload_n hx hb dX9_drawsOf_46 rfl (lv_at hl 2 rfl) ?_
      refine rp_get (C := RX9) (T := TX9) (N := 38) hx hb hts in_X9_drawsOf_X9 hown hK hP 0 (by decide) (kX9 _) rfl 4 (by decide) (by decide +kernel) rfl dX9_drawsOf_47 ?_
      refine lv_iload_n hx hb dX9_drawsOf_50 rfl (lv_at hl 3 rfl) ?_
      refine rp_iald hx hb hK hP 1 (by decide) (kX9_4 _) 0 rfl p rfl (by omega) (by decide) dX9_drawsOf_51 ?_
      refine lv_istore (lv' := [(7, .int (σ 1 p)), (6, .int (2 * ((σ 3 s) - wet))), (5, .int 2), (0, .ref (ad 0)), (1, .int (nI p)), (2, .int (nI s)), (3, .int wet), (4, .int lev)]) hx hb dX9_drawsOf_52 hl (by decide) rfl (fun ls hl => ?_)
      refine lv_iload hx hb dX9_drawsOf_54 (lv_at hl 0 rfl) ?_
      refine lv_iload hx hb dX9_drawsOf_56 (lv_at hl 7 rfl) ?_
      refine lv_icmp_ge (tgt := 66) hx hb dX9_drawsOf_58 (by decide) (fun c58 => ?_) (fun c58 => ?_)
      · skip
        refine lv_iload hx hb dX9_drawsOf_66 (lv_at hl 7 rfl) ?_
        refine lv_istore (lv' := [(7, .int lev), (6, .int (2 * ((σ 3 s) - wet))), (5, .int 2), (0, .ref (ad 0)), (1, .int (nI p)), (2, .int (nI s)), (3, .int wet), (4, .int lev)]) hx hb dX9_drawsOf_68 hl (by decide) rfl (fun ls hl => ?_)
        refine lv_iload hx hb dX9_drawsOf_70 (lv_at hl 0 rfl) ?_
        refine lv_iload hx hb dX9_drawsOf_72 (lv_at hl 0 rfl) ?_
        refine lv_iload hx hb dX9_drawsOf_74 (lv_at hl 2 rfl) ?_
        refine lv_irem hx hb dX9_drawsOf_76 (by first | decide | assumption) ?_
        refine lv_isub hx hb dX9_drawsOf_77 ?_
        exact hret hP hS dX9_drawsOf_78 rfl ⟨(by unfold R_X9_drawsOf <;> rw [if_neg c7, if_pos c38, if_pos c58] <;> first | with_reducible rfl), rfl⟩
      · skip
        refine lv_iload hx hb dX9_drawsOf_61 (lv_at hl 0 rfl) ?_
        refine lv_goto (tgt := 68) hx hb dX9_drawsOf_63 (by decide) ?_
        refine lv_istore (lv' := [(7, .int (σ 1 p)), (6, .int (2 * ((σ 3 s) - wet))), (5, .int 2), (0, .ref (ad 0)), (1, .int (nI p)), (2, .int (nI s)), (3, .int wet), (4, .int lev)]) hx hb dX9_drawsOf_68 hl (by decide) rfl (fun ls hl => ?_)
        refine lv_iload hx hb dX9_drawsOf_70 (lv_at hl 0 rfl) ?_
        refine lv_iload hx hb dX9_drawsOf_72 (lv_at hl 0 rfl) ?_
        refine lv_iload hx hb dX9_drawsOf_74 (lv_at hl 2 rfl) ?_
        refine lv_irem hx hb dX9_drawsOf_76 (by first | decide | assumption) ?_
        refine lv_isub hx hb dX9_drawsOf_77 ?_
        exact hret hP hS dX9_drawsOf_78 rfl ⟨(by unfold R_X9_drawsOf <;> rw [if_neg c7, if_pos c38, if_neg c58] <;> first | with_reducible rfl), rfl⟩
    · skip
      refine lv_iload hx hb dX9_drawsOf_41 (lv_at hl 0 rfl) ?_
      refine lv_goto (tgt := 52) hx hb dX9_drawsOf_43 (by decide) ?_
      refine lv_istore (lv' := [(7, .int (2 * ((σ 3 s) - wet))), (6, .int (2 * ((σ 3 s) - wet))), (5, .int 2), (0, .ref (ad 0)), (1, .int (nI p)), (2, .int (nI s)), (3, .int wet), (4, .int lev)]) hx hb dX9_drawsOf_52 hl (by decide) rfl (fun ls hl => ?_)
      refine lv_iload hx hb dX9_drawsOf_54 (lv_at hl 0 rfl) ?_
      refine lv_iload hx hb dX9_drawsOf_56 (lv_at hl 7 rfl) ?_
      refine lv_icmp_ge (tgt := 66) hx hb dX9_drawsOf_58 (by decide) (fun c58 => ?_) (fun c58 => ?_)
      · skip
        refine lv_iload hx hb dX9_drawsOf_66 (lv_at hl 7 rfl) ?_
        refine lv_istore (lv' := [(7, .int lev), (6, .int (2 * ((σ 3 s) - wet))), (5, .int 2), (0, .ref (ad 0)), (1, .int (nI p)), (2, .int (nI s)), (3, .int wet), (4, .int lev)]) hx hb dX9_drawsOf_68 hl (by decide) rfl (fun ls hl => ?_)
        refine lv_iload hx hb dX9_drawsOf_70 (lv_at hl 0 rfl) ?_
        refine lv_iload hx hb dX9_drawsOf_72 (lv_at hl 0 rfl) ?_
        refine lv_iload hx hb dX9_drawsOf_74 (lv_at hl 2 rfl) ?_
        refine lv_irem hx hb dX9_drawsOf_76 (by first | decide | assumption) ?_
        refine lv_isub hx hb dX9_drawsOf_77 ?_
        exact hret hP hS dX9_drawsOf_78 rfl ⟨(by unfold R_X9_drawsOf <;> rw [if_neg c7, if_neg c38, if_pos c58] <;> first | with_reducible rfl), rfl⟩
      · skip
        refine lv_iload hx hb dX9_drawsOf_61 (lv_at hl 0 rfl) ?_
        refine lv_goto (tgt := 68) hx hb dX9_drawsOf_63 (by decide) ?_
        refine lv_istore (lv' := [(7, .int (2 * ((σ 3 s) - wet))), (6, .int (2 * ((σ 3 s) - wet))), (5, .int 2), (0, .ref (ad 0)), (1, .int (nI p)), (2, .int (nI s)), (3, .int wet), (4, .int lev)]) hx hb dX9_drawsOf_68 hl (by decide) rfl (fun ls hl => ?_)
        refine lv_iload hx hb dX9_drawsOf_70 (lv_at hl 0 rfl) ?_
        refine lv_iload hx hb dX9_drawsOf_72 (lv_at hl 0 rfl) ?_
        refine lv_iload hx hb dX9_drawsOf_74 (lv_at hl 2 rfl) ?_
        refine lv_irem hx hb dX9_drawsOf_76 (by first | decide | assumption) ?_
        refine lv_isub hx hb dX9_drawsOf_77 ?_
        exact hret hP hS dX9_drawsOf_78 rfl ⟨(by unfold R_X9_drawsOf <;> rw [if_neg c7, if_neg c38, if_neg c58] <;> first | with_reducible rfl), rfl⟩
  · skip
    refine lv_iconst (v := 1) hx hb dX9_drawsOf_10 (by decide) ?_
    refine lv_goto (tgt := 15) hx hb dX9_drawsOf_11 (by decide) ?_
    refine lv_istore (lv' := [(5, .int 1), (0, .ref (ad 0)), (1, .int (nI p)), (2, .int (nI s)), (3, .int wet), (4, .int lev)]) hx hb dX9_drawsOf_15 hl (by decide) rfl (fun ls hl => ?_)
    refine lv_iload hx hb dX9_drawsOf_17 (lv_at hl 0 rfl) ?_
    refine lv_aload_n hx hb dX9_drawsOf_19 rfl (lv_at hl 1 rfl) ?_
    refine rp_get (C := RX9) (T := TX9) (N := 38) hx hb hts in_X9_drawsOf_X9 hown hK hP 0 (by decide) (kX9 _) rfl 7 (by decide) (by decide +kernel) rfl dX9_drawsOf_20 ?_
    refine lv_iload_n hx hb dX9_drawsOf_23 rfl (lv_at hl 3 rfl) ?_
    refine rp_iald hx hb hK hP 3 (by decide) (kX9_7 _) 0 rfl s rfl (by omega) (by decide) dX9_drawsOf_24 ?_
    refine lv_iload_n hx hb dX9_drawsOf_25 rfl (lv_at hl 4 rfl) ?_
    refine lv_isub hx hb dX9_drawsOf_26 ?_
    refine lv_imul hx hb dX9_drawsOf_27 ?_
    refine lv_istore (lv' := [(6, .int (1 * ((σ 3 s) - wet))), (5, .int 1), (0, .ref (ad 0)), (1, .int (nI p)), (2, .int (nI s)), (3, .int wet), (4, .int lev)]) hx hb dX9_drawsOf_28 hl (by decide) rfl (fun ls hl => ?_)
    refine lv_iload hx hb dX9_drawsOf_30 (lv_at hl 0 rfl) ?_
    refine lv_aload_n hx hb dX9_drawsOf_32 rfl (lv_at hl 2 rfl) ?_
    refine rp_get (C := RX9) (T := TX9) (N := 38) hx hb hts in_X9_drawsOf_X9 hown hK hP 0 (by decide) (kX9 _) rfl 4 (by decide) (by decide +kernel) rfl dX9_drawsOf_33 ?_
    refine lv_iload_n hx hb dX9_drawsOf_36 rfl (lv_at hl 3 rfl) ?_
    refine rp_iald hx hb hK hP 1 (by decide) (kX9_4 _) 0 rfl p rfl (by omega) (by decide) dX9_drawsOf_37 ?_
    refine lv_icmp_ge (tgt := 46) hx hb dX9_drawsOf_38 (by decide) (fun c38 => ?_) (fun c38 => ?_)
    · skip
      refine lv_aload_n hx hb dX9_drawsOf_46 rfl (lv_at hl 2 rfl) ?_
      refine rp_get (C := RX9) (T := TX9) (N := 38) hx hb hts in_X9_drawsOf_X9 hown hK hP 0 (by decide) (kX9 _) rfl 4 (by decide) (by decide +kernel) rfl dX9_drawsOf_47 ?_
      refine lv_iload_n hx hb dX9_drawsOf_50 rfl (lv_at hl 3 rfl) ?_
      refine rp_iald hx hb hK hP 1 (by decide) (kX9_4 _) 0 rfl p rfl (by omega) (by decide) dX9_drawsOf_51 ?_
      refine lv_istore (lv' := [(7, .int (σ 1 p)), (6, .int (1 * ((σ 3 s) - wet))), (5, .int 1), (0, .ref (ad 0)), (1, .int (nI p)), (2, .int (nI s)), (3, .int wet), (4, .int lev)]) hx hb dX9_drawsOf_52 hl (by decide) rfl (fun ls hl => ?_)
      refine lv_iload hx hb dX9_drawsOf_54 (lv_at hl 0 rfl) ?_
      refine lv_iload hx hb dX9_drawsOf_56 (lv_at hl 7 rfl) ?_
      refine lv_icmp_ge (tgt := 66) hx hb dX9_drawsOf_58 (by decide) (fun c58 => ?_) (fun c58 => ?_)
      · skip
        refine lv_iload hx hb dX9_drawsOf_66 (lv_at hl 7 rfl) ?_
        refine lv_istore (lv' := [(7, .int lev), (6, .int (1 * ((σ 3 s) - wet))), (5, .int 1), (0, .ref (ad 0)), (1, .int (nI p)), (2, .int (nI s)), (3, .int wet), (4, .int lev)]) hx hb dX9_drawsOf_68 hl (by decide) rfl (fun ls hl => ?_)
        refine lv_iload hx hb dX9_drawsOf_70 (lv_at hl 0 rfl) ?_
        refine lv_iload hx hb dX9_drawsOf_72 (lv_at hl 0 rfl) ?_
        refine lv_iload hx hb dX9_drawsOf_74 (lv_at hl 2 rfl) ?_
        refine lv_irem hx hb dX9_drawsOf_76 (by first | decide | assumption) ?_
        refine lv_isub hx hb dX9_drawsOf_77 ?_
        exact hret hP hS dX9_drawsOf_78 rfl ⟨(by unfold R_X9_drawsOf <;> rw [if_pos c7, if_pos c38, if_pos c58] <;> first | with_reducible rfl), rfl⟩
      · skip
        refine lv_iload hx hb dX9_drawsOf_61 (lv_at hl 0 rfl) ?_
        refine lv_goto (tgt := 68) hx hb dX9_drawsOf_63 (by decide) ?_
        refine lv_istore (lv' := [(7, .int (σ 1 p)), (6, .int (1 * ((σ 3 s) - wet))), (5, .int 1), (0, .ref (ad 0)), (1, .int (nI p)), (2, .int (nI s)), (3, .int wet), (4, .int lev)]) hx hb dX9_drawsOf_68 hl (by decide) rfl (fun ls hl => ?_)
        refine lv_iload hx hb dX9_drawsOf_70 (lv_at hl 0 rfl) ?_
        refine lv_iload hx hb dX9_drawsOf_72 (lv_at hl 0 rfl) ?_
        refine lv_iload hx hb dX9_drawsOf_74 (lv_at hl 2 rfl) ?_
        refine lv_irem hx hb dX9_drawsOf_76 (by first | decide | assumption) ?_
        refine lv_isub hx hb dX9_drawsOf_77 ?_
        exact hret hP hS dX9_drawsOf_78 rfl ⟨(by unfold R_X9_drawsOf <;> rw [if_pos c7, if_pos c38, if_neg c58] <;> first | with_reducible rfl), rfl⟩
    · skip
      refine lv_iload hx hb dX9_drawsOf_41 (lv_at hl 0 rfl) ?_
      refine lv_goto (tgt := 52) hx hb dX9_drawsOf_43 (by decide) ?_
      refine lv_istore (lv' := [(7, .int (1 * ((σ 3 s) - wet))), (6, .int (1 * ((σ 3 s) - wet))), (5, .int 1), (0, .ref (ad 0)), (1, .int (nI p)), (2, .int (nI s)), (3, .int wet), (4, .int lev)]) hx hb dX9_drawsOf_52 hl (by decide) rfl (fun ls hl => ?_)
      refine lv_iload hx hb dX9_drawsOf_54 (lv_at hl 0 rfl) ?_
      refine lv_iload hx hb dX9_drawsOf_56 (lv_at hl 7 rfl) ?_
      refine lv_icmp_ge (tgt := 66) hx hb dX9_drawsOf_58 (by decide) (fun c58 => ?_) (fun c58 => ?_)
      · skip
        refine lv_iload hx hb dX9_drawsOf_66 (lv_at hl 7 rfl) ?_
        refine lv_istore (lv' := [(7, .int lev), (6, .int (1 * ((σ 3 s) - wet))), (5, .int 1), (0, .ref (ad 0)), (1, .int (nI p)), (2, .int (nI s)), (3, .int wet), (4, .int lev)]) hx hb dX9_drawsOf_68 hl (by decide) rfl (fun ls hl => ?_)
        refine lv_iload hx hb dX9_drawsOf_70 (lv_at hl 0 rfl) ?_
        refine lv_iload hx hb dX9_drawsOf_72 (lv_at hl 0 rfl) ?_
        refine lv_iload hx hb dX9_drawsOf_74 (lv_at hl 2 rfl) ?_
        refine lv_irem hx hb dX9_drawsOf_76 (by first | decide | assumption) ?_
        refine lv_isub hx hb dX9_drawsOf_77 ?_
        exact hret hP hS dX9_drawsOf_78 rfl ⟨(by unfold R_X9_drawsOf <;> rw [if_pos c7, if_neg c38, if_pos c58] <;> first | with_reducible rfl), rfl⟩
      · skip
        refine lv_iload hx hb dX9_drawsOf_61 (lv_at hl 0 rfl) ?_
        refine lv_goto (tgt := 68) hx hb dX9_drawsOf_63 (by decide) ?_
        refine lv_istore (lv' := [(7, .int (1 * ((σ 3 s) - wet))), (6, .int (1 * ((σ 3 s) - wet))), (5, .int 1), (0, .ref (ad 0)), (1, .int (nI p)), (2, .int (nI s)), (3, .int wet), (4, .int lev)]) hx hb dX9_drawsOf_68 hl (by decide) rfl (fun ls hl => ?_)
        refine lv_iload hx hb dX9_drawsOf_70 (lv_at hl 0 rfl) ?_
        refine lv_iload hx hb dX9_drawsOf_72 (lv_at hl 0 rfl) ?_
        refine lv_iload hx hb dX9_drawsOf_74 (lv_at hl 2 rfl) ?_
        refine lv_irem hx hb dX9_drawsOf_76 (by first | decide | assumption) ?_
        refine lv_isub hx hb dX9_drawsOf_77 ?_
        exact hret hP hS dX9_drawsOf_78 rfl ⟨(by unfold R_X9_drawsOf <;> rw [if_pos c7, if_neg c38, if_neg c58] <;> first | with_reducible rfl), rfl⟩
