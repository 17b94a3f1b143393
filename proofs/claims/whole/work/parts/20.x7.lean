set_option maxHeartbeats 1000000 in
set_option maxRecDepth 100000 in
theorem c_X7_isIn (l : Launch) (D : va_G) (cy : Nat → ClassId) (ad : Nat → Nat) (y z : Nat) (σ : Nat → Nat → Int32) (s : Int32) (u : Int32)  : MI l D (tysW cy) 109 ad (cfX ad cy y z) yX7_isIn wsX7_isIn ({ frames := 0, cells := 0, slots := 0, locals := 0 }) σ [.int s, .int u] (fun v_ τ_ => (bi (hasB u s)) = v_ ∧ σ = τ_) := by
  refine MI.go (cc := cX7_isIn) (maxL := 2) .boolean (by decide) rfl (Nat.le_of_ble_eq_true rfl) ?_
  intro p_ e_ s_ m_ args_ bl_ mt_ c_ A_ Q_ ls hx hb hml hown hts hK hA hD hP hS hl hret
  have hl : lv_has ls 2 [(0, .int s), (1, .int u)] := hl
  refine lv_iload_n hx hb dX7_isIn_0 rfl (lv_at hl 1 rfl) ?_
  refine lv_iload_n hx hb dX7_isIn_1 rfl (lv_at hl 0 rfl) ?_
  refine lv_ishr hx hb dX7_isIn_2 ?_
  refine lv_iconst (v := 1) hx hb dX7_isIn_3 (by decide) ?_
  refine lv_iand hx hb dX7_isIn_4 ?_
  refine lv_if_eq (tgt := 12) hx hb dX7_isIn_5 (by decide) (fun c5 => ?_) (fun c5 => ?_)
  · skip
    refine lv_iconst (v := 0) hx hb dX7_isIn_12 (by decide) ?_
    exact hret hP hS dX7_isIn_13 rfl ⟨(by first | exact bi_f (hasB_0 c5) | exact bi_t (hasB_1 c5)), rfl⟩
  · skip
    refine lv_iconst (v := 1) hx hb dX7_isIn_8 (by decide) ?_
    refine lv_goto (tgt := 13) hx hb dX7_isIn_9 (by decide) ?_
    exact hret hP hS dX7_isIn_13 rfl ⟨(by first | exact bi_f (hasB_0 c5) | exact bi_t (hasB_1 c5)), rfl⟩

theorem in_X7_hasPerson_X7 : ∀ w ∈ u_ws RX7 TX7 12, w ∈ wsX7_hasPerson := by decide +kernel
set_option maxHeartbeats 1000000 in
set_option maxRecDepth 100000 in
theorem c_X7_hasPerson (l : Launch) (D : va_G) (cy : Nat → ClassId) (ad : Nat → Nat) (y z : Nat) (σ : Nat → Nat → Int32) (b : Nat) (v : Int32) (Hb : b = 3 ∨ b = 10) : MI l D (tysW cy) 109 ad (cfX ad cy y z) yX7_hasPerson wsX7_hasPerson ({ frames := 0, cells := 0, slots := 0, locals := 0 }) σ [.ref (ad b), .int v] (fun v_ τ_ => (bi (0 ≤ v ∧ ¬ σ b 3 ≤ v)) = v_ ∧ σ = τ_) := by
  refine MI.go (cc := cX7_hasPerson) (maxL := 2) .boolean (by decide) rfl (Nat.le_of_ble_eq_true rfl) ?_
  intro p_ e_ s_ m_ args_ bl_ mt_ c_ A_ Q_ ls hx hb hml hown hts hK hA hD hP hS hl hret
  have hl : lv_has ls 2 [(0, .ref (ad b)), (1, .int v)] := hl
  refine lv_iload_n hx hb dX7_hasPerson_0 rfl (lv_at hl 1 rfl) ?_
  refine lv_if_lt (tgt := 16) hx hb dX7_hasPerson_1 (by decide) (fun c1 => ?_) (fun c1 => ?_)
  · skip
    refine lv_iconst (v := 0) hx hb dX7_hasPerson_16 (by decide) ?_
    exact hret hP hS dX7_hasPerson_17 rfl ⟨(by first | exact bi_f (fun q => absurd q.1 (fun z => absurd c1 (Int32.not_lt.mpr z))) | exact bi_f (fun q => q.2 c9) | exact bi_t ⟨Int32.not_lt.mp c1, c9⟩), rfl⟩
  · skip
    refine lv_iload_n hx hb dX7_hasPerson_4 rfl (lv_at hl 1 rfl) ?_
    refine lv_aload_n hx hb dX7_hasPerson_5 rfl (lv_at hl 0 rfl) ?_
    refine rp_get (C := RX7) (T := TX7) (N := 12) hx hb hts in_X7_hasPerson_X7 hown hK hP b (hX7 Hb).1 (kX7 Hb _) rfl 3 (by decide) (by decide +kernel) rfl dX7_hasPerson_6 ?_
    refine lv_icmp_ge (tgt := 16) hx hb dX7_hasPerson_9 (by decide) (fun c9 => ?_) (fun c9 => ?_)
    · skip
      refine lv_iconst (v := 0) hx hb dX7_hasPerson_16 (by decide) ?_
      exact hret hP hS dX7_hasPerson_17 rfl ⟨(by first | exact bi_f (fun q => absurd q.1 (fun z => absurd c1 (Int32.not_lt.mpr z))) | exact bi_f (fun q => q.2 c9) | exact bi_t ⟨Int32.not_lt.mp c1, c9⟩), rfl⟩
    · skip
      refine lv_iconst (v := 1) hx hb dX7_hasPerson_12 (by decide) ?_
      refine lv_goto (tgt := 17) hx hb dX7_hasPerson_13 (by decide) ?_
      exact hret hP hS dX7_hasPerson_17 rfl ⟨(by first | exact bi_f (fun q => absurd q.1 (fun z => absurd c1 (Int32.not_lt.mpr z))) | exact bi_f (fun q => q.2 c9) | exact bi_t ⟨Int32.not_lt.mp c1, c9⟩), rfl⟩

theorem in_X7_hasSaying_X7 : ∀ w ∈ u_ws RX7 TX7 12, w ∈ wsX7_hasSaying := by decide +kernel
set_option maxHeartbeats 1000000 in
set_option maxRecDepth 100000 in
theorem c_X7_hasSaying (l : Launch) (D : va_G) (cy : Nat → ClassId) (ad : Nat → Nat) (y z : Nat) (σ : Nat → Nat → Int32) (b : Nat) (v : Int32) (Hb : b = 3 ∨ b = 10) : MI l D (tysW cy) 109 ad (cfX ad cy y z) yX7_hasSaying wsX7_hasSaying ({ frames := 0, cells := 0, slots := 0, locals := 0 }) σ [.ref (ad b), .int v] (fun v_ τ_ => (bi (0 ≤ v ∧ ¬ σ b 5 ≤ v)) = v_ ∧ σ = τ_) := by
  refine MI.go (cc := cX7_hasSaying) (maxL := 2) .boolean (by decide) rfl (Nat.le_of_ble_eq_true rfl) ?_
  intro p_ e_ s_ m_ args_ bl_ mt_ c_ A_ Q_ ls hx hb hml hown hts hK hA hD hP hS hl hret
  have hl : lv_has ls 2 [(0, .ref (ad b)), (1, .int v)] := hl
  refine lv_iload_n hx hb dX7_hasSaying_0 rfl (lv_at hl 1 rfl) ?_
  refine lv_if_lt (tgt := 16) hx hb dX7_hasSaying_1 (by decide) (fun c1 => ?_) (fun c1 => ?_)
  · skip
    refine lv_iconst (v := 0) hx hb dX7_hasSaying_16 (by decide) ?_
    exact hret hP hS dX7_hasSaying_17 rfl ⟨(by first | exact bi_f (fun q => absurd q.1 (fun z => absurd c1 (Int32.not_lt.mpr z))) | exact bi_f (fun q => q.2 c9) | exact bi_t ⟨Int32.not_lt.mp c1, c9⟩), rfl⟩
  · skip
    refine lv_iload_n hx hb dX7_hasSaying_4 rfl (lv_at hl 1 rfl) ?_
    refine lv_aload_n hx hb dX7_hasSaying_5 rfl (lv_at hl 0 rfl) ?_
    refine rp_get (C := RX7) (T := TX7) (N := 12) hx hb hts in_X7_hasSaying_X7 hown hK hP b (hX7 Hb).1 (kX7 Hb _) rfl 5 (by decide) (by decide +kernel) rfl dX7_hasSaying_6 ?_
    refine lv_icmp_ge (tgt := 16) hx hb dX7_hasSaying_9 (by decide) (fun c9 => ?_) (fun c9 => ?_)
    · skip
      refine lv_iconst (v := 0) hx hb dX7_hasSaying_16 (by decide) ?_
      exact hret hP hS dX7_hasSaying_17 rfl ⟨(by first | exact bi_f (fun q => absurd q.1 (fun z => absurd c1 (Int32.not_lt.mpr z))) | exact bi_f (fun q => q.2 c9) | exact bi_t ⟨Int32.not_lt.mp c1, c9⟩), rfl⟩
    · skip
      refine lv_iconst (v := 1) hx hb dX7_hasSaying_12 (by decide) ?_
      refine lv_goto (tgt := 17) hx hb dX7_hasSaying_13 (by decide) ?_
      exact hret hP hS dX7_hasSaying_17 rfl ⟨(by first | exact bi_f (fun q => absurd q.1 (fun z => absurd c1 (Int32.not_lt.mpr z))) | exact bi_f (fun q => q.2 c9) | exact bi_t ⟨Int32.not_lt.mp c1, c9⟩), rfl⟩

theorem in_X7_hasAll_X7 : ∀ w ∈ u_ws RX7 TX7 12, w ∈ wsX7_hasAll := by decide +kernel
set_option maxHeartbeats 1000000 in
set_option maxRecDepth 100000 in
theorem c_X7_hasAll (l : Launch) (D : va_G) (cy : Nat → ClassId) (ad : Nat → Nat) (y z : Nat) (σ : Nat → Nat → Int32) (b : Nat) (v : Int32) (Hb : b = 3 ∨ b = 10) : MI l D (tysW cy) 109 ad (cfX ad cy y z) yX7_hasAll wsX7_hasAll ({ frames := 0, cells := 0, slots := 0, locals := 0 }) σ [.ref (ad b), .int v] (fun v_ τ_ => (bi (0 ≤ v ∧ ¬ (1 : Int32) <<< (σ b 5 &&& 31) ≤ v)) = v_ ∧ σ = τ_) := by
  refine MI.go (cc := cX7_hasAll) (maxL := 2) .boolean (by decide) rfl (Nat.le_of_ble_eq_true rfl) ?_
  intro p_ e_ s_ m_ args_ bl_ mt_ c_ A_ Q_ ls hx hb hml hown hts hK hA hD hP hS hl hret
  have hl : lv_has ls 2 [(0, .ref (ad b)), (1, .int v)] := hl
  refine lv_iload_n hx hb dX7_hasAll_0 rfl (lv_at hl 1 rfl) ?_
  refine lv_if_lt (tgt := 18) hx hb dX7_hasAll_1 (by decide) (fun c1 => ?_) (fun c1 => ?_)
  · skip
    refine lv_iconst (v := 0) hx hb dX7_hasAll_18 (by decide) ?_
    exact hret hP hS dX7_hasAll_19 rfl ⟨(by first | exact bi_f (fun q => absurd q.1 (fun z => absurd c1 (Int32.not_lt.mpr z))) | exact bi_f (fun q => q.2 c11) | exact bi_t ⟨Int32.not_lt.mp c1, c11⟩), rfl⟩
  · skip
    refine lv_iload_n hx hb dX7_hasAll_4 rfl (lv_at hl 1 rfl) ?_
    refine lv_iconst (v := 1) hx hb dX7_hasAll_5 (by decide) ?_
    refine lv_aload_n hx hb dX7_hasAll_6 rfl (lv_at hl 0 rfl) ?_
    refine rp_get (C := RX7) (T := TX7) (N := 12) hx hb hts in_X7_hasAll_X7 hown hK hP b (hX7 Hb).1 (kX7 Hb _) rfl 5 (by decide) (by decide +kernel) rfl dX7_hasAll_7 ?_
    refine lv_ishl hx hb dX7_hasAll_10 ?_
    refine lv_icmp_ge (tgt := 18) hx hb dX7_hasAll_11 (by decide) (fun c11 => ?_) (fun c11 => ?_)
    · skip
      refine lv_iconst (v := 0) hx hb dX7_hasAll_18 (by decide) ?_
      exact hret hP hS dX7_hasAll_19 rfl ⟨(by first | exact bi_f (fun q => absurd q.1 (fun z => absurd c1 (Int32.not_lt.mpr z))) | exact bi_f (fun q => q.2 c11) | exact bi_t ⟨Int32.not_lt.mp c1, c11⟩), rfl⟩
    · skip
      refine lv_iconst (v := 1) hx hb dX7_hasAll_14 (by decide) ?_
      refine lv_goto (tgt := 19) hx hb dX7_hasAll_15 (by decide) ?_
      exact hret hP hS dX7_hasAll_19 rfl ⟨(by first | exact bi_f (fun q => absurd q.1 (fun z => absurd c1 (Int32.not_lt.mpr z))) | exact bi_f (fun q => q.2 c11) | exact bi_t ⟨Int32.not_lt.mp c1, c11⟩), rfl⟩

theorem in_X7_holding_X7 : ∀ w ∈ u_ws RX7 TX7 12, w ∈ wsX7_holding := by decide +kernel
set_option maxHeartbeats 1000000 in
set_option maxRecDepth 100000 in
theorem c_X7_holding (l : Launch) (D : va_G) (cy : Nat → ClassId) (ad : Nat → Nat) (y z : Nat) (σ : Nat → Nat → Int32) (fr : Nat → Int32) (b : Nat) (n : Nat) (u : Int32) (r_fr : σ (b + 5) = fr) (Hb : b = 3 ∨ b = 10) (hn : n ≤ 10) (en : σ b 5 = nI n) : MI l D (tysW cy) 109 ad (cfX ad cy y z) yX7_holding wsX7_holding ({ frames := 1, cells := 0, slots := 0, locals := 21 }) σ [.ref (ad b), .int u] (fun v_ τ_ => (holdN fr u n) = v_ ∧ σ = τ_) := by
  refine MI.go (cc := cX7_holding) (maxL := 4) .int (by decide) rfl (Nat.le_of_ble_eq_true rfl) ?_
  intro p_ e_ s_ m_ args_ bl_ mt_ c_ A_ Q_ ls hx hb hml hown hts hK hA hD hP hS hl hret
  have hl : lv_has ls 4 [(0, .ref (ad b)), (1, .int u)] := hl
  subst r_fr
  refine lv_iconst (v := 0) hx hb dX7_holding_0 (by decide) ?_
  refine lv_istore_n (lv' := [(2, .int 0), (0, .ref (ad b)), (1, .int u)]) hx hb dX7_holding_1 rfl hl (by decide) rfl (fun ls hl => ?_)
  refine lv_iconst (v := 0) hx hb dX7_holding_2 (by decide) ?_
  refine lv_istore_n (lv' := [(3, .int 0), (2, .int 0), (0, .ref (ad b)), (1, .int u)]) hx hb dX7_holding_3 rfl hl (by decide) rfl (fun ls hl => ?_)
  have L4 : ∀ (fu4 : Nat) (i : Nat), (i ≤ n) → n - i < fu4 → ∀ (x3 : Int32) (x2 : Int32) (τ : Nat → Nat → Int32) (H : Heap) (locs : List Loc) (ls : Array Slot), (nI i) = x3 → (holdN (σ (b + 5)) u i) = x2 → σ = τ → va_P D classes (rw_ 109 ad (cfX ad cy y z) τ) H → va_S A_ s_.heap H locs → lv_has ls 4 [(3, .int x3), (2, .int x2), (0, .ref (ad b)), (1, .int u)] → W p_ l e_ ({ frames := 1, cells := 0, slots := 0, locals := 21 }) s_ m_ args_ bl_ mt_ c_ H locs 0 0 Q_ (F0 m_ 4 ls []) := by
    intro fu4
    induction fu4 with
    | zero => intro i hi hf; exact absurd hf (Nat.not_lt_zero _)
    | succ fu4 ih4 =>
      intro i hi hf4 x3 x2 τ H locs ls ex3 ex2 eτ hP hS hl
      subst ex3
      subst ex2
      subst eτ
      refine lv_iload_n hx hb dX7_holding_4 rfl (lv_at hl 0 rfl) ?_
      refine lv_aload_n hx hb dX7_holding_5 rfl (lv_at hl 2 rfl) ?_
      refine rp_get (C := RX7) (T := TX7) (N := 12) hx hb hts in_X7_holding_X7 hown hK hP b (hX7 Hb).1 (kX7 Hb _) rfl 5 (by decide) (by decide +kernel) rfl dX7_holding_6 ?_
      rw [en]
      refine lv_icmp_ge (tgt := 45) hx hb dX7_holding_9 (by decide) (fun c9 => ?_) (fun c9 => ?_)
      · skip
        have ei := cl_ex hi (by omega) c9
        refine lv_iload_n hx hb dX7_holding_45 rfl (lv_at hl 1 rfl) ?_
        exact hret hP hS dX7_holding_46 rfl ⟨(by rw [ei]), rfl⟩
      · skip
        have hi2 := cl_in (by omega) (by omega) c9
        refine lv_iload_n hx hb dX7_holding_12 rfl (lv_at hl 0 rfl) ?_
        refine lv_iload_n hx hb dX7_holding_13 rfl (lv_at hl 3 rfl) ?_
        refine rp_callSI (na := 2) hx hb hml hown hts hK hA hD hP hS hl.1 [.int (nI i), .int u] (c_X7_isIn l D cy ad y z σ (nI i) u ) gX7_holding_X7_isIn rfl (by decide +kernel) rfl ⟨Nat.le_of_ble_eq_true rfl, Nat.le_of_ble_eq_true rfl⟩ ⟨rfl, rfl⟩ ⟨Nat.zero_le _, Nat.zero_le _⟩ rfl (Nat.le_of_ble_eq_true rfl) dX7_holding_14 (fun v_ τ_ H locs hq hP hS => ?_)
        obtain ⟨rfl, rfl⟩ := hq
        refine lv_if_ne (tgt := 39) hx hb dX7_holding_17 (by decide) (fun c17 => ?_) (fun c17 => ?_)
        · skip
          have c17 := bi_ne0.mp c17
          refine lv_iinc (v := ((nI i) + 1)) (lv' := [(3, .int ((nI i) + 1)), (2, .int (holdN (σ (b + 5)) u i)), (0, .ref (ad b)), (1, .int u)]) hx hb dX7_holding_39 hl (k := 0) rfl rfl (by decide) rfl (fun ls hl => ?_)
          refine lv_goto (tgt := 4) hx hb dX7_holding_42 (by decide) ?_
          exact ih4 (i + 1) (by omega) (by omega) _ _ _ _ _ _ ((nI_1 i).symm) (by first | exact holdN_f c17 | exact holdN_g c30 | exact holdN_t c17 c30) rfl hP hS (lv_sub hl [0, 1, 2, 3] rfl)
        · skip
          have c17 := bi_eq0.mp c17
          refine lv_aload_n hx hb dX7_holding_20 rfl (lv_at hl 2 rfl) ?_
          refine rp_get (C := RX7) (T := TX7) (N := 12) hx hb hts in_X7_holding_X7 hown hK hP b (hX7 Hb).1 (kX7 Hb _) rfl 9 (by decide) (by decide +kernel) rfl dX7_holding_21 ?_
          refine lv_iload_n hx hb dX7_holding_24 rfl (lv_at hl 0 rfl) ?_
          refine rp_iald hx hb hK hP (b + 5) (hX7 Hb).2.2.2.2.2.1 ((kX7_9 Hb) _) 0 rfl i rfl (by omega) (by decide) dX7_holding_25 ?_
          refine lv_iload_n hx hb dX7_holding_26 rfl (lv_at hl 1 rfl) ?_
          refine lv_iconst (v := (-1)) hx hb dX7_holding_27 (by decide) ?_
          refine lv_ixor hx hb dX7_holding_28 ?_
          refine lv_iand hx hb dX7_holding_29 ?_
          refine lv_if_ne (tgt := 39) hx hb dX7_holding_30 (by decide) (fun c30 => ?_) (fun c30 => ?_)
          · skip
            refine lv_iinc (v := ((nI i) + 1)) (lv' := [(3, .int ((nI i) + 1)), (2, .int (holdN (σ (b + 5)) u i)), (0, .ref (ad b)), (1, .int u)]) hx hb dX7_holding_39 hl (k := 0) rfl rfl (by decide) rfl (fun ls hl => ?_)
            refine lv_goto (tgt := 4) hx hb dX7_holding_42 (by decide) ?_
            exact ih4 (i + 1) (by omega) (by omega) _ _ _ _ _ _ ((nI_1 i).symm) (by first | exact holdN_f c17 | exact holdN_g c30 | exact holdN_t c17 c30) rfl hP hS (lv_sub hl [0, 1, 2, 3] rfl)
          · skip
            refine lv_iload_n hx hb dX7_holding_33 rfl (lv_at hl 1 rfl) ?_
            refine lv_iconst (v := 1) hx hb dX7_holding_34 (by decide) ?_
            refine lv_iload_n hx hb dX7_holding_35 rfl (lv_at hl 0 rfl) ?_
            refine lv_ishl hx hb dX7_holding_36 ?_
            refine lv_ior hx hb dX7_holding_37 ?_
            refine lv_istore_n (lv' := [(2, .int ((holdN (σ (b + 5)) u i) ||| ((1 : Int32) <<< ((nI i) &&& 31)))), (3, .int (nI i)), (0, .ref (ad b)), (1, .int u)]) hx hb dX7_holding_38 rfl hl (by decide) rfl (fun ls hl => ?_)
            refine lv_iinc (v := ((nI i) + 1)) (lv' := [(3, .int ((nI i) + 1)), (2, .int ((holdN (σ (b + 5)) u i) ||| ((1 : Int32) <<< ((nI i) &&& 31)))), (0, .ref (ad b)), (1, .int u)]) hx hb dX7_holding_39 hl (k := 1) rfl rfl (by decide) rfl (fun ls hl => ?_)
            refine lv_goto (tgt := 4) hx hb dX7_holding_42 (by decide) ?_
            exact ih4 (i + 1) (by omega) (by omega) _ _ _ _ _ _ ((nI_1 i).symm) (by first | exact holdN_f c17 | exact holdN_g c30 | exact holdN_t c17 c30) rfl hP hS (lv_sub hl [0, 1, 2, 3] rfl)
  exact L4 ((n - 0) + 1) 0 (Nat.zero_le _) (Nat.lt_succ_self _) _ _ _ _ _ _ (by first | rfl | simp [*]) (by first | rfl | simp [*]) rfl hP hS (lv_sub hl [0, 1, 2, 3] rfl)

set_option maxHeartbeats 1000000 in
set_option maxRecDepth 100000 in
theorem c_X7_fallsOf (l : Launch) (D : va_G) (cy : Nat → ClassId) (ad : Nat → Nat) (y z : Nat) (σ : Nat → Nat → Int32) (fr : Nat → Int32) (b : Nat) (n : Nat) (s : Int32) (u : Int32) (r_fr : σ (b + 5) = fr) (Hb : b = 3 ∨ b = 10) (hn : n ≤ 10) (en : σ b 5 = nI n) : MI l D (tysW cy) 109 ad (cfX ad cy y z) yX7_fallsOf wsX7_fallsOf ({ frames := 2, cells := 0, slots := 0, locals := 44 }) σ [.ref (ad b), .int s, .int u] (fun v_ τ_ => (fallN fr u s n) = v_ ∧ σ = τ_) := by
  refine MI.go (cc := cX7_fallsOf) (maxL := 3) .int (by decide) rfl (Nat.le_of_ble_eq_true rfl) ?_
  intro p_ e_ s_ m_ args_ bl_ mt_ c_ A_ Q_ ls hx hb hml hown hts hK hA hD hP hS hl hret
  have hl : lv_has ls 3 [(0, .ref (ad b)), (1, .int s), (2, .int u)] := hl
  subst r_fr
  refine lv_aload_n hx hb dX7_fallsOf_0 rfl (lv_at hl 0 rfl) ?_
  refine lv_iload_n hx hb dX7_fallsOf_1 rfl (lv_at hl 2 rfl) ?_
  refine rp_callVI (na := 1) hx hb hml hown hts hK hA hD hP hS hl.1 b (hX7 Hb).1 (kX7 Hb _) rfl [.int u] (c_X7_holding l D cy ad y z σ (σ (b + 5)) b n u rfl Hb (by first | assumption | omega) (by first | assumption | rfl)) gX7_fallsOf_X7_holding rfl (by decide +kernel) rfl ⟨Nat.le_of_ble_eq_true rfl, Nat.le_of_ble_eq_true rfl⟩ ⟨rfl, rfl⟩ ⟨Nat.zero_le _, Nat.zero_le _⟩ rfl (Nat.le_of_ble_eq_true rfl) dX7_fallsOf_2 (fun v_ τ_ H locs hq hP hS => ?_)
  obtain ⟨rfl, rfl⟩ := hq
  refine lv_aload_n hx hb dX7_fallsOf_5 rfl (lv_at hl 0 rfl) ?_
  refine lv_iload_n hx hb dX7_fallsOf_6 rfl (lv_at hl 2 rfl) ?_
  refine lv_iconst (v := 1) hx hb dX7_fallsOf_7 (by decide) ?_
  refine lv_iload_n hx hb dX7_fallsOf_8 rfl (lv_at hl 1 rfl) ?_
  refine lv_ishl hx hb dX7_fallsOf_9 ?_
  refine lv_ior hx hb dX7_fallsOf_10 ?_
  refine rp_callVI (na := 1) hx hb hml hown hts hK hA hD hP hS hl.1 b (hX7 Hb).1 (kX7 Hb _) rfl [.int (u ||| ((1 : Int32) <<< (s &&& 31)))] (c_X7_holding l D cy ad y z σ (σ (b + 5)) b n (u ||| ((1 : Int32) <<< (s &&& 31))) rfl Hb (by first | assumption | omega) (by first | assumption | rfl)) gX7_fallsOf_X7_holding rfl (by decide +kernel) rfl ⟨Nat.le_of_ble_eq_true rfl, Nat.le_of_ble_eq_true rfl⟩ ⟨rfl, rfl⟩ ⟨Nat.zero_le _, Nat.zero_le _⟩ rfl (Nat.le_of_ble_eq_true rfl) dX7_fallsOf_11 (fun v_ τ_ H locs hq hP hS => ?_)
  obtain ⟨rfl, rfl⟩ := hq
  refine lv_iconst (v := (-1)) hx hb dX7_fallsOf_14 (by decide) ?_
  refine lv_ixor hx hb dX7_fallsOf_15 ?_
  refine lv_iand hx hb dX7_fallsOf_16 ?_
  exact hret hP hS dX7_fallsOf_17 rfl ⟨(by first | rfl | simp [*]), rfl⟩

theorem in_X7_weightOf_X7 : ∀ w ∈ u_ws RX7 TX7 12, w ∈ wsX7_weightOf := by decide +kernel
set_option maxHeartbeats 1000000 in
set_option maxRecDepth 100000 in
theorem c_X7_weightOf (l : Launch) (D : va_G) (cy : Nat → ClassId) (ad : Nat → Nat) (y z : Nat) (σ : Nat → Nat → Int32) (ff : Nat → Int32) (b : Nat) (n : Nat) (u : Int32) (r_ff : σ (b + 3) = ff) (Hb : b = 3 ∨ b = 10) (hn : n ≤ 10) (en : σ b 5 = nI n) : MI l D (tysW cy) 109 ad (cfX ad cy y z) yX7_weightOf wsX7_weightOf ({ frames := 1, cells := 0, slots := 0, locals := 21 }) σ [.ref (ad b), .int u] (fun v_ τ_ => (sumN ff u n) = v_ ∧ σ = τ_) := by
  refine MI.go (cc := cX7_weightOf) (maxL := 4) .int (by decide) rfl (Nat.le_of_ble_eq_true rfl) ?_
  intro p_ e_ s_ m_ args_ bl_ mt_ c_ A_ Q_ ls hx hb hml hown hts hK hA hD hP hS hl hret
  have hl : lv_has ls 4 [(0, .ref (ad b)), (1, .int u)] := hl
  subst r_ff
  refine lv_iconst (v := 0) hx hb dX7_weightOf_0 (by decide) ?_
  refine lv_istore_n (lv' := [(2, .int 0), (0, .ref (ad b)), (1, .int u)]) hx hb dX7_weightOf_1 rfl hl (by decide) rfl (fun ls hl => ?_)
  refine lv_iconst (v := 0) hx hb dX7_weightOf_2 (by decide) ?_
  refine lv_istore_n (lv' := [(3, .int 0), (2, .int 0), (0, .ref (ad b)), (1, .int u)]) hx hb dX7_weightOf_3 rfl hl (by decide) rfl (fun ls hl => ?_)
  have L4 : ∀ (fu4 : Nat) (i : Nat), (i ≤ n) → n - i < fu4 → ∀ (x3 : Int32) (x2 : Int32) (τ : Nat → Nat → Int32) (H : Heap) (locs : List Loc) (ls : Array Slot), (nI i) = x3 → (sumN (σ (b + 3)) u i) = x2 → σ = τ → va_P D classes (rw_ 109 ad (cfX ad cy y z) τ) H → va_S A_ s_.heap H locs → lv_has ls 4 [(3, .int x3), (2, .int x2), (0, .ref (ad b)), (1, .int u)] → W p_ l e_ ({ frames := 1, cells := 0, slots := 0, locals := 21 }) s_ m_ args_ bl_ mt_ c_ H locs 0 0 Q_ (F0 m_ 4 ls []) := by
    intro fu4
    induction fu4 with
    | zero => intro i hi hf; exact absurd hf (Nat.not_lt_zero _)
    | succ fu4 ih4 =>
      intro i hi hf4 x3 x2 τ H locs ls ex3 ex2 eτ hP hS hl
      subst ex3
      subst ex2
      subst eτ
      refine lv_iload_n hx hb dX7_weightOf_4 rfl (lv_at hl 0 rfl) ?_
      refine lv_aload_n hx hb dX7_weightOf_5 rfl (lv_at hl 2 rfl) ?_
      refine rp_get (C := RX7) (T := TX7) (N := 12) hx hb hts in_X7_weightOf_X7 hown hK hP b (hX7 Hb).1 (kX7 Hb _) rfl 5 (by decide) (by decide +kernel) rfl dX7_weightOf_6 ?_
      rw [en]
      refine lv_icmp_ge (tgt := 39) hx hb dX7_weightOf_9 (by decide) (fun c9 => ?_) (fun c9 => ?_)
      · skip
        have ei := cl_ex hi (by omega) c9
        refine lv_iload_n hx hb dX7_weightOf_39 rfl (lv_at hl 1 rfl) ?_
        exact hret hP hS dX7_weightOf_40 rfl ⟨(by rw [ei]), rfl⟩
      · skip
        have hi2 := cl_in (by omega) (by omega) c9
        refine lv_iload_n hx hb dX7_weightOf_12 rfl (lv_at hl 1 rfl) ?_
        refine lv_iload_n hx hb dX7_weightOf_13 rfl (lv_at hl 0 rfl) ?_
        refine lv_iload_n hx hb dX7_weightOf_14 rfl (lv_at hl 3 rfl) ?_
        refine rp_callSI (na := 2) hx hb hml hown hts hK hA hD hP hS hl.1 [.int (nI i), .int u] (c_X7_isIn l D cy ad y z σ (nI i) u ) gX7_weightOf_X7_isIn rfl (by decide +kernel) rfl ⟨Nat.le_of_ble_eq_true rfl, Nat.le_of_ble_eq_true rfl⟩ ⟨rfl, rfl⟩ ⟨Nat.zero_le _, Nat.zero_le _⟩ rfl (Nat.le_of_ble_eq_true rfl) dX7_weightOf_15 (fun v_ τ_ H locs hq hP hS => ?_)
        obtain ⟨rfl, rfl⟩ := hq
        refine lv_if_eq (tgt := 30) hx hb dX7_weightOf_18 (by decide) (fun c18 => ?_) (fun c18 => ?_)
        · skip
          have c18 := bi_eq0.mp c18
          refine lv_iconst (v := 0) hx hb dX7_weightOf_30 (by decide) ?_
          refine lv_iadd hx hb dX7_weightOf_31 ?_
          refine lv_istore_n (lv' := [(2, .int ((sumN (σ (b + 3)) u i) + 0)), (3, .int (nI i)), (0, .ref (ad b)), (1, .int u)]) hx hb dX7_weightOf_32 rfl hl (by decide) rfl (fun ls hl => ?_)
          refine lv_iinc (v := ((nI i) + 1)) (lv' := [(3, .int ((nI i) + 1)), (2, .int ((sumN (σ (b + 3)) u i) + 0)), (0, .ref (ad b)), (1, .int u)]) hx hb dX7_weightOf_33 hl (k := 1) rfl rfl (by decide) rfl (fun ls hl => ?_)
          refine lv_goto (tgt := 4) hx hb dX7_weightOf_36 (by decide) ?_
          exact ih4 (i + 1) (by omega) (by omega) _ _ _ _ _ _ ((nI_1 i).symm) (by first | exact sumN_t c18 | exact sumN_f c18) rfl hP hS (lv_sub hl [0, 1, 2, 3] rfl)
        · skip
          have c18 := bi_ne0.mp c18
          refine lv_aload_n hx hb dX7_weightOf_21 rfl (lv_at hl 2 rfl) ?_
          refine rp_get (C := RX7) (T := TX7) (N := 12) hx hb hts in_X7_weightOf_X7 hown hK hP b (hX7 Hb).1 (kX7 Hb _) rfl 7 (by decide) (by decide +kernel) rfl dX7_weightOf_22 ?_
          refine lv_iload_n hx hb dX7_weightOf_25 rfl (lv_at hl 0 rfl) ?_
          refine rp_iald hx hb hK hP (b + 3) (hX7 Hb).2.2.2.1 ((kX7_7 Hb) _) 0 rfl i rfl (by omega) (by decide) dX7_weightOf_26 ?_
          refine lv_goto (tgt := 31) hx hb dX7_weightOf_27 (by decide) ?_
          refine lv_iadd hx hb dX7_weightOf_31 ?_
          refine lv_istore_n (lv' := [(2, .int ((sumN (σ (b + 3)) u i) + (σ (b + 3) i))), (3, .int (nI i)), (0, .ref (ad b)), (1, .int u)]) hx hb dX7_weightOf_32 rfl hl (by decide) rfl (fun ls hl => ?_)
          refine lv_iinc (v := ((nI i) + 1)) (lv' := [(3, .int ((nI i) + 1)), (2, .int ((sumN (σ (b + 3)) u i) + (σ (b + 3) i))), (0, .ref (ad b)), (1, .int u)]) hx hb dX7_weightOf_33 hl (k := 1) rfl rfl (by decide) rfl (fun ls hl => ?_)
          refine lv_goto (tgt := 4) hx hb dX7_weightOf_36 (by decide) ?_
          exact ih4 (i + 1) (by omega) (by omega) _ _ _ _ _ _ ((nI_1 i).symm) (by first | exact sumN_t c18 | exact sumN_f c18) rfl hP hS (lv_sub hl [0, 1, 2, 3] rfl)
  exact L4 ((n - 0) + 1) 0 (Nat.zero_le _) (Nat.lt_succ_self _) _ _ _ _ _ _ (by first | rfl | simp [*]) (by first | rfl | simp [*]) rfl hP hS (lv_sub hl [0, 1, 2, 3] rfl)

theorem in_X7_worthOf_X7 : ∀ w ∈ u_ws RX7 TX7 12, w ∈ wsX7_worthOf := by decide +kernel
set_option maxHeartbeats 1000000 in
set_option maxRecDepth 100000 in
theorem c_X7_worthOf (l : Launch) (D : va_G) (cy : Nat → ClassId) (ad : Nat → Nat) (y z : Nat) (σ : Nat → Nat → Int32) (ff : Nat → Int32) (b : Nat) (n : Nat) (u : Int32) (r_ff : σ (b + 4) = ff) (Hb : b = 3 ∨ b = 10) (hn : n ≤ 10) (en : σ b 5 = nI n) : MI l D (tysW cy) 109 ad (cfX ad cy y z) yX7_worthOf wsX7_worthOf ({ frames := 1, cells := 0, slots := 0, locals := 21 }) σ [.ref (ad b), .int u] (fun v_ τ_ => (sumN ff u n) = v_ ∧ σ = τ_) := by
  refine MI.go (cc := cX7_worthOf) (maxL := 4) .int (by decide) rfl (Nat.le_of_ble_eq_true rfl) ?_
  intro p_ e_ s_ m_ args_ bl_ mt_ c_ A_ Q_ ls hx hb hml hown hts hK hA hD hP hS hl hret
  have hl : lv_has ls 4 [(0, .ref (ad b)), (1, .int u)] := hl
  subst r_ff
  refine lv_iconst (v := 0) hx hb dX7_worthOf_0 (by decide) ?_
  refine lv_istore_n (lv' := [(2, .int 0), (0, .ref (ad b)), (1, .int u)]) hx hb dX7_worthOf_1 rfl hl (by decide) rfl (fun ls hl => ?_)
  refine lv_iconst (v := 0) hx hb dX7_worthOf_2 (by decide) ?_
  refine lv_istore_n (lv' := [(3, .int 0), (2, .int 0), (0, .ref (ad b)), (1, .int u)]) hx hb dX7_worthOf_3 rfl hl (by decide) rfl (fun ls hl => ?_)
  have L4 : ∀ (fu4 : Nat) (i : Nat), (i ≤ n) → n - i < fu4 → ∀ (x3 : Int32) (x2 : Int32) (τ : Nat → Nat → Int32) (H : Heap) (locs : List Loc) (ls : Array Slot), (nI i) = x3 → (sumN (σ (b + 4)) u i) = x2 → σ = τ → va_P D classes (rw_ 109 ad (cfX ad cy y z) τ) H → va_S A_ s_.heap H locs → lv_has ls 4 [(3, .int x3), (2, .int x2), (0, .ref (ad b)), (1, .int u)] → W p_ l e_ ({ frames := 1, cells := 0, slots := 0, locals := 21 }) s_ m_ args_ bl_ mt_ c_ H locs 0 0 Q_ (F0 m_ 4 ls []) := by
    intro fu4
    induction fu4 with
    | zero => intro i hi hf; exact absurd hf (Nat.not_lt_zero _)
    | succ fu4 ih4 =>
      intro i hi hf4 x3 x2 τ H locs ls ex3 ex2 eτ hP hS hl
      subst ex3
      subst ex2
      subst eτ
      refine lv_iload_n hx hb dX7_worthOf_4 rfl (lv_at hl 0 rfl) ?_
      refine lv_aload_n hx hb dX7_worthOf_5 rfl (lv_at hl 2 rfl) ?_
      refine rp_get (C := RX7) (T := TX7) (N := 12) hx hb hts in_X7_worthOf_X7 hown hK hP b (hX7 Hb).1 (kX7 Hb _) rfl 5 (by decide) (by decide +kernel) rfl dX7_worthOf_6 ?_
      rw [en]
      refine lv_icmp_ge (tgt := 39) hx hb dX7_worthOf_9 (by decide) (fun c9 => ?_) (fun c9 => ?_)
      · skip
        have ei := cl_ex hi (by omega) c9
        refine lv_iload_n hx hb dX7_worthOf_39 rfl (lv_at hl 1 rfl) ?_
        exact hret hP hS dX7_worthOf_40 rfl ⟨(by rw [ei]), rfl⟩
      · skip
        have hi2 := cl_in (by omega) (by omega) c9
        refine lv_iload_n hx hb dX7_worthOf_12 rfl (lv_at hl 1 rfl) ?_
        refine lv_iload_n hx hb dX7_worthOf_13 rfl (lv_at hl 0 rfl) ?_
        refine lv_iload_n hx hb dX7_worthOf_14 rfl (lv_at hl 3 rfl) ?_
        refine rp_callSI (na := 2) hx hb hml hown hts hK hA hD hP hS hl.1 [.int (nI i), .int u] (c_X7_isIn l D cy ad y z σ (nI i) u ) gX7_worthOf_X7_isIn rfl (by decide +kernel) rfl ⟨Nat.le_of_ble_eq_true rfl, Nat.le_of_ble_eq_true rfl⟩ ⟨rfl, rfl⟩ ⟨Nat.zero_le _, Nat.zero_le _⟩ rfl (Nat.le_of_ble_eq_true rfl) dX7_worthOf_15 (fun v_ τ_ H locs hq hP hS => ?_)
        obtain ⟨rfl, rfl⟩ := hq
        refine lv_if_eq (tgt := 30) hx hb dX7_worthOf_18 (by decide) (fun c18 => ?_) (fun c18 => ?_)
        · skip
          have c18 := bi_eq0.mp c18
          refine lv_iconst (v := 0) hx hb dX7_worthOf_30 (by decide) ?_
          refine lv_iadd hx hb dX7_worthOf_31 ?_
          refine lv_istore_n (lv' := [(2, .int ((sumN (σ (b + 4)) u i) + 0)), (3, .int (nI i)), (0, .ref (ad b)), (1, .int u)]) hx hb dX7_worthOf_32 rfl hl (by decide) rfl (fun ls hl => ?_)
          refine lv_iinc (v := ((nI i) + 1)) (lv' := [(3, .int ((nI i) + 1)), (2, .int ((sumN (σ (b + 4)) u i) + 0)), (0, .ref (ad b)), (1, .int u)]) hx hb dX7_worthOf_33 hl (k := 1) rfl rfl (by decide) rfl (fun ls hl => ?_)
          refine lv_goto (tgt := 4) hx hb dX7_worthOf_36 (by decide) ?_
          exact ih4 (i + 1) (by omega) (by omega) _ _ _ _ _ _ ((nI_1 i).symm) (by first | exact sumN_t c18 | exact sumN_f c18) rfl hP hS (lv_sub hl [0, 1, 2, 3] rfl)
        · skip
          have c18 := bi_ne0.mp c18
          refine lv_aload_n hx hb dX7_worthOf_21 rfl (lv_at hl 2 rfl) ?_
          refine rp_get (C := RX7) (T := TX7) (N := 12) hx hb hts in_X7_worthOf_X7 hown hK hP b (hX7 Hb).1 (kX7 Hb _) rfl 8 (by decide) (by decide +kernel) rfl dX7_worthOf_22 ?_
          refine lv_iload_n hx hb dX7_worthOf_25 rfl (lv_at hl 0 rfl) ?_
          refine rp_iald hx hb hK hP (b + 4) (hX7 Hb).2.2.2.2.1 ((kX7_8 Hb) _) 0 rfl i rfl (by omega) (by decide) dX7_worthOf_26 ?_
          refine lv_goto (tgt := 31) hx hb dX7_worthOf_27 (by decide) ?_
          refine lv_iadd hx hb dX7_worthOf_31 ?_
          refine lv_istore_n (lv' := [(2, .int ((sumN (σ (b + 4)) u i) + (σ (b + 4) i))), (3, .int (nI i)), (0, .ref (ad b)), (1, .int u)]) hx hb dX7_worthOf_32 rfl hl (by decide) rfl (fun ls hl => ?_)
          refine lv_iinc (v := ((nI i) + 1)) (lv' := [(3, .int ((nI i) + 1)), (2, .int ((sumN (σ (b + 4)) u i) + (σ (b + 4) i))), (0, .ref (ad b)), (1, .int u)]) hx hb dX7_worthOf_33 hl (k := 1) rfl rfl (by decide) rfl (fun ls hl => ?_)
          refine lv_goto (tgt := 4) hx hb dX7_worthOf_36 (by decide) ?_
          exact ih4 (i + 1) (by omega) (by omega) _ _ _ _ _ _ ((nI_1 i).symm) (by first | exact sumN_t c18 | exact sumN_f c18) rfl hP hS (lv_sub hl [0, 1, 2, 3] rfl)
  exact L4 ((n - 0) + 1) 0 (Nat.zero_le _) (Nat.lt_succ_self _) _ _ _ _ _ _ (by first | rfl | simp [*]) (by first | rfl | simp [*]) rfl hP hS (lv_sub hl [0, 1, 2, 3] rfl)
