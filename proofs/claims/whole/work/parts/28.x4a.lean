theorem in_X4_letterAt_X4 : ∀ w ∈ u_ws RX4 TX4 6, w ∈ wsX4_letterAt := by decide +kernel
set_option maxHeartbeats 1000000 in
set_option maxRecDepth 100000 in
theorem c_X4_letterAt (l : Launch) (D : va_G) (cy : Nat → ClassId) (ad : Nat → Nat) (y z : Nat) (σ : Nat → Nat → Int32) (tx : Nat → Int32) (len : Nat) (a : Nat) (r_tx : σ 2 = tx) (hlen : len ≤ 240) (elen : σ 1 1 = nI len) (ha : a ≤ 240) : MI l D (tysW cy) 109 ad (cfX ad cy y z) yX4_letterAt wsX4_letterAt ({ frames := 0, cells := 0, slots := 0, locals := 0 }) σ [.ref (ad 1), .int (nI a)] (fun v_ τ_ => (ltr tx len a) = v_ ∧ σ = τ_) := by
  refine MI.go (cc := cX4_letterAt) (maxL := 2) .int (by decide) rfl (Nat.le_of_ble_eq_true rfl) ?_
  intro p_ e_ s_ m_ args_ bl_ mt_ c_ A_ Q_ ls hx hb hml hown hts hK hA hD hP hS hl hret
  have hl : lv_has ls 2 [(0, .ref (ad 1)), (1, .int (nI a))] := hl
  subst r_tx
  refine lv_iload_n hx hb dX4_letterAt_0 rfl (lv_at hl 1 rfl) ?_
  refine lv_if_lt (tgt := 30) hx hb dX4_letterAt_1 (by decide) (fun c1 => ?_) (fun c1 => ?_)
  · skip
    exact absurd c1 (nI_pos (by omega))
  · skip
    refine lv_iload_n hx hb dX4_letterAt_4 rfl (lv_at hl 1 rfl) ?_
    refine lv_aload_n hx hb dX4_letterAt_5 rfl (lv_at hl 0 rfl) ?_
    refine rp_get (C := RX4) (T := TX4) (N := 6) hx hb hts in_X4_letterAt_X4 hown hK hP 1 (by decide) (kX4 _) rfl 1 (by decide) (by decide +kernel) rfl dX4_letterAt_6 ?_
    rw [elen]
    refine lv_icmp_ge (tgt := 30) hx hb dX4_letterAt_9 (by decide) (fun c9 => ?_) (fun c9 => ?_)
    · skip
      have hl1 : len ≤ a := (nI_leI (by omega) (by omega)).mp c9
      refine lv_iconst (v := (-1)) hx hb dX4_letterAt_30 (by decide) ?_
      exact hret hP hS dX4_letterAt_31 rfl ⟨(if_neg (by omega)), rfl⟩
    · skip
      have hl1 : a < len := cl_in (by omega) (by omega) c9
      refine lv_iload_n hx hb dX4_letterAt_12 rfl (lv_at hl 1 rfl) ?_
      refine lv_aload_n hx hb dX4_letterAt_13 rfl (lv_at hl 0 rfl) ?_
      refine rp_get (C := RX4) (T := TX4) (N := 6) hx hb hts in_X4_letterAt_X4 hown hK hP 1 (by decide) (kX4 _) rfl 0 (by decide) (by decide +kernel) rfl dX4_letterAt_14 ?_
      refine va_alen hx hb hK hP 2 0 (rw_get (by decide) (kX4_0 _)) rfl (v := 240) rfl dX4_letterAt_17 ?_
      refine lv_icmp_ge (tgt := 30) hx hb dX4_letterAt_18 (by decide) (fun c18 => ?_) (fun c18 => ?_)
      · skip
        exact absurd c18 (nI_ge (b := 240) (by omega) (by decide))
      · skip
        refine lv_aload_n hx hb dX4_letterAt_21 rfl (lv_at hl 0 rfl) ?_
        refine rp_get (C := RX4) (T := TX4) (N := 6) hx hb hts in_X4_letterAt_X4 hown hK hP 1 (by decide) (kX4 _) rfl 0 (by decide) (by decide +kernel) rfl dX4_letterAt_22 ?_
        refine lv_iload_n hx hb dX4_letterAt_25 rfl (lv_at hl 1 rfl) ?_
        refine rp_iald hx hb hK hP 2 (by decide) (kX4_0 _) 0 rfl a rfl (by omega) (by decide) dX4_letterAt_26 ?_
        refine lv_goto (tgt := 31) hx hb dX4_letterAt_27 (by decide) ?_
        exact hret hP hS dX4_letterAt_31 rfl ⟨(if_pos hl1), rfl⟩

set_option maxHeartbeats 1000000 in
set_option maxRecDepth 100000 in
theorem c_X4_isFigure (l : Launch) (D : va_G) (cy : Nat → ClassId) (ad : Nat → Nat) (y z : Nat) (σ : Nat → Nat → Int32) (c : Int32)  : MI l D (tysW cy) 109 ad (cfX ad cy y z) yX4_isFigure wsX4_isFigure ({ frames := 0, cells := 0, slots := 0, locals := 0 }) σ [.int c] (fun v_ τ_ => (bi (isF c)) = v_ ∧ σ = τ_) := by
  refine MI.go (cc := cX4_isFigure) (maxL := 1) .boolean (by decide) rfl (Nat.le_of_ble_eq_true rfl) ?_
  intro p_ e_ s_ m_ args_ bl_ mt_ c_ A_ Q_ ls hx hb hml hown hts hK hA hD hP hS hl hret
  have hl : lv_has ls 1 [(0, .int c)] := hl
  refine lv_iload_n hx hb dX4_isFigure_0 rfl (lv_at hl 0 rfl) ?_
  refine lv_bipush (v := 48) hx hb dX4_isFigure_1 (by decide) ?_
  refine lv_icmp_lt (tgt := 16) hx hb dX4_isFigure_3 (by decide) (fun c3 => ?_) (fun c3 => ?_)
  · skip
    refine lv_iconst (v := 0) hx hb dX4_isFigure_16 (by decide) ?_
    exact hret hP hS dX4_isFigure_17 rfl ⟨(by first | exact bi_f (fun q => absurd q.1 (Int32.not_le.mpr c3)) | exact bi_f (fun q => absurd q.2 (Int32.not_le.mpr c9)) | exact bi_t ⟨Int32.not_lt.mp c3, Int32.not_lt.mp c9⟩), rfl⟩
  · skip
    refine lv_iload_n hx hb dX4_isFigure_6 rfl (lv_at hl 0 rfl) ?_
    refine lv_bipush (v := 57) hx hb dX4_isFigure_7 (by decide) ?_
    refine lv_icmp_gt (tgt := 16) hx hb dX4_isFigure_9 (by decide) (fun c9 => ?_) (fun c9 => ?_)
    · skip
      refine lv_iconst (v := 0) hx hb dX4_isFigure_16 (by decide) ?_
      exact hret hP hS dX4_isFigure_17 rfl ⟨(by first | exact bi_f (fun q => absurd q.1 (Int32.not_le.mpr c3)) | exact bi_f (fun q => absurd q.2 (Int32.not_le.mpr c9)) | exact bi_t ⟨Int32.not_lt.mp c3, Int32.not_lt.mp c9⟩), rfl⟩
    · skip
      refine lv_iconst (v := 1) hx hb dX4_isFigure_12 (by decide) ?_
      refine lv_goto (tgt := 17) hx hb dX4_isFigure_13 (by decide) ?_
      exact hret hP hS dX4_isFigure_17 rfl ⟨(by first | exact bi_f (fun q => absurd q.1 (Int32.not_le.mpr c3)) | exact bi_f (fun q => absurd q.2 (Int32.not_le.mpr c9)) | exact bi_t ⟨Int32.not_lt.mp c3, Int32.not_lt.mp c9⟩), rfl⟩

theorem in_X4_blame_X4 : ∀ w ∈ u_ws RX4 TX4 6, w ∈ wsX4_blame := by decide +kernel
set_option maxHeartbeats 1000000 in
set_option maxRecDepth 100000 in
theorem c_X4_blame (l : Launch) (D : va_G) (cy : Nat → ClassId) (ad : Nat → Nat) (y z : Nat) (σ : Nat → Nat → Int32) (v : Int32) (w : Int32)  : MV l D (tysW cy) 109 ad (cfX ad cy y z) yX4_blame wsX4_blame ({ frames := 0, cells := 0, slots := 0, locals := 0 }) σ [.ref (ad 1), .int v, .int w] (fun τ_ => (up2 (up2 σ 1 3 v) 1 2 w) = τ_) := by
  refine MV.go (cc := cX4_blame) (maxL := 3) (by decide) rfl (Nat.le_of_ble_eq_true rfl) ?_
  intro p_ e_ s_ m_ args_ bl_ mt_ c_ A_ Q_ ls hx hb hml hown hts hK hA hD hP hS hl hret
  have hl : lv_has ls 3 [(0, .ref (ad 1)), (1, .int v), (2, .int w)] := hl
  refine lv_aload_n hx hb dX4_blame_0 rfl (lv_at hl 0 rfl) ?_
  refine lv_iload_n hx hb dX4_blame_1 rfl (lv_at hl 1 rfl) ?_
  refine rp_put (C := RX4) (T := TX4) (N := 6) (v := v) hx hb hts in_X4_blame_X4 tyX4 tyX4_ok nmX4 hown hK hP hD hS 1 (by decide) (kX4 _) rfl 3 (by decide) (by decide +kernel) rfl rfl rfl (Nat.le_of_ble_eq_true rfl) (kX4 _) dX4_blame_2 (fun H locs hP hS => ?_)
  refine lv_aload_n hx hb dX4_blame_5 rfl (lv_at hl 0 rfl) ?_
  refine lv_iload_n hx hb dX4_blame_6 rfl (lv_at hl 2 rfl) ?_
  refine rp_put (C := RX4) (T := TX4) (N := 6) (v := w) hx hb hts in_X4_blame_X4 tyX4 tyX4_ok nmX4 hown hK hP hD hS 1 (by decide) (kX4 _) rfl 2 (by decide) (by decide +kernel) rfl rfl rfl (Nat.le_of_ble_eq_true rfl) (kX4 _) dX4_blame_7 (fun H locs hP hS => ?_)
  exact hret hP hS dX4_blame_10 rfl

theorem in_X4_skipBlanks_X4 : ∀ w ∈ u_ws RX4 TX4 6, w ∈ wsX4_skipBlanks := by decide +kernel
set_option maxHeartbeats 1000000 in
set_option maxRecDepth 100000 in
theorem c_X4_skipBlanks (l : Launch) (D : va_G) (cy : Nat → ClassId) (ad : Nat → Nat) (y z : Nat) (σ : Nat → Nat → Int32) (tx : Nat → Int32) (len : Nat) (a : Nat) (r_tx : σ 2 = tx) (hlen : len ≤ 240) (elen : σ 1 1 = nI len) (ha : a ≤ len) (ea : σ 1 4 = nI a) : MV l D (tysW cy) 109 ad (cfX ad cy y z) yX4_skipBlanks wsX4_skipBlanks ({ frames := 1, cells := 0, slots := 0, locals := 21 }) σ [.ref (ad 1)] (fun τ_ => (up2 σ 1 4 (nI (skB tx len a))) = τ_) := by
  refine MV.go (cc := cX4_skipBlanks) (maxL := 1) (by decide) rfl (Nat.le_of_ble_eq_true rfl) ?_
  intro p_ e_ s_ m_ args_ bl_ mt_ c_ A_ Q_ ls hx hb hml hown hts hK hA hD hP hS hl hret
  have hl : lv_has ls 1 [(0, .ref (ad 1))] := hl
  subst r_tx
  have hP : va_P D classes (rw_ 109 ad (cfX ad cy y z) (va_up σ 1 (σ 1))) s_.heap := by rw [va_selfR _ 1 (rfl)]; exact hP
  have L0 : ∀ (fu0 : Nat) (c : Nat), (c ≤ len) → (skB (σ 2) len c = skB (σ 2) len a) → len - c < fu0 → ∀ (τ : Nat → Nat → Int32) (H : Heap) (locs : List Loc) (ls : Array Slot), (va_up σ 1 (upd (σ 1) 4 (nI c))) = τ → va_P D classes (rw_ 109 ad (cfX ad cy y z) τ) H → va_S A_ s_.heap H locs → lv_has ls 1 [(0, .ref (ad 1))] → W p_ l e_ ({ frames := 1, cells := 0, slots := 0, locals := 21 }) s_ m_ args_ bl_ mt_ c_ H locs 0 0 Q_ (F0 m_ 0 ls []) := by
    intro fu0
    induction fu0 with
    | zero => intro c hc hF hf; exact absurd hf (Nat.not_lt_zero _)
    | succ fu0 ih0 =>
      intro c hc hF hf0  τ H locs ls  eτ hP hS hl
      subst eτ
      refine lv_aload_n hx hb dX4_skipBlanks_0 rfl (lv_at hl 0 rfl) ?_
      refine rp_get (C := RX4) (T := TX4) (N := 6) hx hb hts in_X4_skipBlanks_X4 hown hK hP 1 (by decide) (kX4 _) rfl 4 (by decide) (by decide +kernel) rfl dX4_skipBlanks_1 ?_
      rw [show (va_up σ 1 (upd (σ 1) 4 (nI c))) 1 4 = (nI c) from (va_S'.trans pk_us)]
      refine lv_aload_n hx hb dX4_skipBlanks_4 rfl (lv_at hl 0 rfl) ?_
      refine rp_get (C := RX4) (T := TX4) (N := 6) hx hb hts in_X4_skipBlanks_X4 hown hK hP 1 (by decide) (kX4 _) rfl 1 (by decide) (by decide +kernel) rfl dX4_skipBlanks_5 ?_
      rw [show (va_up σ 1 (upd (σ 1) 4 (nI c))) 1 1 = (σ 1 1) from (va_S'.trans (pk_un (by decide)))]
      rw [elen]
      refine lv_icmp_ge (tgt := 37) hx hb dX4_skipBlanks_8 (by decide) (fun c8 => ?_) (fun c8 => ?_)
      · skip
        have ec := cl_ex hc (by omega) c8
        exact hret hP hS dX4_skipBlanks_37 (by rw [← hF, skB_f (fun q => absurd q.1 (by omega))]; rfl)
      · skip
        have hc2 := cl_in (by omega) (by omega) c8
        refine lv_aload_n hx hb dX4_skipBlanks_11 rfl (lv_at hl 0 rfl) ?_
        refine lv_aload_n hx hb dX4_skipBlanks_12 rfl (lv_at hl 0 rfl) ?_
        refine rp_get (C := RX4) (T := TX4) (N := 6) hx hb hts in_X4_skipBlanks_X4 hown hK hP 1 (by decide) (kX4 _) rfl 4 (by decide) (by decide +kernel) rfl dX4_skipBlanks_13 ?_
        rw [show (va_up σ 1 (upd (σ 1) 4 (nI c))) 1 4 = (nI c) from (va_S'.trans pk_us)]
        refine rp_callVI (na := 1) hx hb hml hown hts hK hA hD hP hS hl.1 1 (by decide) (kX4 _) rfl [.int (nI c)] (c_X4_letterAt l D cy ad y z (va_up σ 1 (upd (σ 1) 4 (nI c))) (σ 2) len c (va_Q (by decide)) (by first | assumption | omega) ((va_S'.trans (pk_un (by decide))).trans elen) (by first | assumption | omega)) gX4_skipBlanks_X4_letterAt rfl (by decide +kernel) rfl ⟨Nat.le_of_ble_eq_true rfl, Nat.le_of_ble_eq_true rfl⟩ ⟨rfl, rfl⟩ ⟨Nat.zero_le _, Nat.zero_le _⟩ rfl (Nat.le_of_ble_eq_true rfl) dX4_skipBlanks_16 (fun v_ τ_ H locs hq hP hS => ?_)
        obtain ⟨rfl, rfl⟩ := hq
        refine lv_bipush (v := 32) hx hb dX4_skipBlanks_19 (by decide) ?_
        refine lv_icmp_ne (tgt := 37) hx hb dX4_skipBlanks_21 (by decide) (fun c21 => ?_) (fun c21 => ?_)
        · skip
          exact hret hP hS dX4_skipBlanks_37 (by rw [← hF, skB_f (fun q => c21 ((if_pos hc2).trans q.2))]; rfl)
        · skip
          refine lv_aload_n hx hb dX4_skipBlanks_24 rfl (lv_at hl 0 rfl) ?_
          refine lv_dup hx hb dX4_skipBlanks_25 rfl ?_
          refine rp_get (C := RX4) (T := TX4) (N := 6) hx hb hts in_X4_skipBlanks_X4 hown hK hP 1 (by decide) (kX4 _) rfl 4 (by decide) (by decide +kernel) rfl dX4_skipBlanks_26 ?_
          rw [show (va_up σ 1 (upd (σ 1) 4 (nI c))) 1 4 = (nI c) from (va_S'.trans pk_us)]
          refine lv_iconst (v := 1) hx hb dX4_skipBlanks_29 (by decide) ?_
          refine lv_iadd hx hb dX4_skipBlanks_30 ?_
          refine rp_put (C := RX4) (T := TX4) (N := 6) (v := ((nI c) + 1)) hx hb hts in_X4_skipBlanks_X4 tyX4 tyX4_ok nmX4 hown hK hP hD hS 1 (by decide) (kX4 _) rfl 4 (by decide) (by decide +kernel) rfl rfl rfl (Nat.le_of_ble_eq_true rfl) (kX4 _) dX4_skipBlanks_31 (fun H locs hP hS => ?_)
          rw [show up2 (va_up σ 1 (upd (σ 1) 4 (nI c))) 1 4 ((nI c) + 1) = va_up σ 1 (upd (upd (σ 1) 4 (nI c)) 4 ((nI c) + 1)) from (vu_up _ _ _ _ _)] at hP
          refine lv_goto (tgt := 0) hx hb dX4_skipBlanks_34 (by decide) ?_
          exact ih0 (c + 1) (by omega) (by rw [skB_t hc2 (lt_e hc2 c21)]; exact hF) (by omega) _ _ _ _ (by rw [upd_u, nI_1]) hP hS (lv_sub hl [0] rfl)
  exact L0 ((len - a) + 1) a ha rfl (Nat.lt_succ_self _) _ _ _ _ (by rw [upd_self _ _ ea]) hP hS (lv_sub hl [0] rfl)

theorem in_X4_clauseEnds_X4 : ∀ w ∈ u_ws RX4 TX4 6, w ∈ wsX4_clauseEnds := by decide +kernel
set_option maxHeartbeats 1000000 in
set_option maxRecDepth 100000 in
theorem c_X4_clauseEnds (l : Launch) (D : va_G) (cy : Nat → ClassId) (ad : Nat → Nat) (y z : Nat) (σ : Nat → Nat → Int32) (tx : Nat → Int32) (len : Nat) (a : Nat) (K : Int32) (P : Int32) (r_tx : σ 2 = tx) (hlen : len ≤ 240) (elen : σ 1 1 = nI len) (ha : a ≤ len) (ea : σ 1 4 = nI a) (eK : σ 1 3 = K) (eP : σ 1 2 = P) : MI l D (tysW cy) 109 ad (cfX ad cy y z) yX4_clauseEnds wsX4_clauseEnds ({ frames := 2, cells := 0, slots := 0, locals := 41 }) σ [.ref (ad 1)] (fun v_ τ_ => (ceR tx len a K) = v_ ∧ (up2 (up2 (up2 σ 1 4 (nI (ceA tx len a K))) 1 3 (ceK tx len a K)) 1 2 (ceP tx len a K P)) = τ_) := by
  refine MI.go (cc := cX4_clauseEnds) (maxL := 1) .boolean (by decide) rfl (Nat.le_of_ble_eq_true rfl) ?_
  intro p_ e_ s_ m_ args_ bl_ mt_ c_ A_ Q_ ls hx hb hml hown hts hK hA hD hP hS hl hret
  have hl : lv_has ls 1 [(0, .ref (ad 1))] := hl
  subst r_tx
  have hsk := skB_le (tx := σ 2) ha
  have hP : va_P D classes (rw_ 109 ad (cfX ad cy y z) (va_up σ 1 (σ 1))) s_.heap := by rw [va_selfR _ 1 (rfl)]; exact hP
  refine lv_aload_n hx hb dX4_clauseEnds_0 rfl (lv_at hl 0 rfl) ?_
  refine rp_get (C := RX4) (T := TX4) (N := 6) hx hb hts in_X4_clauseEnds_X4 hown hK hP 1 (by decide) (kX4 _) rfl 3 (by decide) (by decide +kernel) rfl dX4_clauseEnds_1 ?_
  rw [show (va_up σ 1 (σ 1)) 1 3 = (σ 1 3) from va_S']
  rw [eK]
  refine lv_if_eq (tgt := 9) hx hb dX4_clauseEnds_4 (by decide) (fun c4 => ?_) (fun c4 => ?_)
  · skip
    refine lv_aload_n hx hb dX4_clauseEnds_9 rfl (lv_at hl 0 rfl) ?_
    refine rp_callVV (na := 0) hx hb hml hown hts hK hA hD hP hS hl.1 1 (by decide) (kX4 _) rfl [] (c_X4_skipBlanks l D cy ad y z (va_up σ 1 (σ 1)) (σ 2) len a (va_Q (by decide)) (by first | assumption | omega) (va_S'.trans elen) (by first | assumption | omega) (va_S'.trans ea)) gX4_clauseEnds_X4_skipBlanks rfl (by decide +kernel) rfl ⟨Nat.le_of_ble_eq_true rfl, Nat.le_of_ble_eq_true rfl⟩ ⟨rfl, rfl⟩ ⟨Nat.zero_le _, Nat.zero_le _⟩ rfl (Nat.le_of_ble_eq_true rfl) dX4_clauseEnds_10 (fun τ_ H locs hq hP hS => ?_)
    subst hq
    rw [show up2 (va_up σ 1 (σ 1)) 1 4 (nI (skB (σ 2) len a)) = va_up σ 1 (upd (σ 1) 4 (nI (skB (σ 2) len a))) from (vu_up _ _ _ _ _)] at hP
    refine lv_aload_n hx hb dX4_clauseEnds_13 rfl (lv_at hl 0 rfl) ?_
    refine lv_aload_n hx hb dX4_clauseEnds_14 rfl (lv_at hl 0 rfl) ?_
    refine rp_get (C := RX4) (T := TX4) (N := 6) hx hb hts in_X4_clauseEnds_X4 hown hK hP 1 (by decide) (kX4 _) rfl 4 (by decide) (by decide +kernel) rfl dX4_clauseEnds_15 ?_
    rw [show (va_up σ 1 (upd (σ 1) 4 (nI (skB (σ 2) len a)))) 1 4 = (nI (skB (σ 2) len a)) from (va_S'.trans pk_us)]
    refine rp_callVI (na := 1) hx hb hml hown hts hK hA hD hP hS hl.1 1 (by decide) (kX4 _) rfl [.int (nI (skB (σ 2) len a))] (c_X4_letterAt l D cy ad y z (va_up σ 1 (upd (σ 1) 4 (nI (skB (σ 2) len a)))) (σ 2) len (skB (σ 2) len a) (va_Q (by decide)) (by first | assumption | omega) ((va_S'.trans (pk_un (by decide))).trans elen) (by omega)) gX4_clauseEnds_X4_letterAt rfl (by decide +kernel) rfl ⟨Nat.le_of_ble_eq_true rfl, Nat.le_of_ble_eq_true rfl⟩ ⟨rfl, rfl⟩ ⟨Nat.zero_le _, Nat.zero_le _⟩ rfl (Nat.le_of_ble_eq_true rfl) dX4_clauseEnds_18 (fun v_ τ_ H locs hq hP hS => ?_)
    obtain ⟨rfl, rfl⟩ := hq
    refine lv_bipush (v := 59) hx hb dX4_clauseEnds_21 (by decide) ?_
    refine lv_icmp_eq (tgt := 37) hx hb dX4_clauseEnds_23 (by decide) (fun c23 => ?_) (fun c23 => ?_)
    · skip
      refine lv_aload_n hx hb dX4_clauseEnds_37 rfl (lv_at hl 0 rfl) ?_
      refine lv_dup hx hb dX4_clauseEnds_38 rfl ?_
      refine rp_get (C := RX4) (T := TX4) (N := 6) hx hb hts in_X4_clauseEnds_X4 hown hK hP 1 (by decide) (kX4 _) rfl 4 (by decide) (by decide +kernel) rfl dX4_clauseEnds_39 ?_
      rw [show (va_up σ 1 (upd (σ 1) 4 (nI (skB (σ 2) len a)))) 1 4 = (nI (skB (σ 2) len a)) from (va_S'.trans pk_us)]
      refine lv_iconst (v := 1) hx hb dX4_clauseEnds_42 (by decide) ?_
      refine lv_iadd hx hb dX4_clauseEnds_43 ?_
      refine rp_put (C := RX4) (T := TX4) (N := 6) (v := ((nI (skB (σ 2) len a)) + 1)) hx hb hts in_X4_clauseEnds_X4 tyX4 tyX4_ok nmX4 hown hK hP hD hS 1 (by decide) (kX4 _) rfl 4 (by decide) (by decide +kernel) rfl rfl rfl (Nat.le_of_ble_eq_true rfl) (kX4 _) dX4_clauseEnds_44 (fun H locs hP hS => ?_)
      rw [show up2 (va_up σ 1 (upd (σ 1) 4 (nI (skB (σ 2) len a)))) 1 4 ((nI (skB (σ 2) len a)) + 1) = va_up σ 1 (upd (upd (σ 1) 4 (nI (skB (σ 2) len a))) 4 ((nI (skB (σ 2) len a)) + 1)) from (vu_up _ _ _ _ _)] at hP
      refine lv_iconst (v := 1) hx hb dX4_clauseEnds_47 (by decide) ?_
      exact hret hP hS dX4_clauseEnds_48 rfl ⟨((if_pos c4).trans (if_pos c23)), (ce_c c4 c23 eK eP)⟩
    · skip
      refine lv_aload_n hx hb dX4_clauseEnds_26 rfl (lv_at hl 0 rfl) ?_
      refine lv_iconst (v := 1) hx hb dX4_clauseEnds_27 (by decide) ?_
      refine lv_aload_n hx hb dX4_clauseEnds_28 rfl (lv_at hl 0 rfl) ?_
      refine rp_get (C := RX4) (T := TX4) (N := 6) hx hb hts in_X4_clauseEnds_X4 hown hK hP 1 (by decide) (kX4 _) rfl 4 (by decide) (by decide +kernel) rfl dX4_clauseEnds_29 ?_
      rw [show (va_up σ 1 (upd (σ 1) 4 (nI (skB (σ 2) len a)))) 1 4 = (nI (skB (σ 2) len a)) from (va_S'.trans pk_us)]
      refine rp_callVV (na := 2) hx hb hml hown hts hK hA hD hP hS hl.1 1 (by decide) (kX4 _) rfl [.int 1, .int (nI (skB (σ 2) len a))] (c_X4_blame l D cy ad y z (va_up σ 1 (upd (σ 1) 4 (nI (skB (σ 2) len a)))) 1 (nI (skB (σ 2) len a)) ) gX4_clauseEnds_X4_blame rfl (by decide +kernel) rfl ⟨Nat.le_of_ble_eq_true rfl, Nat.le_of_ble_eq_true rfl⟩ ⟨rfl, rfl⟩ ⟨Nat.zero_le _, Nat.zero_le _⟩ rfl (Nat.le_of_ble_eq_true rfl) dX4_clauseEnds_32 (fun τ_ H locs hq hP hS => ?_)
      subst hq
      rw [show up2 (va_up σ 1 (upd (σ 1) 4 (nI (skB (σ 2) len a)))) 1 3 1 = va_up σ 1 (upd (upd (σ 1) 4 (nI (skB (σ 2) len a))) 3 1) from (vu_up _ _ _ _ _)] at hP
      rw [show up2 (va_up σ 1 (upd (upd (σ 1) 4 (nI (skB (σ 2) len a))) 3 1)) 1 2 (nI (skB (σ 2) len a)) = va_up σ 1 (upd (upd (upd (σ 1) 4 (nI (skB (σ 2) len a))) 3 1) 2 (nI (skB (σ 2) len a))) from (vu_up _ _ _ _ _)] at hP
      refine lv_iconst (v := 0) hx hb dX4_clauseEnds_35 (by decide) ?_
      exact hret hP hS dX4_clauseEnds_36 rfl ⟨((if_pos c4).trans (if_neg c23)), (ce_b c4 c23 eK eP)⟩
  · skip
    refine lv_iconst (v := 0) hx hb dX4_clauseEnds_7 (by decide) ?_
    exact hret hP hS dX4_clauseEnds_8 rfl ⟨(if_neg c4), (ce_a c4 ea eK eP)⟩
