theorem in_X9_fails_X9 : ∀ w ∈ u_ws RX9 TX9 38, w ∈ wsX9_fails := by decide +kernel
set_option maxHeartbeats 1000000 in
set_option maxRecDepth 100000 in
theorem c_X9_fails (l : Launch) (D : va_G) (cy : Nat → ClassId) (ad : Nat → Nat) (σ : Nat → Nat → Int32) (v : Int32) (w : Int32)  : MI l D (tysW cy) 19 ad (cfM ad cy) yX9_fails wsX9_fails ({ frames := 0, cells := 0, slots := 0, locals := 0 }) σ [.ref (ad 0), .int v, .int w] (fun v_ τ_ => v = v_ ∧ (up2 σ 0 15 w) = τ_) := by
  refine MI.go (cc := cX9_fails) (maxL := 3) .int (by decide) rfl (Nat.le_of_ble_eq_true rfl) ?_
  intro p_ e_ s_ m_ args_ bl_ mt_ c_ A_ Q_ ls hx hb hml hown hts hK hA hD hP hS hl hret
  have hl : lv_has ls 3 [(0, .ref (ad 0)), (1, .int v), (2, .int w)] := hl
  refine lv_aload_n hx hb dX9_fails_0 rfl (lv_at hl 0 rfl) ?_
  refine lv_iload_n hx hb dX9_fails_1 rfl (lv_at hl 2 rfl) ?_
  refine rp_put (C := RX9) (T := TX9) (N := 38) (v := w) hx hb hts in_X9_fails_X9 tyX9 tyX9_ok nmX9 hown hK hP hD hS 0 (by decide) (kX9 _) rfl 15 (by decide) (by decide +kernel) rfl rfl rfl (Nat.le_of_ble_eq_true rfl) (kX9 _) dX9_fails_2 (fun H locs hP hS => ?_)
  refine lv_iload_n hx hb dX9_fails_5 rfl (lv_at hl 1 rfl) ?_
  exact hret hP hS dX9_fails_6 rfl ⟨rfl, rfl⟩

theorem in_X9_here_X9 : ∀ w ∈ u_ws RX9 TX9 38, w ∈ wsX9_here := by decide +kernel
set_option maxHeartbeats 1000000 in
set_option maxRecDepth 100000 in
theorem c_X9_here (l : Launch) (D : va_G) (cy : Nat → ClassId) (ad : Nat → Nat) (σ : Nat → Nat → Int32) (tx : Nat → Int32) (len : Nat) (a : Nat) (r_tx : σ 7 = tx) (hlen : len ≤ 240) (elen : σ 0 14 = nI len) (ha : a ≤ len) (ea : σ 0 16 = nI a) : MI l D (tysW cy) 19 ad (cfM ad cy) yX9_here wsX9_here ({ frames := 0, cells := 0, slots := 0, locals := 0 }) σ [.ref (ad 0)] (fun v_ τ_ => (ltr tx len (skB tx len a)) = v_ ∧ (up2 σ 0 16 (nI (skB tx len a))) = τ_) := by
  refine MI.go (cc := cX9_here) (maxL := 1) .int (by decide) rfl (Nat.le_of_ble_eq_true rfl) ?_
  intro p_ e_ s_ m_ args_ bl_ mt_ c_ A_ Q_ ls hx hb hml hown hts hK hA hD hP hS hl hret
  have hl : lv_has ls 1 [(0, .ref (ad 0))] := hl
  subst r_tx
  have hP : va_P D classes (rw_ 19 ad (cfM ad cy) (va_up σ 0 (σ 0))) s_.heap := by rw [va_selfR _ 0 (rfl)]; exact hP
  have L0 : ∀ (fu0 : Nat) (c : Nat), (c ≤ len) → (skB (σ 7) len c = skB (σ 7) len a) → len - c < fu0 → ∀ (τ : Nat → Nat → Int32) (H : Heap) (locs : List Loc) (ls : Array Slot), (va_up σ 0 (upd (σ 0) 16 (nI c))) = τ → va_P D classes (rw_ 19 ad (cfM ad cy) τ) H → va_S A_ s_.heap H locs → lv_has ls 1 [(0, .ref (ad 0))] → W p_ l e_ ({ frames := 0, cells := 0, slots := 0, locals := 0 }) s_ m_ args_ bl_ mt_ c_ H locs 0 0 Q_ (F0 m_ 0 ls []) := by
    intro fu0
    induction fu0 with
    | zero => intro c hc hF hf; exact absurd hf (Nat.not_lt_zero _)
    | succ fu0 ih0 =>
      intro c hc hF hf0  τ H locs ls  eτ hP hS hl
      subst eτ
      refine lv_aload_n hx hb dX9_here_0 rfl (lv_at hl 0 rfl) ?_
      refine rp_get (C := RX9) (T := TX9) (N := 38) hx hb hts in_X9_here_X9 hown hK hP 0 (by decide) (kX9 _) rfl 16 (by decide) (by decide +kernel) rfl dX9_here_1 ?_
      rw [show (va_up σ 0 (upd (σ 0) 16 (nI c))) 0 16 = (nI c) from (va_S'.trans pk_us)]
      refine lv_aload_n hx hb dX9_here_4 rfl (lv_at hl 0 rfl) ?_
      refine rp_get (C := RX9) (T := TX9) (N := 38) hx hb hts in_X9_here_X9 hown hK hP 0 (by decide) (kX9 _) rfl 14 (by decide) (by decide +kernel) rfl dX9_here_5 ?_
      rw [show (va_up σ 0 (upd (σ 0) 16 (nI c))) 0 14 = (σ 0 14) from (va_S'.trans (pk_un (by decide)))]
      rw [elen]
      refine lv_icmp_ge (tgt := 38) hx hb dX9_here_8 (by decide) (fun c8 => ?_) (fun c8 => ?_)
      · skip
        have ec := cl_ex hc (by omega) c8
        refine lv_aload_n hx hb dX9_here_38 rfl (lv_at hl 0 rfl) ?_
        refine rp_get (C := RX9) (T := TX9) (N := 38) hx hb hts in_X9_here_X9 hown hK hP 0 (by decide) (kX9 _) rfl 16 (by decide) (by decide +kernel) rfl dX9_here_39 ?_
        rw [show (va_up σ 0 (upd (σ 0) 16 (nI c))) 0 16 = (nI c) from (va_S'.trans pk_us)]
        refine lv_aload_n hx hb dX9_here_42 rfl (lv_at hl 0 rfl) ?_
        refine rp_get (C := RX9) (T := TX9) (N := 38) hx hb hts in_X9_here_X9 hown hK hP 0 (by decide) (kX9 _) rfl 14 (by decide) (by decide +kernel) rfl dX9_here_43 ?_
        rw [show (va_up σ 0 (upd (σ 0) 16 (nI c))) 0 14 = (σ 0 14) from (va_S'.trans (pk_un (by decide)))]
        rw [elen]
        refine lv_icmp_ge (tgt := 61) hx hb dX9_here_46 (by decide) (fun c46 => ?_) (fun c46 => ?_)
        · skip
          have hx2 : len ≤ c := (nI_leI (by omega) (by omega)).mp c46
          refine lv_iconst (v := (-1)) hx hb dX9_here_61 (by decide) ?_
          exact hret hP hS dX9_here_62 rfl ⟨(by rw [← hF, skB_f (fun q => absurd q.1 (by omega))]; exact if_neg (by omega)), (by rw [← hF, skB_f (fun q => absurd q.1 (by omega))]; rfl)⟩
        · skip
          exact absurd c8 c46
      · skip
        have hc2 := cl_in (by omega) (by omega) c8
        refine lv_aload_n hx hb dX9_here_11 rfl (lv_at hl 0 rfl) ?_
        refine rp_get (C := RX9) (T := TX9) (N := 38) hx hb hts in_X9_here_X9 hown hK hP 0 (by decide) (kX9 _) rfl 13 (by decide) (by decide +kernel) rfl dX9_here_12 ?_
        refine lv_aload_n hx hb dX9_here_15 rfl (lv_at hl 0 rfl) ?_
        refine rp_get (C := RX9) (T := TX9) (N := 38) hx hb hts in_X9_here_X9 hown hK hP 0 (by decide) (kX9 _) rfl 16 (by decide) (by decide +kernel) rfl dX9_here_16 ?_
        rw [show (va_up σ 0 (upd (σ 0) 16 (nI c))) 0 16 = (nI c) from (va_S'.trans pk_us)]
        refine rp_iald hx hb hK hP 7 (by decide) (kX9_13 _) 0 rfl c rfl (by omega) (by decide) dX9_here_19 ?_
        rw [show (va_up σ 0 (upd (σ 0) 16 (nI c))) 7 c = (σ 7 c) from (va_R (by decide))]
        refine lv_bipush (v := 32) hx hb dX9_here_20 (by decide) ?_
        refine lv_icmp_ne (tgt := 38) hx hb dX9_here_22 (by decide) (fun c22 => ?_) (fun c22 => ?_)
        · skip
          refine lv_aload_n hx hb dX9_here_38 rfl (lv_at hl 0 rfl) ?_
          refine rp_get (C := RX9) (T := TX9) (N := 38) hx hb hts in_X9_here_X9 hown hK hP 0 (by decide) (kX9 _) rfl 16 (by decide) (by decide +kernel) rfl dX9_here_39 ?_
          rw [show (va_up σ 0 (upd (σ 0) 16 (nI c))) 0 16 = (nI c) from (va_S'.trans pk_us)]
          refine lv_aload_n hx hb dX9_here_42 rfl (lv_at hl 0 rfl) ?_
          refine rp_get (C := RX9) (T := TX9) (N := 38) hx hb hts in_X9_here_X9 hown hK hP 0 (by decide) (kX9 _) rfl 14 (by decide) (by decide +kernel) rfl dX9_here_43 ?_
          rw [show (va_up σ 0 (upd (σ 0) 16 (nI c))) 0 14 = (σ 0 14) from (va_S'.trans (pk_un (by decide)))]
          rw [elen]
          refine lv_icmp_ge (tgt := 61) hx hb dX9_here_46 (by decide) (fun c46 => ?_) (fun c46 => ?_)
          · skip
            exact absurd c46 c8
          · skip
            have hx2 : c < len := cl_in (by omega) (by omega) c46
            refine lv_aload_n hx hb dX9_here_49 rfl (lv_at hl 0 rfl) ?_
            refine rp_get (C := RX9) (T := TX9) (N := 38) hx hb hts in_X9_here_X9 hown hK hP 0 (by decide) (kX9 _) rfl 13 (by decide) (by decide +kernel) rfl dX9_here_50 ?_
            refine lv_aload_n hx hb dX9_here_53 rfl (lv_at hl 0 rfl) ?_
            refine rp_get (C := RX9) (T := TX9) (N := 38) hx hb hts in_X9_here_X9 hown hK hP 0 (by decide) (kX9 _) rfl 16 (by decide) (by decide +kernel) rfl dX9_here_54 ?_
            rw [show (va_up σ 0 (upd (σ 0) 16 (nI c))) 0 16 = (nI c) from (va_S'.trans pk_us)]
            refine rp_iald hx hb hK hP 7 (by decide) (kX9_13 _) 0 rfl c rfl (by omega) (by decide) dX9_here_57 ?_
            rw [show (va_up σ 0 (upd (σ 0) 16 (nI c))) 7 c = (σ 7 c) from (va_R (by decide))]
            refine lv_goto (tgt := 62) hx hb dX9_here_58 (by decide) ?_
            exact hret hP hS dX9_here_62 rfl ⟨(by rw [← hF, skB_f (fun q => c22 q.2)]; exact if_pos hx2), (by rw [← hF, skB_f (fun q => c22 q.2)]; rfl)⟩
        · skip
          refine lv_aload_n hx hb dX9_here_25 rfl (lv_at hl 0 rfl) ?_
          refine lv_dup hx hb dX9_here_26 rfl ?_
          refine rp_get (C := RX9) (T := TX9) (N := 38) hx hb hts in_X9_here_X9 hown hK hP 0 (by decide) (kX9 _) rfl 16 (by decide) (by decide +kernel) rfl dX9_here_27 ?_
          rw [show (va_up σ 0 (upd (σ 0) 16 (nI c))) 0 16 = (nI c) from (va_S'.trans pk_us)]
          refine lv_iconst (v := 1) hx hb dX9_here_30 (by decide) ?_
          refine lv_iadd hx hb dX9_here_31 ?_
          refine rp_put (C := RX9) (T := TX9) (N := 38) (v := ((nI c) + 1)) hx hb hts in_X9_here_X9 tyX9 tyX9_ok nmX9 hown hK hP hD hS 0 (by decide) (kX9 _) rfl 16 (by decide) (by decide +kernel) rfl rfl rfl (Nat.le_of_ble_eq_true rfl) (kX9 _) dX9_here_32 (fun H locs hP hS => ?_)
          rw [show up2 (va_up σ 0 (upd (σ 0) 16 (nI c))) 0 16 ((nI c) + 1) = va_up σ 0 (upd (upd (σ 0) 16 (nI c)) 16 ((nI c) + 1)) from (vu_up _ _ _ _ _)] at hP
          refine lv_goto (tgt := 0) hx hb dX9_here_35 (by decide) ?_
          exact ih0 (c + 1) (by omega) (by rw [skB_t hc2 c22]; exact hF) (by omega) _ _ _ _ (by rw [upd_u, nI_1]) hP hS (lv_sub hl [0] rfl)
  exact L0 ((len - a) + 1) a ha rfl (Nat.lt_succ_self _) _ _ _ _ (by rw [upd_self _ _ ea]) hP hS (lv_sub hl [0] rfl)

theorem in_X9_takeNumber_X9 : ∀ w ∈ u_ws RX9 TX9 38, w ∈ wsX9_takeNumber := by decide +kernel
set_option maxHeartbeats 1000000 in
set_option maxRecDepth 100000 in
theorem c_X9_takeNumber (l : Launch) (D : va_G) (cy : Nat → ClassId) (ad : Nat → Nat) (σ : Nat → Nat → Int32) (tx : Nat → Int32) (len : Nat) (a : Nat) (na : Int32) (nu : Int32) (P : Int32) (lo : Int32) (hi : Int32) (r_tx : σ 7 = tx) (hlen : len ≤ 240) (elen : σ 0 14 = nI len) (ha : a ≤ len) (ea : σ 0 16 = nI a) (ena : σ 0 18 = na) (enu : σ 0 17 = nu) (eP : σ 0 15 = P) : MI l D (tysW cy) 19 ad (cfM ad cy) yX9_takeNumber wsX9_takeNumber ({ frames := 1, cells := 0, slots := 0, locals := 25 }) σ [.ref (ad 0), .int lo, .int hi] (fun v_ τ_ => (rnF tx len a lo hi) = v_ ∧ (up2 (up2 (up2 (up2 σ 0 16 (nI (edD tx len (skB tx len a)))) 0 18 (mnN tx len a na)) 0 17 (mnV tx len a nu)) 0 15 (mnP tx len a P lo hi)) = τ_) := by
  refine MI.go (cc := cX9_takeNumber) (maxL := 4) .int (by decide) rfl (Nat.le_of_ble_eq_true rfl) ?_
  intro p_ e_ s_ m_ args_ bl_ mt_ c_ A_ Q_ ls hx hb hml hown hts hK hA hD hP hS hl hret
  have hl : lv_has ls 4 [(0, .ref (ad 0)), (1, .int lo), (2, .int hi)] := hl
  subst r_tx
  have hsk := skB_le (tx := σ 7) ha
  have hed := edD_le (tx := σ 7) hsk.2
  have hP : va_P D classes (rw_ 19 ad (cfM ad cy) (va_up σ 0 (σ 0))) s_.heap := by rw [va_selfR _ 0 (rfl)]; exact hP
  refine lv_aload_n hx hb dX9_takeNumber_0 rfl (lv_at hl 0 rfl) ?_
  refine rp_callVI (na := 0) hx hb hml hown hts hK hA hD hP hS hl.1 0 (by decide) (kX9 _) rfl [] (c_X9_here l D cy ad (va_up σ 0 (σ 0)) (σ 7) len a (va_Q (by decide)) (by first | assumption | omega) (va_S'.trans elen) (by first | assumption | omega) (va_S'.trans ea)) gX9_takeNumber_X9_here rfl (by decide +kernel) rfl ⟨Nat.le_of_ble_eq_true rfl, Nat.le_of_ble_eq_true rfl⟩ ⟨rfl, rfl⟩ ⟨Nat.zero_le _, Nat.zero_le _⟩ rfl (Nat.le_of_ble_eq_true rfl) dX9_takeNumber_1 (fun v_ τ_ H locs hq hP hS => ?_)
  obtain ⟨rfl, rfl⟩ := hq
  rw [show up2 (va_up σ 0 (σ 0)) 0 16 (nI (skB (σ 7) len a)) = va_up σ 0 (upd (σ 0) 16 (nI (skB (σ 7) len a))) from (vu_up _ _ _ _ _)] at hP
  refine lv_istore_n (lv' := [(3, .int (ltr (σ 7) len (skB (σ 7) len a))), (0, .ref (ad 0)), (1, .int lo), (2, .int hi)]) hx hb dX9_takeNumber_4 rfl hl (by decide) rfl (fun ls hl => ?_)
  refine lv_iload_n hx hb dX9_takeNumber_5 rfl (lv_at hl 0 rfl) ?_
  refine lv_i2l (v := ((ltr (σ 7) len (skB (σ 7) len a))).toInt64) hx hb dX9_takeNumber_6 rfl ?_
  refine lv_ldc2 (v := 48) hx hb hown (hts (.constantLong RX9 97 (48)) (by decide +kernel)) dX9_takeNumber_7 ?_
  refine lv_ldc2 (v := 57) hx hb hown (hts (.constantLong RX9 99 (57)) (by decide +kernel)) dX9_takeNumber_10 ?_
  refine rp_callSI (na := 3) hx hb hml hown hts hK hA hD hP hS hl.1 [.long ((ltr (σ 7) len (skB (σ 7) len a))).toInt64, .long 48, .long 57] (c_X9_in l D cy ad (va_up σ 0 (upd (σ 0) 16 (nI (skB (σ 7) len a)))) (((ltr (σ 7) len (skB (σ 7) len a))).toInt64) 48 57 ) gX9_takeNumber_X9_in rfl (by decide +kernel) rfl ⟨Nat.le_of_ble_eq_true rfl, Nat.le_of_ble_eq_true rfl⟩ ⟨rfl, rfl⟩ ⟨Nat.zero_le _, Nat.zero_le _⟩ rfl (Nat.le_of_ble_eq_true rfl) dX9_takeNumber_13 (fun v_ τ_ H locs hq hP hS => ?_)
  obtain ⟨rfl, rfl⟩ := hq
  rw [in_48_57]
  refine lv_if_ne (tgt := 29) hx hb dX9_takeNumber_16 (by decide) (fun c16 => ?_) (fun c16 => ?_)
  · skip
    have c16 := bi_ne0.mp c16
    have h1 : (skB (σ 7) len a) < len := lt_in c16
    have hfg : isF (σ 7 (skB (σ 7) len a)) := lt_F h1 c16
    have hp1 := edD_pos h1 hfg
    refine lv_aload_n hx hb dX9_takeNumber_29 rfl (lv_at hl 1 rfl) ?_
    refine lv_aload_n hx hb dX9_takeNumber_30 rfl (lv_at hl 1 rfl) ?_
    refine rp_get (C := RX9) (T := TX9) (N := 38) hx hb hts in_X9_takeNumber_X9 hown hK hP 0 (by decide) (kX9 _) rfl 16 (by decide) (by decide +kernel) rfl dX9_takeNumber_31 ?_
    rw [show (va_up σ 0 (upd (σ 0) 16 (nI (skB (σ 7) len a)))) 0 16 = (nI (skB (σ 7) len a)) from (va_S'.trans pk_us)]
    refine rp_put (C := RX9) (T := TX9) (N := 38) (v := (nI (skB (σ 7) len a))) hx hb hts in_X9_takeNumber_X9 tyX9 tyX9_ok nmX9 hown hK hP hD hS 0 (by decide) (kX9 _) rfl 18 (by decide) (by decide +kernel) rfl rfl rfl (Nat.le_of_ble_eq_true rfl) (kX9 _) dX9_takeNumber_34 (fun H locs hP hS => ?_)
    rw [show up2 (va_up σ 0 (upd (σ 0) 16 (nI (skB (σ 7) len a)))) 0 18 (nI (skB (σ 7) len a)) = va_up σ 0 (upd (upd (σ 0) 16 (nI (skB (σ 7) len a))) 18 (nI (skB (σ 7) len a))) from (vu_up _ _ _ _ _)] at hP
    refine lv_aload_n hx hb dX9_takeNumber_37 rfl (lv_at hl 1 rfl) ?_
    refine lv_iconst (v := 0) hx hb dX9_takeNumber_38 (by decide) ?_
    refine rp_put (C := RX9) (T := TX9) (N := 38) (v := 0) hx hb hts in_X9_takeNumber_X9 tyX9 tyX9_ok nmX9 hown hK hP hD hS 0 (by decide) (kX9 _) rfl 17 (by decide) (by decide +kernel) rfl rfl rfl (Nat.le_of_ble_eq_true rfl) (kX9 _) dX9_takeNumber_39 (fun H locs hP hS => ?_)
    rw [show up2 (va_up σ 0 (upd (upd (σ 0) 16 (nI (skB (σ 7) len a))) 18 (nI (skB (σ 7) len a)))) 0 17 0 = va_up σ 0 (upd (upd (upd (σ 0) 16 (nI (skB (σ 7) len a))) 18 (nI (skB (σ 7) len a))) 17 0) from (vu_up _ _ _ _ _)] at hP
    have L42 : ∀ (fu42 : Nat) (d : Nat), ((skB (σ 7) len a) + d ≤ len) → (edD (σ 7) len ((skB (σ 7) len a) + d) = (edD (σ 7) len (skB (σ 7) len a))) → len - ((skB (σ 7) len a) + d) < fu42 → ∀ (τ : Nat → Nat → Int32) (H : Heap) (locs : List Loc) (ls : Array Slot), (va_up σ 0 (upd (upd (upd (σ 0) 18 (nI (skB (σ 7) len a))) 17 (vM (σ 7) (skB (σ 7) len a) d)) 16 (nI ((skB (σ 7) len a) + d)))) = τ → va_P D classes (rw_ 19 ad (cfM ad cy) τ) H → va_S A_ s_.heap H locs → lv_has ls 4 [(3, .int (ltr (σ 7) len (skB (σ 7) len a))), (0, .ref (ad 0)), (1, .int lo), (2, .int hi)] → W p_ l e_ ({ frames := 1, cells := 0, slots := 0, locals := 25 }) s_ m_ args_ bl_ mt_ c_ H locs 0 0 Q_ (F0 m_ 42 ls []) := by
      intro fu42
      induction fu42 with
      | zero => intro d hd hF hf; exact absurd hf (Nat.not_lt_zero _)
      | succ fu42 ih42 =>
        intro d hd hF hf42  τ H locs ls  eτ hP hS hl
        subst eτ
        refine lv_aload_n hx hb dX9_takeNumber_42 rfl (lv_at hl 1 rfl) ?_
        refine rp_get (C := RX9) (T := TX9) (N := 38) hx hb hts in_X9_takeNumber_X9 hown hK hP 0 (by decide) (kX9 _) rfl 16 (by decide) (by decide +kernel) rfl dX9_takeNumber_43 ?_
        rw [show (va_up σ 0 (upd (upd (upd (σ 0) 18 (nI (skB (σ 7) len a))) 17 (vM (σ 7) (skB (σ 7) len a) d)) 16 (nI ((skB (σ 7) len a) + d)))) 0 16 = (nI ((skB (σ 7) len a) + d)) from (va_S'.trans pk_us)]
        refine lv_aload_n hx hb dX9_takeNumber_46 rfl (lv_at hl 1 rfl) ?_
        refine rp_get (C := RX9) (T := TX9) (N := 38) hx hb hts in_X9_takeNumber_X9 hown hK hP 0 (by decide) (kX9 _) rfl 14 (by decide) (by decide +kernel) rfl dX9_takeNumber_47 ?_
        rw [show (va_up σ 0 (upd (upd (upd (σ 0) 18 (nI (skB (σ 7) len a))) 17 (vM (σ 7) (skB (σ 7) len a) d)) 16 (nI ((skB (σ 7) len a) + d)))) 0 14 = (σ 0 14) from (va_S'.trans ((pk_un (by decide)).trans ((pk_un (by decide)).trans (pk_un (by decide)))))]
        rw [elen]
        refine lv_icmp_ge (tgt := 129) hx hb dX9_takeNumber_50 (by decide) (fun c50 => ?_) (fun c50 => ?_)
        · skip
          have hd2 : len ≤ (skB (σ 7) len a) + d := (nI_leI (by omega) (by omega)).mp c50
          have ed : d = ((edD (σ 7) len (skB (σ 7) len a)) - (skB (σ 7) len a)) := by rw [← hF, edD_f (fun q => absurd q.1 (by omega))]; omega
          refine lv_aload_n hx hb dX9_takeNumber_129 rfl (lv_at hl 1 rfl) ?_
          refine rp_get (C := RX9) (T := TX9) (N := 38) hx hb hts in_X9_takeNumber_X9 hown hK hP 0 (by decide) (kX9 _) rfl 16 (by decide) (by decide +kernel) rfl dX9_takeNumber_130 ?_
          rw [show (va_up σ 0 (upd (upd (upd (σ 0) 18 (nI (skB (σ 7) len a))) 17 (vM (σ 7) (skB (σ 7) len a) d)) 16 (nI ((skB (σ 7) len a) + d)))) 0 16 = (nI ((skB (σ 7) len a) + d)) from (va_S'.trans pk_us)]
          refine lv_aload_n hx hb dX9_takeNumber_133 rfl (lv_at hl 1 rfl) ?_
          refine rp_get (C := RX9) (T := TX9) (N := 38) hx hb hts in_X9_takeNumber_X9 hown hK hP 0 (by decide) (kX9 _) rfl 18 (by decide) (by decide +kernel) rfl dX9_takeNumber_134 ?_
          rw [show (va_up σ 0 (upd (upd (upd (σ 0) 18 (nI (skB (σ 7) len a))) 17 (vM (σ 7) (skB (σ 7) len a) d)) 16 (nI ((skB (σ 7) len a) + d)))) 0 18 = (nI (skB (σ 7) len a)) from (va_S'.trans ((pk_un (by decide)).trans ((pk_un (by decide)).trans pk_us)))]
          refine lv_isub hx hb dX9_takeNumber_137 ?_
          rw [nI_sba]
          refine lv_iconst (v := 3) hx hb dX9_takeNumber_138 (by decide) ?_
          refine lv_icmp_gt (tgt := 157) hx hb dX9_takeNumber_139 (by decide) (fun c139 => ?_) (fun c139 => ?_)
          · skip
            have h4 : 3 < d := (nI_ltI (a := 3) (by decide) (by omega)).mp c139
            refine lv_aload_n hx hb dX9_takeNumber_157 rfl (lv_at hl 1 rfl) ?_
            refine lv_iconst (v := 2) hx hb dX9_takeNumber_158 (by decide) ?_
            refine lv_aload_n hx hb dX9_takeNumber_159 rfl (lv_at hl 1 rfl) ?_
            refine rp_get (C := RX9) (T := TX9) (N := 38) hx hb hts in_X9_takeNumber_X9 hown hK hP 0 (by decide) (kX9 _) rfl 18 (by decide) (by decide +kernel) rfl dX9_takeNumber_160 ?_
            rw [show (va_up σ 0 (upd (upd (upd (σ 0) 18 (nI (skB (σ 7) len a))) 17 (vM (σ 7) (skB (σ 7) len a) d)) 16 (nI ((skB (σ 7) len a) + d)))) 0 18 = (nI (skB (σ 7) len a)) from (va_S'.trans ((pk_un (by decide)).trans ((pk_un (by decide)).trans pk_us)))]
            refine rp_callVI (na := 2) hx hb hml hown hts hK hA hD hP hS hl.1 0 (by decide) (kX9 _) rfl [.int 2, .int (nI (skB (σ 7) len a))] (c_X9_fails l D cy ad (va_up σ 0 (upd (upd (upd (σ 0) 18 (nI (skB (σ 7) len a))) 17 (vM (σ 7) (skB (σ 7) len a) d)) 16 (nI ((skB (σ 7) len a) + d)))) 2 (nI (skB (σ 7) len a)) ) gX9_takeNumber_X9_fails rfl (by decide +kernel) rfl ⟨Nat.le_of_ble_eq_true rfl, Nat.le_of_ble_eq_true rfl⟩ ⟨rfl, rfl⟩ ⟨Nat.zero_le _, Nat.zero_le _⟩ rfl (Nat.le_of_ble_eq_true rfl) dX9_takeNumber_163 (fun v_ τ_ H locs hq hP hS => ?_)
            obtain ⟨rfl, rfl⟩ := hq
            rw [show up2 (va_up σ 0 (upd (upd (upd (σ 0) 18 (nI (skB (σ 7) len a))) 17 (vM (σ 7) (skB (σ 7) len a) d)) 16 (nI ((skB (σ 7) len a) + d)))) 0 15 (nI (skB (σ 7) len a)) = va_up σ 0 (upd (upd (upd (upd (σ 0) 18 (nI (skB (σ 7) len a))) 17 (vM (σ 7) (skB (σ 7) len a) d)) 16 (nI ((skB (σ 7) len a) + d))) 15 (nI (skB (σ 7) len a))) from (vu_up _ _ _ _ _)] at hP
            refine lv_goto (tgt := 170) hx hb dX9_takeNumber_166 (by decide) ?_
            exact hret hP hS dX9_takeNumber_170 rfl ⟨(rnF_2 (by omega) (by omega)), (mt_2 (rnF_2 (by omega) (by omega)) c16 (by omega))⟩
          · skip
            have h4 : d ≤ 3 := cl_ngt (n := 3) (by omega) (by decide) c139
            have hvx := vM_of h4 (show (skB (σ 7) len a) + d = (edD (σ 7) len (skB (σ 7) len a)) by omega)
            rw [ed] at hvx
            refine lv_aload_n hx hb dX9_takeNumber_142 rfl (lv_at hl 1 rfl) ?_
            refine rp_get (C := RX9) (T := TX9) (N := 38) hx hb hts in_X9_takeNumber_X9 hown hK hP 0 (by decide) (kX9 _) rfl 17 (by decide) (by decide +kernel) rfl dX9_takeNumber_143 ?_
            rw [show (va_up σ 0 (upd (upd (upd (σ 0) 18 (nI (skB (σ 7) len a))) 17 (vM (σ 7) (skB (σ 7) len a) d)) 16 (nI ((skB (σ 7) len a) + d)))) 0 17 = (vM (σ 7) (skB (σ 7) len a) d) from (va_S'.trans ((pk_un (by decide)).trans pk_us))]
            refine lv_i2l (v := ((vM (σ 7) (skB (σ 7) len a) d)).toInt64) hx hb dX9_takeNumber_146 rfl ?_
            refine lv_iload_n hx hb dX9_takeNumber_147 rfl (lv_at hl 2 rfl) ?_
            refine lv_i2l (v := (lo).toInt64) hx hb dX9_takeNumber_148 rfl ?_
            refine lv_iload_n hx hb dX9_takeNumber_149 rfl (lv_at hl 3 rfl) ?_
            refine lv_i2l (v := (hi).toInt64) hx hb dX9_takeNumber_150 rfl ?_
            refine rp_callSI (na := 3) hx hb hml hown hts hK hA hD hP hS hl.1 [.long ((vM (σ 7) (skB (σ 7) len a) d)).toInt64, .long (lo).toInt64, .long (hi).toInt64] (c_X9_in l D cy ad (va_up σ 0 (upd (upd (upd (σ 0) 18 (nI (skB (σ 7) len a))) 17 (vM (σ 7) (skB (σ 7) len a) d)) 16 (nI ((skB (σ 7) len a) + d)))) (((vM (σ 7) (skB (σ 7) len a) d)).toInt64) ((lo).toInt64) ((hi).toInt64) ) gX9_takeNumber_X9_in rfl (by decide +kernel) rfl ⟨Nat.le_of_ble_eq_true rfl, Nat.le_of_ble_eq_true rfl⟩ ⟨rfl, rfl⟩ ⟨Nat.zero_le _, Nat.zero_le _⟩ rfl (Nat.le_of_ble_eq_true rfl) dX9_takeNumber_151 (fun v_ τ_ H locs hq hP hS => ?_)
            obtain ⟨rfl, rfl⟩ := hq
            rw [in_lh]
            refine lv_if_ne (tgt := 169) hx hb dX9_takeNumber_154 (by decide) (fun c154 => ?_) (fun c154 => ?_)
            · skip
              have c154 := bi_ne0.mp c154
              refine lv_iconst (v := 0) hx hb dX9_takeNumber_169 (by decide) ?_
              exact hret hP hS dX9_takeNumber_170 rfl ⟨(mrF_0 (by omega) (by omega) hvx (by rw [← ed]; exact c154)), (mt_0 (mrF_0 (by omega) (by omega) hvx (by rw [← ed]; exact c154)) c16 (by omega) eP)⟩
            · skip
              have c154 := bi_eq0.mp c154
              refine lv_aload_n hx hb dX9_takeNumber_157 rfl (lv_at hl 1 rfl) ?_
              refine lv_iconst (v := 2) hx hb dX9_takeNumber_158 (by decide) ?_
              refine lv_aload_n hx hb dX9_takeNumber_159 rfl (lv_at hl 1 rfl) ?_
              refine rp_get (C := RX9) (T := TX9) (N := 38) hx hb hts in_X9_takeNumber_X9 hown hK hP 0 (by decide) (kX9 _) rfl 18 (by decide) (by decide +kernel) rfl dX9_takeNumber_160 ?_
              rw [show (va_up σ 0 (upd (upd (upd (σ 0) 18 (nI (skB (σ 7) len a))) 17 (vM (σ 7) (skB (σ 7) len a) d)) 16 (nI ((skB (σ 7) len a) + d)))) 0 18 = (nI (skB (σ 7) len a)) from (va_S'.trans ((pk_un (by decide)).trans ((pk_un (by decide)).trans pk_us)))]
              refine rp_callVI (na := 2) hx hb hml hown hts hK hA hD hP hS hl.1 0 (by decide) (kX9 _) rfl [.int 2, .int (nI (skB (σ 7) len a))] (c_X9_fails l D cy ad (va_up σ 0 (upd (upd (upd (σ 0) 18 (nI (skB (σ 7) len a))) 17 (vM (σ 7) (skB (σ 7) len a) d)) 16 (nI ((skB (σ 7) len a) + d)))) 2 (nI (skB (σ 7) len a)) ) gX9_takeNumber_X9_fails rfl (by decide +kernel) rfl ⟨Nat.le_of_ble_eq_true rfl, Nat.le_of_ble_eq_true rfl⟩ ⟨rfl, rfl⟩ ⟨Nat.zero_le _, Nat.zero_le _⟩ rfl (Nat.le_of_ble_eq_true rfl) dX9_takeNumber_163 (fun v_ τ_ H locs hq hP hS => ?_)
              obtain ⟨rfl, rfl⟩ := hq
              rw [show up2 (va_up σ 0 (upd (upd (upd (σ 0) 18 (nI (skB (σ 7) len a))) 17 (vM (σ 7) (skB (σ 7) len a) d)) 16 (nI ((skB (σ 7) len a) + d)))) 0 15 (nI (skB (σ 7) len a)) = va_up σ 0 (upd (upd (upd (upd (σ 0) 18 (nI (skB (σ 7) len a))) 17 (vM (σ 7) (skB (σ 7) len a) d)) 16 (nI ((skB (σ 7) len a) + d))) 15 (nI (skB (σ 7) len a))) from (vu_up _ _ _ _ _)] at hP
              refine lv_goto (tgt := 170) hx hb dX9_takeNumber_166 (by decide) ?_
              exact hret hP hS dX9_takeNumber_170 rfl ⟨(mrF_n (by omega) (by omega) hvx (by rw [← ed]; exact c154)), (mt_2 (mrF_n (by omega) (by omega) hvx (by rw [← ed]; exact c154)) c16 (by omega))⟩
        · skip
          have hd2 : (skB (σ 7) len a) + d < len := cl_in (by omega) (by omega) c50
          refine lv_aload_n hx hb dX9_takeNumber_53 rfl (lv_at hl 1 rfl) ?_
          refine rp_get (C := RX9) (T := TX9) (N := 38) hx hb hts in_X9_takeNumber_X9 hown hK hP 0 (by decide) (kX9 _) rfl 13 (by decide) (by decide +kernel) rfl dX9_takeNumber_54 ?_
          refine lv_aload_n hx hb dX9_takeNumber_57 rfl (lv_at hl 1 rfl) ?_
          refine rp_get (C := RX9) (T := TX9) (N := 38) hx hb hts in_X9_takeNumber_X9 hown hK hP 0 (by decide) (kX9 _) rfl 16 (by decide) (by decide +kernel) rfl dX9_takeNumber_58 ?_
          rw [show (va_up σ 0 (upd (upd (upd (σ 0) 18 (nI (skB (σ 7) len a))) 17 (vM (σ 7) (skB (σ 7) len a) d)) 16 (nI ((skB (σ 7) len a) + d)))) 0 16 = (nI ((skB (σ 7) len a) + d)) from (va_S'.trans pk_us)]
          refine rp_iald hx hb hK hP 7 (by decide) (kX9_13 _) 0 rfl ((skB (σ 7) len a) + d) rfl (by omega) (by decide) dX9_takeNumber_61 ?_
          rw [show (va_up σ 0 (upd (upd (upd (σ 0) 18 (nI (skB (σ 7) len a))) 17 (vM (σ 7) (skB (σ 7) len a) d)) 16 (nI ((skB (σ 7) len a) + d)))) 7 ((skB (σ 7) len a) + d) = (σ 7 ((skB (σ 7) len a) + d)) from (va_R (by decide))]
          refine lv_i2l (v := ((σ 7 ((skB (σ 7) len a) + d))).toInt64) hx hb dX9_takeNumber_62 rfl ?_
          refine lv_ldc2 (v := 48) hx hb hown (hts (.constantLong RX9 97 (48)) (by decide +kernel)) dX9_takeNumber_63 ?_
          refine lv_ldc2 (v := 57) hx hb hown (hts (.constantLong RX9 99 (57)) (by decide +kernel)) dX9_takeNumber_66 ?_
          refine rp_callSI (na := 3) hx hb hml hown hts hK hA hD hP hS hl.1 [.long ((σ 7 ((skB (σ 7) len a) + d))).toInt64, .long 48, .long 57] (c_X9_in l D cy ad (va_up σ 0 (upd (upd (upd (σ 0) 18 (nI (skB (σ 7) len a))) 17 (vM (σ 7) (skB (σ 7) len a) d)) 16 (nI ((skB (σ 7) len a) + d)))) (((σ 7 ((skB (σ 7) len a) + d))).toInt64) 48 57 ) gX9_takeNumber_X9_in rfl (by decide +kernel) rfl ⟨Nat.le_of_ble_eq_true rfl, Nat.le_of_ble_eq_true rfl⟩ ⟨rfl, rfl⟩ ⟨Nat.zero_le _, Nat.zero_le _⟩ rfl (Nat.le_of_ble_eq_true rfl) dX9_takeNumber_69 (fun v_ τ_ H locs hq hP hS => ?_)
          obtain ⟨rfl, rfl⟩ := hq
          rw [in_48_57]
          refine lv_if_eq (tgt := 129) hx hb dX9_takeNumber_72 (by decide) (fun c72 => ?_) (fun c72 => ?_)
          · skip
            have c72 := bi_eq0.mp c72
            have ed : d = ((edD (σ 7) len (skB (σ 7) len a)) - (skB (σ 7) len a)) := by rw [← hF, edD_f (fun q => c72 q.2)]; omega
            refine lv_aload_n hx hb dX9_takeNumber_129 rfl (lv_at hl 1 rfl) ?_
            refine rp_get (C := RX9) (T := TX9) (N := 38) hx hb hts in_X9_takeNumber_X9 hown hK hP 0 (by decide) (kX9 _) rfl 16 (by decide) (by decide +kernel) rfl dX9_takeNumber_130 ?_
            rw [show (va_up σ 0 (upd (upd (upd (σ 0) 18 (nI (skB (σ 7) len a))) 17 (vM (σ 7) (skB (σ 7) len a) d)) 16 (nI ((skB (σ 7) len a) + d)))) 0 16 = (nI ((skB (σ 7) len a) + d)) from (va_S'.trans pk_us)]
            refine lv_aload_n hx hb dX9_takeNumber_133 rfl (lv_at hl 1 rfl) ?_
            refine rp_get (C := RX9) (T := TX9) (N := 38) hx hb hts in_X9_takeNumber_X9 hown hK hP 0 (by decide) (kX9 _) rfl 18 (by decide) (by decide +kernel) rfl dX9_takeNumber_134 ?_
            rw [show (va_up σ 0 (upd (upd (upd (σ 0) 18 (nI (skB (σ 7) len a))) 17 (vM (σ 7) (skB (σ 7) len a) d)) 16 (nI ((skB (σ 7) len a) + d)))) 0 18 = (nI (skB (σ 7) len a)) from (va_S'.trans ((pk_un (by decide)).trans ((pk_un (by decide)).trans pk_us)))]
            refine lv_isub hx hb dX9_takeNumber_137 ?_
            rw [nI_sba]
            refine lv_iconst (v := 3) hx hb dX9_takeNumber_138 (by decide) ?_
            refine lv_icmp_gt (tgt := 157) hx hb dX9_takeNumber_139 (by decide) (fun c139 => ?_) (fun c139 => ?_)
            · skip
              have h4 : 3 < d := (nI_ltI (a := 3) (by decide) (by omega)).mp c139
              refine lv_aload_n hx hb dX9_takeNumber_157 rfl (lv_at hl 1 rfl) ?_
              refine lv_iconst (v := 2) hx hb dX9_takeNumber_158 (by decide) ?_
              refine lv_aload_n hx hb dX9_takeNumber_159 rfl (lv_at hl 1 rfl) ?_
              refine rp_get (C := RX9) (T := TX9) (N := 38) hx hb hts in_X9_takeNumber_X9 hown hK hP 0 (by decide) (kX9 _) rfl 18 (by decide) (by decide +kernel) rfl dX9_takeNumber_160 ?_
              rw [show (va_up σ 0 (upd (upd (upd (σ 0) 18 (nI (skB (σ 7) len a))) 17 (vM (σ 7) (skB (σ 7) len a) d)) 16 (nI ((skB (σ 7) len a) + d)))) 0 18 = (nI (skB (σ 7) len a)) from (va_S'.trans ((pk_un (by decide)).trans ((pk_un (by decide)).trans pk_us)))]
              refine rp_callVI (na := 2) hx hb hml hown hts hK hA hD hP hS hl.1 0 (by decide) (kX9 _) rfl [.int 2, .int (nI (skB (σ 7) len a))] (c_X9_fails l D cy ad (va_up σ 0 (upd (upd (upd (σ 0) 18 (nI (skB (σ 7) len a))) 17 (vM (σ 7) (skB (σ 7) len a) d)) 16 (nI ((skB (σ 7) len a) + d)))) 2 (nI (skB (σ 7) len a)) ) gX9_takeNumber_X9_fails rfl (by decide +kernel) rfl ⟨Nat.le_of_ble_eq_true rfl, Nat.le_of_ble_eq_true rfl⟩ ⟨rfl, rfl⟩ ⟨Nat.zero_le _, Nat.zero_le _⟩ rfl (Nat.le_of_ble_eq_true rfl) dX9_takeNumber_163 (fun v_ τ_ H locs hq hP hS => ?_)
              obtain ⟨rfl, rfl⟩ := hq
              rw [show up2 (va_up σ 0 (upd (upd (upd (σ 0) 18 (nI (skB (σ 7) len a))) 17 (vM (σ 7) (skB (σ 7) len a) d)) 16 (nI ((skB (σ 7) len a) + d)))) 0 15 (nI (skB (σ 7) len a)) = va_up σ 0 (upd (upd (upd (upd (σ 0) 18 (nI (skB (σ 7) len a))) 17 (vM (σ 7) (skB (σ 7) len a) d)) 16 (nI ((skB (σ 7) len a) + d))) 15 (nI (skB (σ 7) len a))) from (vu_up _ _ _ _ _)] at hP
              refine lv_goto (tgt := 170) hx hb dX9_takeNumber_166 (by decide) ?_
              exact hret hP hS dX9_takeNumber_170 rfl ⟨(rnF_2 (by omega) (by omega)), (mt_2 (rnF_2 (by omega) (by omega)) c16 (by omega))⟩
            · skip
              have h4 : d ≤ 3 := cl_ngt (n := 3) (by omega) (by decide) c139
              have hvx := vM_of h4 (show (skB (σ 7) len a) + d = (edD (σ 7) len (skB (σ 7) len a)) by omega)
              rw [ed] at hvx
              refine lv_aload_n hx hb dX9_takeNumber_142 rfl (lv_at hl 1 rfl) ?_
              refine rp_get (C := RX9) (T := TX9) (N := 38) hx hb hts in_X9_takeNumber_X9 hown hK hP 0 (by decide) (kX9 _) rfl 17 (by decide) (by decide +kernel) rfl dX9_takeNumber_143 ?_
              rw [show (va_up σ 0 (upd (upd (upd (σ 0) 18 (nI (skB (σ 7) len a))) 17 (vM (σ 7) (skB (σ 7) len a) d)) 16 (nI ((skB (σ 7) len a) + d)))) 0 17 = (vM (σ 7) (skB (σ 7) len a) d) from (va_S'.trans ((pk_un (by decide)).trans pk_us))]
              refine lv_i2l (v := ((vM (σ 7) (skB (σ 7) len a) d)).toInt64) hx hb dX9_takeNumber_146 rfl ?_
              refine lv_iload_n hx hb dX9_takeNumber_147 rfl (lv_at hl 2 rfl) ?_
              refine lv_i2l (v := (lo).toInt64) hx hb dX9_takeNumber_148 rfl ?_
              refine lv_iload_n hx hb dX9_takeNumber_149 rfl (lv_at hl 3 rfl) ?_
              refine lv_i2l (v := (hi).toInt64) hx hb dX9_takeNumber_150 rfl ?_
              refine rp_callSI (na := 3) hx hb hml hown hts hK hA hD hP hS hl.1 [.long ((vM (σ 7) (skB (σ 7) len a) d)).toInt64, .long (lo).toInt64, .long (hi).toInt64] (c_X9_in l D cy ad (va_up σ 0 (upd (upd (upd (σ 0) 18 (nI (skB (σ 7) len a))) 17 (vM (σ 7) (skB (σ 7) len a) d)) 16 (nI ((skB (σ 7) len a) + d)))) (((vM (σ 7) (skB (σ 7) len a) d)).toInt64) ((lo).toInt64) ((hi).toInt64) ) gX9_takeNumber_X9_in rfl (by decide +kernel) rfl ⟨Nat.le_of_ble_eq_true rfl, Nat.le_of_ble_eq_true rfl⟩ ⟨rfl, rfl⟩ ⟨Nat.zero_le _, Nat.zero_le _⟩ rfl (Nat.le_of_ble_eq_true rfl) dX9_takeNumber_151 (fun v_ τ_ H locs hq hP hS => ?_)
              obtain ⟨rfl, rfl⟩ := hq
              rw [in_lh]
              refine lv_if_ne (tgt := 169) hx hb dX9_takeNumber_154 (by decide) (fun c154 => ?_) (fun c154 => ?_)
              · skip
                have c154 := bi_ne0.mp c154
                refine lv_iconst (v := 0) hx hb dX9_takeNumber_169 (by decide) ?_
                exact hret hP hS dX9_takeNumber_170 rfl ⟨(mrF_0 (by omega) (by omega) hvx (by rw [← ed]; exact c154)), (mt_0 (mrF_0 (by omega) (by omega) hvx (by rw [← ed]; exact c154)) c16 (by omega) eP)⟩
              · skip
                have c154 := bi_eq0.mp c154
                refine lv_aload_n hx hb dX9_takeNumber_157 rfl (lv_at hl 1 rfl) ?_
                refine lv_iconst (v := 2) hx hb dX9_takeNumber_158 (by decide) ?_
                refine lv_aload_n hx hb dX9_takeNumber_159 rfl (lv_at hl 1 rfl) ?_
                refine rp_get (C := RX9) (T := TX9) (N := 38) hx hb hts in_X9_takeNumber_X9 hown hK hP 0 (by decide) (kX9 _) rfl 18 (by decide) (by decide +kernel) rfl dX9_takeNumber_160 ?_
                rw [show (va_up σ 0 (upd (upd (upd (σ 0) 18 (nI (skB (σ 7) len a))) 17 (vM (σ 7) (skB (σ 7) len a) d)) 16 (nI ((skB (σ 7) len a) + d)))) 0 18 = (nI (skB (σ 7) len a)) from (va_S'.trans ((pk_un (by decide)).trans ((pk_un (by decide)).trans pk_us)))]
                refine rp_callVI (na := 2) hx hb hml hown hts hK hA hD hP hS hl.1 0 (by decide) (kX9 _) rfl [.int 2, .int (nI (skB (σ 7) len a))] (c_X9_fails l D cy ad (va_up σ 0 (upd (upd (upd (σ 0) 18 (nI (skB (σ 7) len a))) 17 (vM (σ 7) (skB (σ 7) len a) d)) 16 (nI ((skB (σ 7) len a) + d)))) 2 (nI (skB (σ 7) len a)) ) gX9_takeNumber_X9_fails rfl (by decide +kernel) rfl ⟨Nat.le_of_ble_eq_true rfl, Nat.le_of_ble_eq_true rfl⟩ ⟨rfl, rfl⟩ ⟨Nat.zero_le _, Nat.zero_le _⟩ rfl (Nat.le_of_ble_eq_true rfl) dX9_takeNumber_163 (fun v_ τ_ H locs hq hP hS => ?_)
                obtain ⟨rfl, rfl⟩ := hq
                rw [show up2 (va_up σ 0 (upd (upd (upd (σ 0) 18 (nI (skB (σ 7) len a))) 17 (vM (σ 7) (skB (σ 7) len a) d)) 16 (nI ((skB (σ 7) len a) + d)))) 0 15 (nI (skB (σ 7) len a)) = va_up σ 0 (upd (upd (upd (upd (σ 0) 18 (nI (skB (σ 7) len a))) 17 (vM (σ 7) (skB (σ 7) len a) d)) 16 (nI ((skB (σ 7) len a) + d))) 15 (nI (skB (σ 7) len a))) from (vu_up _ _ _ _ _)] at hP
                refine lv_goto (tgt := 170) hx hb dX9_takeNumber_166 (by decide) ?_
                exact hret hP hS dX9_takeNumber_170 rfl ⟨(mrF_n (by omega) (by omega) hvx (by rw [← ed]; exact c154)), (mt_2 (mrF_n (by omega) (by omega) hvx (by rw [← ed]; exact c154)) c16 (by omega))⟩
          · skip
            have c72 := bi_ne0.mp c72
            refine lv_aload_n hx hb dX9_takeNumber_75 rfl (lv_at hl 1 rfl) ?_
            refine lv_aload_n hx hb dX9_takeNumber_76 rfl (lv_at hl 1 rfl) ?_
            refine rp_get (C := RX9) (T := TX9) (N := 38) hx hb hts in_X9_takeNumber_X9 hown hK hP 0 (by decide) (kX9 _) rfl 17 (by decide) (by decide +kernel) rfl dX9_takeNumber_77 ?_
            rw [show (va_up σ 0 (upd (upd (upd (σ 0) 18 (nI (skB (σ 7) len a))) 17 (vM (σ 7) (skB (σ 7) len a) d)) 16 (nI ((skB (σ 7) len a) + d)))) 0 17 = (vM (σ 7) (skB (σ 7) len a) d) from (va_S'.trans ((pk_un (by decide)).trans pk_us))]
            refine lv_sipush (v := 10000) hx hb dX9_takeNumber_80 (by decide) ?_
            refine lv_icmp_le (tgt := 93) hx hb dX9_takeNumber_83 (by decide) (fun c83 => ?_) (fun c83 => ?_)
            · skip
              refine lv_bipush (v := 10) hx hb dX9_takeNumber_93 (by decide) ?_
              refine lv_aload_n hx hb dX9_takeNumber_95 rfl (lv_at hl 1 rfl) ?_
              refine rp_get (C := RX9) (T := TX9) (N := 38) hx hb hts in_X9_takeNumber_X9 hown hK hP 0 (by decide) (kX9 _) rfl 17 (by decide) (by decide +kernel) rfl dX9_takeNumber_96 ?_
              rw [show (va_up σ 0 (upd (upd (upd (σ 0) 18 (nI (skB (σ 7) len a))) 17 (vM (σ 7) (skB (σ 7) len a) d)) 16 (nI ((skB (σ 7) len a) + d)))) 0 17 = (vM (σ 7) (skB (σ 7) len a) d) from (va_S'.trans ((pk_un (by decide)).trans pk_us))]
              refine lv_imul hx hb dX9_takeNumber_99 ?_
              refine lv_aload_n hx hb dX9_takeNumber_100 rfl (lv_at hl 1 rfl) ?_
              refine rp_get (C := RX9) (T := TX9) (N := 38) hx hb hts in_X9_takeNumber_X9 hown hK hP 0 (by decide) (kX9 _) rfl 13 (by decide) (by decide +kernel) rfl dX9_takeNumber_101 ?_
              refine lv_aload_n hx hb dX9_takeNumber_104 rfl (lv_at hl 1 rfl) ?_
              refine rp_get (C := RX9) (T := TX9) (N := 38) hx hb hts in_X9_takeNumber_X9 hown hK hP 0 (by decide) (kX9 _) rfl 16 (by decide) (by decide +kernel) rfl dX9_takeNumber_105 ?_
              rw [show (va_up σ 0 (upd (upd (upd (σ 0) 18 (nI (skB (σ 7) len a))) 17 (vM (σ 7) (skB (σ 7) len a) d)) 16 (nI ((skB (σ 7) len a) + d)))) 0 16 = (nI ((skB (σ 7) len a) + d)) from (va_S'.trans pk_us)]
              refine rp_iald hx hb hK hP 7 (by decide) (kX9_13 _) 0 rfl ((skB (σ 7) len a) + d) rfl (by omega) (by decide) dX9_takeNumber_108 ?_
              rw [show (va_up σ 0 (upd (upd (upd (σ 0) 18 (nI (skB (σ 7) len a))) 17 (vM (σ 7) (skB (σ 7) len a) d)) 16 (nI ((skB (σ 7) len a) + d)))) 7 ((skB (σ 7) len a) + d) = (σ 7 ((skB (σ 7) len a) + d)) from (va_R (by decide))]
              refine lv_iadd hx hb dX9_takeNumber_109 ?_
              refine lv_bipush (v := 48) hx hb dX9_takeNumber_110 (by decide) ?_
              refine lv_isub hx hb dX9_takeNumber_112 ?_
              refine rp_put (C := RX9) (T := TX9) (N := 38) (v := (((10 * (vM (σ 7) (skB (σ 7) len a) d)) + (σ 7 ((skB (σ 7) len a) + d))) - 48)) hx hb hts in_X9_takeNumber_X9 tyX9 tyX9_ok nmX9 hown hK hP hD hS 0 (by decide) (kX9 _) rfl 17 (by decide) (by decide +kernel) rfl rfl rfl (Nat.le_of_ble_eq_true rfl) (kX9 _) dX9_takeNumber_113 (fun H locs hP hS => ?_)
              rw [show up2 (va_up σ 0 (upd (upd (upd (σ 0) 18 (nI (skB (σ 7) len a))) 17 (vM (σ 7) (skB (σ 7) len a) d)) 16 (nI ((skB (σ 7) len a) + d)))) 0 17 (((10 * (vM (σ 7) (skB (σ 7) len a) d)) + (σ 7 ((skB (σ 7) len a) + d))) - 48) = va_up σ 0 (upd (upd (upd (upd (σ 0) 18 (nI (skB (σ 7) len a))) 17 (vM (σ 7) (skB (σ 7) len a) d)) 16 (nI ((skB (σ 7) len a) + d))) 17 (((10 * (vM (σ 7) (skB (σ 7) len a) d)) + (σ 7 ((skB (σ 7) len a) + d))) - 48)) from (vu_up _ _ _ _ _)] at hP
              refine lv_aload_n hx hb dX9_takeNumber_116 rfl (lv_at hl 1 rfl) ?_
              refine lv_dup hx hb dX9_takeNumber_117 rfl ?_
              refine rp_get (C := RX9) (T := TX9) (N := 38) hx hb hts in_X9_takeNumber_X9 hown hK hP 0 (by decide) (kX9 _) rfl 16 (by decide) (by decide +kernel) rfl dX9_takeNumber_118 ?_
              rw [show (va_up σ 0 (upd (upd (upd (upd (σ 0) 18 (nI (skB (σ 7) len a))) 17 (vM (σ 7) (skB (σ 7) len a) d)) 16 (nI ((skB (σ 7) len a) + d))) 17 (((10 * (vM (σ 7) (skB (σ 7) len a) d)) + (σ 7 ((skB (σ 7) len a) + d))) - 48))) 0 16 = (nI ((skB (σ 7) len a) + d)) from (va_S'.trans ((pk_un (by decide)).trans pk_us))]
              refine lv_iconst (v := 1) hx hb dX9_takeNumber_121 (by decide) ?_
              refine lv_iadd hx hb dX9_takeNumber_122 ?_
              refine rp_put (C := RX9) (T := TX9) (N := 38) (v := ((nI ((skB (σ 7) len a) + d)) + 1)) hx hb hts in_X9_takeNumber_X9 tyX9 tyX9_ok nmX9 hown hK hP hD hS 0 (by decide) (kX9 _) rfl 16 (by decide) (by decide +kernel) rfl rfl rfl (Nat.le_of_ble_eq_true rfl) (kX9 _) dX9_takeNumber_123 (fun H locs hP hS => ?_)
              rw [show up2 (va_up σ 0 (upd (upd (upd (upd (σ 0) 18 (nI (skB (σ 7) len a))) 17 (vM (σ 7) (skB (σ 7) len a) d)) 16 (nI ((skB (σ 7) len a) + d))) 17 (((10 * (vM (σ 7) (skB (σ 7) len a) d)) + (σ 7 ((skB (σ 7) len a) + d))) - 48))) 0 16 ((nI ((skB (σ 7) len a) + d)) + 1) = va_up σ 0 (upd (upd (upd (upd (upd (σ 0) 18 (nI (skB (σ 7) len a))) 17 (vM (σ 7) (skB (σ 7) len a) d)) 16 (nI ((skB (σ 7) len a) + d))) 17 (((10 * (vM (σ 7) (skB (σ 7) len a) d)) + (σ 7 ((skB (σ 7) len a) + d))) - 48)) 16 ((nI ((skB (σ 7) len a) + d)) + 1)) from (vu_up _ _ _ _ _)] at hP
              refine lv_goto (tgt := 42) hx hb dX9_takeNumber_126 (by decide) ?_
              exact ih42 (d + 1) (by omega) (by rw [← hF]; exact edD_t hd2 c72) (by omega) _ _ _ _ (by rw [nI_1, vM, if_pos c83]; exact congrArg (va_up σ 0) (mt_n _ _ _ _ _ _)) hP hS (lv_sub hl [0, 1, 2, 3] rfl)
            · skip
              refine lv_aload_n hx hb dX9_takeNumber_86 rfl (lv_at hl 1 rfl) ?_
              refine rp_get (C := RX9) (T := TX9) (N := 38) hx hb hts in_X9_takeNumber_X9 hown hK hP 0 (by decide) (kX9 _) rfl 17 (by decide) (by decide +kernel) rfl dX9_takeNumber_87 ?_
              rw [show (va_up σ 0 (upd (upd (upd (σ 0) 18 (nI (skB (σ 7) len a))) 17 (vM (σ 7) (skB (σ 7) len a) d)) 16 (nI ((skB (σ 7) len a) + d)))) 0 17 = (vM (σ 7) (skB (σ 7) len a) d) from (va_S'.trans ((pk_un (by decide)).trans pk_us))]
              refine lv_goto (tgt := 113) hx hb dX9_takeNumber_90 (by decide) ?_
              refine rp_put (C := RX9) (T := TX9) (N := 38) (v := (vM (σ 7) (skB (σ 7) len a) d)) hx hb hts in_X9_takeNumber_X9 tyX9 tyX9_ok nmX9 hown hK hP hD hS 0 (by decide) (kX9 _) rfl 17 (by decide) (by decide +kernel) rfl rfl rfl (Nat.le_of_ble_eq_true rfl) (kX9 _) dX9_takeNumber_113 (fun H locs hP hS => ?_)
              rw [show up2 (va_up σ 0 (upd (upd (upd (σ 0) 18 (nI (skB (σ 7) len a))) 17 (vM (σ 7) (skB (σ 7) len a) d)) 16 (nI ((skB (σ 7) len a) + d)))) 0 17 (vM (σ 7) (skB (σ 7) len a) d) = va_up σ 0 (upd (upd (upd (upd (σ 0) 18 (nI (skB (σ 7) len a))) 17 (vM (σ 7) (skB (σ 7) len a) d)) 16 (nI ((skB (σ 7) len a) + d))) 17 (vM (σ 7) (skB (σ 7) len a) d)) from (vu_up _ _ _ _ _)] at hP
              refine lv_aload_n hx hb dX9_takeNumber_116 rfl (lv_at hl 1 rfl) ?_
              refine lv_dup hx hb dX9_takeNumber_117 rfl ?_
              refine rp_get (C := RX9) (T := TX9) (N := 38) hx hb hts in_X9_takeNumber_X9 hown hK hP 0 (by decide) (kX9 _) rfl 16 (by decide) (by decide +kernel) rfl dX9_takeNumber_118 ?_
              rw [show (va_up σ 0 (upd (upd (upd (upd (σ 0) 18 (nI (skB (σ 7) len a))) 17 (vM (σ 7) (skB (σ 7) len a) d)) 16 (nI ((skB (σ 7) len a) + d))) 17 (vM (σ 7) (skB (σ 7) len a) d))) 0 16 = (nI ((skB (σ 7) len a) + d)) from (va_S'.trans ((pk_un (by decide)).trans pk_us))]
              refine lv_iconst (v := 1) hx hb dX9_takeNumber_121 (by decide) ?_
              refine lv_iadd hx hb dX9_takeNumber_122 ?_
              refine rp_put (C := RX9) (T := TX9) (N := 38) (v := ((nI ((skB (σ 7) len a) + d)) + 1)) hx hb hts in_X9_takeNumber_X9 tyX9 tyX9_ok nmX9 hown hK hP hD hS 0 (by decide) (kX9 _) rfl 16 (by decide) (by decide +kernel) rfl rfl rfl (Nat.le_of_ble_eq_true rfl) (kX9 _) dX9_takeNumber_123 (fun H locs hP hS => ?_)
              rw [show up2 (va_up σ 0 (upd (upd (upd (upd (σ 0) 18 (nI (skB (σ 7) len a))) 17 (vM (σ 7) (skB (σ 7) len a) d)) 16 (nI ((skB (σ 7) len a) + d))) 17 (vM (σ 7) (skB (σ 7) len a) d))) 0 16 ((nI ((skB (σ 7) len a) + d)) + 1) = va_up σ 0 (upd (upd (upd (upd (upd (σ 0) 18 (nI (skB (σ 7) len a))) 17 (vM (σ 7) (skB (σ 7) len a) d)) 16 (nI ((skB (σ 7) len a) + d))) 17 (vM (σ 7) (skB (σ 7) len a) d)) 16 ((nI ((skB (σ 7) len a) + d)) + 1)) from (vu_up _ _ _ _ _)] at hP
              refine lv_goto (tgt := 42) hx hb dX9_takeNumber_126 (by decide) ?_
              exact ih42 (d + 1) (by omega) (by rw [← hF]; exact edD_t hd2 c72) (by omega) _ _ _ _ (by rw [nI_1, vM, if_neg (fun q => c83 q)]; exact congrArg (va_up σ 0) (mt_n _ _ _ _ _ _)) hP hS (lv_sub hl [0, 1, 2, 3] rfl)
    exact L42 ((len - ((skB (σ 7) len a) + 0)) + 1) 0 (by omega) rfl (Nat.lt_succ_self _) _ _ _ _ (by rw [Nat.add_zero]; exact congrArg (va_up σ 0) (mt_i _ _ _)) hP hS (lv_sub hl [0, 1, 2, 3] rfl)
  · skip
    have c16 := bi_eq0.mp c16
    refine lv_aload_n hx hb dX9_takeNumber_19 rfl (lv_at hl 1 rfl) ?_
    refine lv_iconst (v := 1) hx hb dX9_takeNumber_20 (by decide) ?_
    refine lv_aload_n hx hb dX9_takeNumber_21 rfl (lv_at hl 1 rfl) ?_
    refine rp_get (C := RX9) (T := TX9) (N := 38) hx hb hts in_X9_takeNumber_X9 hown hK hP 0 (by decide) (kX9 _) rfl 16 (by decide) (by decide +kernel) rfl dX9_takeNumber_22 ?_
    rw [show (va_up σ 0 (upd (σ 0) 16 (nI (skB (σ 7) len a)))) 0 16 = (nI (skB (σ 7) len a)) from (va_S'.trans pk_us)]
    refine rp_callVI (na := 2) hx hb hml hown hts hK hA hD hP hS hl.1 0 (by decide) (kX9 _) rfl [.int 1, .int (nI (skB (σ 7) len a))] (c_X9_fails l D cy ad (va_up σ 0 (upd (σ 0) 16 (nI (skB (σ 7) len a)))) 1 (nI (skB (σ 7) len a)) ) gX9_takeNumber_X9_fails rfl (by decide +kernel) rfl ⟨Nat.le_of_ble_eq_true rfl, Nat.le_of_ble_eq_true rfl⟩ ⟨rfl, rfl⟩ ⟨Nat.zero_le _, Nat.zero_le _⟩ rfl (Nat.le_of_ble_eq_true rfl) dX9_takeNumber_25 (fun v_ τ_ H locs hq hP hS => ?_)
    obtain ⟨rfl, rfl⟩ := hq
    rw [show up2 (va_up σ 0 (upd (σ 0) 16 (nI (skB (σ 7) len a)))) 0 15 (nI (skB (σ 7) len a)) = va_up σ 0 (upd (upd (σ 0) 16 (nI (skB (σ 7) len a))) 15 (nI (skB (σ 7) len a))) from (vu_up _ _ _ _ _)] at hP
    exact hret hP hS dX9_takeNumber_28 rfl ⟨(mrF_1 c16), (mt_1 (mrF_1 c16) c16 ena enu)⟩
