def R_X4_add (RD : Nat → Int32) (tx : Nat → Int32) (t : Nat) (v : Int32) : Int32 := (if (nI t) < 240 then 1 else 0)
def T_X4_add_RD (RD : Nat → Int32) (tx : Nat → Int32) (t : Nat) (v : Int32) : Nat → Int32 := (if (nI t) < 240 then upd RD 1 ((nI t) + 1) else RD)
def T_X4_add_tx (RD : Nat → Int32) (tx : Nat → Int32) (t : Nat) (v : Int32) : Nat → Int32 := (if (nI t) < 240 then upd tx t v else tx)
theorem in_X4_add_X4 : ∀ w ∈ u_ws RX4 TX4 6, w ∈ wsX4_add := by decide +kernel
set_option maxHeartbeats 1000000 in
set_option maxRecDepth 100000 in
theorem c_X4_add (l : Launch) (D : va_G) (cy : Nat → ClassId) (ad : Nat → Nat) (y z : Nat) (σ : Nat → Nat → Int32) (RD : Nat → Int32) (tx : Nat → Int32) (t : Nat) (v : Int32) (r_RD : σ 1 = RD) (r_tx : σ 2 = tx) (ht : t ≤ 240) (et : RD 1 = nI t) : MI l D (tysW cy) 109 ad (cfX ad cy y z) yX4_add wsX4_add ({ frames := 0, cells := 0, slots := 0, locals := 0 }) σ [.ref (ad 1), .int v] (fun v_ τ_ => (R_X4_add RD tx t v) = v_ ∧ (va_up (va_up σ 1 (T_X4_add_RD RD tx t v)) 2 (T_X4_add_tx RD tx t v)) = τ_) := by
  refine MI.go (cc := cX4_add) (maxL := 2) .boolean (by decide) rfl (Nat.le_of_ble_eq_true rfl) ?_
  intro p_ e_ s_ m_ args_ bl_ mt_ c_ A_ Q_ ls hx hb hml hown hts hK hA hD hP hS hl hret
  have hl : lv_has ls 2 [(0, .ref (ad 1)), (1, .int v)] := hl
  subst r_RD r_tx
  have hP : va_P D classes (rw_ 109 ad (cfX ad cy y z) (va_up (va_up σ 1 (σ 1)) 2 (σ 2))) s_.heap := by rw [va_selfR _ 2 ((va_Q (by decide))), va_selfR _ 1 (rfl)]; exact hP
  refine lv_aload_n hx hb dX4_add_0 rfl (lv_at hl 0 rfl) ?_
  refine rp_get (C := RX4) (T := TX4) (N := 6) hx hb hts in_X4_add_X4 hown hK hP 1 (by decide) (kX4 _) rfl 1 (by decide) (by decide +kernel) rfl dX4_add_1 ?_
  rw [show (va_up (va_up σ 1 (σ 1)) 2 (σ 2)) 1 1 = (σ 1 1) from ((va_R (by decide)).trans va_S')]
  rw [et]
  refine lv_aload_n hx hb dX4_add_4 rfl (lv_at hl 0 rfl) ?_
  refine rp_get (C := RX4) (T := TX4) (N := 6) hx hb hts in_X4_add_X4 hown hK hP 1 (by decide) (kX4 _) rfl 0 (by decide) (by decide +kernel) rfl dX4_add_5 ?_
  refine va_alen hx hb hK hP 2 0 (rw_get (by decide) (kX4_0 _)) rfl (v := 240) rfl dX4_add_8 ?_
  refine lv_icmp_lt (tgt := 14) hx hb dX4_add_9 (by decide) (fun c9 => ?_) (fun c9 => ?_)
  · skip
    have ht2 : t < 240 := (nI_ltI (by omega) (by decide)).mp c9
    refine lv_aload_n hx hb dX4_add_14 rfl (lv_at hl 0 rfl) ?_
    refine rp_get (C := RX4) (T := TX4) (N := 6) hx hb hts in_X4_add_X4 hown hK hP 1 (by decide) (kX4 _) rfl 0 (by decide) (by decide +kernel) rfl dX4_add_15 ?_
    refine lv_aload_n hx hb dX4_add_18 rfl (lv_at hl 0 rfl) ?_
    refine rp_get (C := RX4) (T := TX4) (N := 6) hx hb hts in_X4_add_X4 hown hK hP 1 (by decide) (kX4 _) rfl 1 (by decide) (by decide +kernel) rfl dX4_add_19 ?_
    rw [show (va_up (va_up σ 1 (σ 1)) 2 (σ 2)) 1 1 = (σ 1 1) from ((va_R (by decide)).trans va_S')]
    rw [et]
    refine lv_iload_n hx hb dX4_add_22 rfl (lv_at hl 1 rfl) ?_
    refine rp_iast (x := v) hx hb hK hP hD hS 2 (by decide) (fun f => kX4_0 f) 0 rfl t rfl (by omega) (by decide) dX4_add_23 (fun H locs hP hS => ?_)
    rw [show up2 (va_up (va_up σ 1 (σ 1)) 2 (σ 2)) 2 t v = va_up (va_up σ 1 (σ 1)) 2 (upd (σ 2) t v) from (vu_up _ _ _ _ _)] at hP
    refine lv_aload_n hx hb dX4_add_24 rfl (lv_at hl 0 rfl) ?_
    refine lv_dup hx hb dX4_add_25 rfl ?_
    refine rp_get (C := RX4) (T := TX4) (N := 6) hx hb hts in_X4_add_X4 hown hK hP 1 (by decide) (kX4 _) rfl 1 (by decide) (by decide +kernel) rfl dX4_add_26 ?_
    rw [show (va_up (va_up σ 1 (σ 1)) 2 (upd (σ 2) t v)) 1 1 = (σ 1 1) from ((va_R (by decide)).trans va_S')]
    rw [et]
    refine lv_iconst (v := 1) hx hb dX4_add_29 (by decide) ?_
    refine lv_iadd hx hb dX4_add_30 ?_
    refine rp_put (C := RX4) (T := TX4) (N := 6) (v := ((nI t) + 1)) hx hb hts in_X4_add_X4 tyX4 tyX4_ok nmX4 hown hK hP hD hS 1 (by decide) (kX4 _) rfl 1 (by decide) (by decide +kernel) rfl rfl rfl (Nat.le_of_ble_eq_true rfl) (kX4 _) dX4_add_31 (fun H locs hP hS => ?_)
    rw [show up2 (va_up (va_up σ 1 (σ 1)) 2 (upd (σ 2) t v)) 1 1 ((nI t) + 1) = va_up (va_up σ 1 (upd (σ 1) 1 ((nI t) + 1))) 2 (upd (σ 2) t v) from ((up2_in (by decide)).trans (congrArg (fun z => va_up z 2 _) (vu_up _ _ _ _ _)))] at hP
    refine lv_iconst (v := 1) hx hb dX4_add_34 (by decide) ?_
    exact hret hP hS dX4_add_35 rfl ⟨(by unfold R_X4_add <;> rw [if_pos c9] <;> first | with_reducible rfl), (by unfold T_X4_add_RD T_X4_add_tx <;> simp only [if_pos c9])⟩
  · skip
    refine lv_iconst (v := 0) hx hb dX4_add_12 (by decide) ?_
    exact hret hP hS dX4_add_13 rfl ⟨(by unfold R_X4_add <;> rw [if_neg c9] <;> first | with_reducible rfl), (by unfold T_X4_add_RD T_X4_add_tx <;> simp only [if_neg c9])⟩

def R_X8_feed (σ : Nat → Nat → Int32) (t : Nat) (v : Int32) : Int32 := (if v < 0 then (-1000000002) else (if v ≤ 255 then (if (R_X4_add (σ 1) (σ 2) t v) = 0 then (-1000000004) else ((T_X4_add_RD (σ 1) (σ 2) t v) 1)) else (-1000000002)))
def T_X8_feed (σ : Nat → Nat → Int32) (t : Nat) (v : Int32) : Nat → Nat → Int32 := (if v < 0 then σ else (if v ≤ 255 then (if (R_X4_add (σ 1) (σ 2) t v) = 0 then va_up (va_up σ 1 (T_X4_add_RD (σ 1) (σ 2) t v)) 2 (T_X4_add_tx (σ 1) (σ 2) t v) else va_up (va_up σ 1 (T_X4_add_RD (σ 1) (σ 2) t v)) 2 (T_X4_add_tx (σ 1) (σ 2) t v)) else σ))
theorem in_X8_feed_X4 : ∀ w ∈ u_ws RX4 TX4 6, w ∈ wsX8_feed := by decide +kernel
theorem in_X8_feed_X8 : ∀ w ∈ u_ws RX8 TX8 10, w ∈ wsX8_feed := by decide +kernel
set_option maxHeartbeats 1000000 in
set_option maxRecDepth 100000 in
theorem c_X8_feed (l : Launch) (D : va_G) (cy : Nat → ClassId) (ad : Nat → Nat) (y z : Nat) (σ : Nat → Nat → Int32) (t : Nat) (v : Int32) (ht : t ≤ 240) (et : σ 1 1 = nI t) : MI l D (tysW cy) 109 ad (cfX ad cy y z) yX8_feed wsX8_feed ({ frames := 1, cells := 0, slots := 0, locals := 21 }) σ [.ref (ad 0), .int v] (fun v_ τ_ => (R_X8_feed σ t v) = v_ ∧ (T_X8_feed σ t v) = τ_) := by
  refine MI.go (cc := cX8_feed) (maxL := 2) .int (by decide) rfl (Nat.le_of_ble_eq_true rfl) ?_
  intro p_ e_ s_ m_ args_ bl_ mt_ c_ A_ Q_ ls hx hb hml hown hts hK hA hD hP hS hl hret
  have hl : lv_has ls 2 [(0, .ref (ad 0)), (1, .int v)] := hl
  refine lv_iload_n hx hb dX8_feed_0 rfl (lv_at hl 1 rfl) ?_
  refine lv_if_lt (tgt := 11) hx hb dX8_feed_1 (by decide) (fun c1 => ?_) (fun c1 => ?_)
  · skip
    refine lv_ldc (v := (-1000000002)) hx hb hown (hts (.constant RX8 71 (-1000000002)) (by decide +kernel)) dX8_feed_11 ?_
    exact hret hP hS dX8_feed_13 rfl ⟨(by unfold R_X8_feed <;> rw [if_pos c1] <;> first | with_reducible rfl), (by unfold T_X8_feed <;> rw [if_pos c1] <;> first | with_reducible rfl)⟩
  · skip
    refine lv_iload_n hx hb dX8_feed_4 rfl (lv_at hl 1 rfl) ?_
    refine lv_sipush (v := 255) hx hb dX8_feed_5 (by decide) ?_
    refine lv_icmp_le (tgt := 14) hx hb dX8_feed_8 (by decide) (fun c8 => ?_) (fun c8 => ?_)
    · skip
      refine lv_aload_n hx hb dX8_feed_14 rfl (lv_at hl 0 rfl) ?_
      refine rp_get (C := RX8) (T := TX8) (N := 10) hx hb hts in_X8_feed_X8 hown hK hP 0 (by decide) (kX8 _) rfl 0 (by decide) (by decide +kernel) rfl dX8_feed_15 ?_
      refine lv_iload_n hx hb dX8_feed_18 rfl (lv_at hl 1 rfl) ?_
      refine rp_callVI (na := 1) hx hb hml hown hts hK hA hD hP hS hl.1 1 (by decide) (kX4 _) rfl [.int v] (c_X4_add l D cy ad y z σ (σ 1) (σ 2) t v rfl rfl (by first | assumption | omega) (by first | assumption | omega)) gX8_feed_X4_add rfl (by decide +kernel) rfl ⟨Nat.le_of_ble_eq_true rfl, Nat.le_of_ble_eq_true rfl⟩ ⟨rfl, rfl⟩ ⟨Nat.zero_le _, Nat.zero_le _⟩ rfl (Nat.le_of_ble_eq_true rfl) dX8_feed_19 (fun v_ τ_ H locs hq hP hS => ?_)
      obtain ⟨rfl, rfl⟩ := hq
      refine lv_if_eq (tgt := 35) hx hb dX8_feed_22 (by decide) (fun c22 => ?_) (fun c22 => ?_)
      · skip
        refine lv_ldc (v := (-1000000004)) hx hb hown (hts (.constant RX8 80 (-1000000004)) (by decide +kernel)) dX8_feed_35 ?_
        exact hret hP hS dX8_feed_37 rfl ⟨(by unfold R_X8_feed <;> rw [if_neg c1, if_pos c8, if_pos c22] <;> first | with_reducible rfl), (by unfold T_X8_feed <;> rw [if_neg c1, if_pos c8, if_pos c22] <;> first | with_reducible rfl)⟩
      · skip
        refine lv_aload_n hx hb dX8_feed_25 rfl (lv_at hl 0 rfl) ?_
        refine rp_get (C := RX8) (T := TX8) (N := 10) hx hb hts in_X8_feed_X8 hown hK hP 0 (by decide) (kX8 _) rfl 0 (by decide) (by decide +kernel) rfl dX8_feed_26 ?_
        refine rp_get (C := RX4) (T := TX4) (N := 6) hx hb hts in_X8_feed_X4 hown hK hP 1 (by decide) (kX4 _) rfl 1 (by decide) (by decide +kernel) rfl dX8_feed_29 ?_
        rw [show (va_up (va_up σ 1 (T_X4_add_RD (σ 1) (σ 2) t v)) 2 (T_X4_add_tx (σ 1) (σ 2) t v)) 1 1 = ((T_X4_add_RD (σ 1) (σ 2) t v) 1) from ((va_R (by decide)).trans va_S')]
        refine lv_goto (tgt := 37) hx hb dX8_feed_32 (by decide) ?_
        exact hret hP hS dX8_feed_37 rfl ⟨(by unfold R_X8_feed <;> rw [if_neg c1, if_pos c8, if_neg c22] <;> first | with_reducible rfl), (by unfold T_X8_feed <;> rw [if_neg c1, if_pos c8, if_neg c22] <;> first | with_reducible rfl)⟩
    · skip
      refine lv_ldc (v := (-1000000002)) hx hb hown (hts (.constant RX8 71 (-1000000002)) (by decide +kernel)) dX8_feed_11 ?_
      exact hret hP hS dX8_feed_13 rfl ⟨(by unfold R_X8_feed <;> rw [if_neg c1, if_neg c8] <;> first | with_reducible rfl), (by unfold T_X8_feed <;> rw [if_neg c1, if_neg c8] <;> first | with_reducible rfl)⟩
