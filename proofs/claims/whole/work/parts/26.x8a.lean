theorem in_X5_gather_X5 : ∀ w ∈ u_ws RX5 TX5 3, w ∈ wsX5_gather := by decide +kernel
theorem in_X5_gather_X7 : ∀ w ∈ u_ws RX7 TX7 12, w ∈ wsX5_gather := by decide +kernel
set_option maxHeartbeats 1000000 in
set_option maxRecDepth 100000 in
theorem c_X5_gather (l : Launch) (D : va_G) (cy : Nat → ClassId) (ad : Nat → Nat) (y z : Nat) (σ : Nat → Nat → Int32) (wt : Nat → Int32) (fr : Nat → Int32) (RI : Nat → Int32) (WI : Nat → Int32) (b : Nat) (n : Nat) (h : Int32) (x : Int32) (r_wt : σ (b + 3) = wt) (r_fr : σ (b + 5) = fr) (r_RI : σ 27 = RI) (r_WI : σ 28 = WI) (Hb : b = 3 ∨ b = 10) (hn : n ≤ 10) (en : σ b 5 = nI n) : MV l D (tysW cy) 109 ad (cfX ad cy y z) yX5_gather wsX5_gather ({ frames := 2, cells := 0, slots := 0, locals := 44 }) σ [.ref (ad 27), .ref (ad b), .int h, .int x] (fun τ_ => (va_up (va_up σ 27 (gaO (goX wt fr n h x) (upd (upd RI 0 0) 1 (-1)) (2 ^ n))) 28 (gaW (goX wt fr n h x) (zrN WI 10) (2 ^ n))) = τ_) := by
  refine MV.go (cc := cX5_gather) (maxL := 5) (by decide) rfl (Nat.le_of_ble_eq_true rfl) ?_
  intro p_ e_ s_ m_ args_ bl_ mt_ c_ A_ Q_ ls hx hb hml hown hts hK hA hD hP hS hl hret
  have hl : lv_has ls 5 [(0, .ref (ad 27)), (1, .ref (ad b)), (2, .int h), (3, .int x)] := hl
  subst r_wt r_fr r_RI r_WI
  have hp := pow_le hn
  have hP : va_P D classes (rw_ 109 ad (cfX ad cy y z) (va_up (va_up σ 27 (σ 27)) 28 (σ 28))) s_.heap := by rw [va_selfR _ 28 ((va_Q (by decide))), va_selfR _ 27 (rfl)]; exact hP
  refine lv_aload_n hx hb dX5_gather_0 rfl (lv_at hl 0 rfl) ?_
  refine lv_iconst (v := 0) hx hb dX5_gather_1 (by decide) ?_
  refine rp_put (C := RX5) (T := TX5) (N := 3) (v := 0) hx hb hts in_X5_gather_X5 tyX5 tyX5_ok nmX5 hown hK hP hD hS 27 (by decide) (kX5 _) rfl 0 (by decide) (by decide +kernel) rfl rfl rfl (Nat.le_of_ble_eq_true rfl) (kX5 _) dX5_gather_2 (fun H locs hP hS => ?_)
  rw [show up2 (va_up (va_up σ 27 (σ 27)) 28 (σ 28)) 27 0 0 = va_up (va_up σ 27 (upd (σ 27) 0 0)) 28 (σ 28) from ((up2_in (by decide)).trans (congrArg (fun z => va_up z 28 _) (vu_up _ _ _ _ _)))] at hP
  refine lv_aload_n hx hb dX5_gather_5 rfl (lv_at hl 0 rfl) ?_
  refine lv_iconst (v := (-1)) hx hb dX5_gather_6 (by decide) ?_
  refine rp_put (C := RX5) (T := TX5) (N := 3) (v := (-1)) hx hb hts in_X5_gather_X5 tyX5 tyX5_ok nmX5 hown hK hP hD hS 27 (by decide) (kX5 _) rfl 1 (by decide) (by decide +kernel) rfl rfl rfl (Nat.le_of_ble_eq_true rfl) (kX5 _) dX5_gather_7 (fun H locs hP hS => ?_)
  rw [show up2 (va_up (va_up σ 27 (upd (σ 27) 0 0)) 28 (σ 28)) 27 1 (-1) = va_up (va_up σ 27 (upd (upd (σ 27) 0 0) 1 (-1))) 28 (σ 28) from ((up2_in (by decide)).trans (congrArg (fun z => va_up z 28 _) (vu_up _ _ _ _ _)))] at hP
  refine lv_iconst (v := 0) hx hb dX5_gather_10 (by decide) ?_
  refine lv_istore (lv' := [(4, .int 0), (0, .ref (ad 27)), (1, .ref (ad b)), (2, .int h), (3, .int x)]) hx hb dX5_gather_11 hl (by decide) rfl (fun ls hl => ?_)
  have L13 : ∀ (fu13 : Nat) (c : Nat), (c ≤ 10) → 10 - c < fu13 → ∀ (x4 : Int32) (τ : Nat → Nat → Int32) (H : Heap) (locs : List Loc) (ls : Array Slot), (nI c) = x4 → (va_up (va_up σ 27 (upd (upd (σ 27) 0 0) 1 (-1))) 28 (zrN (σ 28) c)) = τ → va_P D classes (rw_ 109 ad (cfX ad cy y z) τ) H → va_S A_ s_.heap H locs → lv_has ls 5 [(4, .int x4), (0, .ref (ad 27)), (1, .ref (ad b)), (2, .int h), (3, .int x)] → W p_ l e_ ({ frames := 2, cells := 0, slots := 0, locals := 44 }) s_ m_ args_ bl_ mt_ c_ H locs 0 0 Q_ (F0 m_ 13 ls []) := by
    intro fu13
    induction fu13 with
    | zero => intro c hc hf; exact absurd hf (Nat.not_lt_zero _)
    | succ fu13 ih13 =>
      intro c hc hf13 x4 τ H locs ls ex4 eτ hP hS hl
      subst ex4
      subst eτ
      refine lv_iload hx hb dX5_gather_13 (lv_at hl 0 rfl) ?_
      refine lv_bipush (v := 10) hx hb dX5_gather_15 (by decide) ?_
      refine lv_icmp_ge (tgt := 34) hx hb dX5_gather_17 (by decide) (fun c17 => ?_) (fun c17 => ?_)
      · skip
        have ec : c = 10 := cl_ex hc (by omega) c17
        refine lv_iconst (v := 0) hx hb dX5_gather_34 (by decide) ?_
        refine lv_istore (lv' := [(4, .int 0), (0, .ref (ad 27)), (1, .ref (ad b)), (2, .int h), (3, .int x)]) hx hb dX5_gather_35 hl (by decide) rfl (fun ls hl => ?_)
        have L37 : ∀ (fu37 : Nat) (e : Nat), (e ≤ 2 ^ n) → 2 ^ n - e < fu37 → ∀ (x4 : Int32) (τ : Nat → Nat → Int32) (H : Heap) (locs : List Loc) (ls : Array Slot), (nI e) = x4 → (va_up (va_up σ 27 (gaO (goX (σ (b + 3)) (σ (b + 5)) n h x) (upd (upd (σ 27) 0 0) 1 (-1)) e)) 28 (gaW (goX (σ (b + 3)) (σ (b + 5)) n h x) (zrN (σ 28) 10) e)) = τ → va_P D classes (rw_ 109 ad (cfX ad cy y z) τ) H → va_S A_ s_.heap H locs → lv_has ls 5 [(4, .int x4), (0, .ref (ad 27)), (1, .ref (ad b)), (2, .int h), (3, .int x)] → W p_ l e_ ({ frames := 2, cells := 0, slots := 0, locals := 44 }) s_ m_ args_ bl_ mt_ c_ H locs 0 0 Q_ (F0 m_ 37 ls []) := by
          intro fu37
          induction fu37 with
          | zero => intro e he hf; exact absurd hf (Nat.not_lt_zero _)
          | succ fu37 ih37 =>
            intro e he hf37 x4 τ H locs ls ex4 eτ hP hS hl
            subst ex4
            subst eτ
            refine lv_iload hx hb dX5_gather_37 (lv_at hl 0 rfl) ?_
            refine lv_iconst (v := 1) hx hb dX5_gather_39 (by decide) ?_
            refine lv_aload_n hx hb dX5_gather_40 rfl (lv_at hl 2 rfl) ?_
            refine rp_get (C := RX7) (T := TX7) (N := 12) hx hb hts in_X5_gather_X7 hown hK hP b (hX7 Hb).1 (kX7 Hb _) rfl 5 (by decide) (by decide +kernel) rfl dX5_gather_41 ?_
            rw [show (va_up (va_up σ 27 (gaO (goX (σ (b + 3)) (σ (b + 5)) n h x) (upd (upd (σ 27) 0 0) 1 (-1)) e)) 28 (gaW (goX (σ (b + 3)) (σ (b + 5)) n h x) (zrN (σ 28) 10) e)) b 5 = (σ b 5) from ((va_R (by omega)).trans (va_R (by omega)))]
            rw [en]
            refine lv_ishl hx hb dX5_gather_44 ?_
            rw [shl1 hn]
            refine lv_icmp_ge (tgt := 87) hx hb dX5_gather_45 (by decide) (fun c45 => ?_) (fun c45 => ?_)
            · skip
              have ee := cl_ex he (by omega) c45
              exact hret hP hS dX5_gather_87 (by rw [ee])
            · skip
              have he2 := cl_in (by omega) (by omega) c45
              refine lv_iload hx hb dX5_gather_48 (lv_at hl 0 rfl) ?_
              refine lv_iload_n hx hb dX5_gather_50 rfl (lv_at hl 3 rfl) ?_
              refine lv_iand hx hb dX5_gather_51 ?_
              refine lv_if_ne (tgt := 81) hx hb dX5_gather_52 (by decide) (fun c52 => ?_) (fun c52 => ?_)
              · skip
                refine lv_iinc (v := ((nI e) + 1)) (lv' := [(4, .int ((nI e) + 1)), (0, .ref (ad 27)), (1, .ref (ad b)), (2, .int h), (3, .int x)]) hx hb dX5_gather_81 hl (k := 0) rfl rfl (by decide) rfl (fun ls hl => ?_)
                refine lv_goto (tgt := 37) hx hb dX5_gather_84 (by decide) ?_
                exact ih37 (e + 1) (by omega) (by omega) _ _ _ _ _ ((nI_1 e).symm) (by rw [gaO, gaW, if_neg (go_n1 c52), if_neg (go_n1 c52)]) hP hS (lv_sub hl [0, 1, 2, 3, 4] rfl)
              · skip
                refine lv_aload_n hx hb dX5_gather_55 rfl (lv_at hl 2 rfl) ?_
                refine lv_iload hx hb dX5_gather_56 (lv_at hl 0 rfl) ?_
                refine rp_callVI (na := 1) hx hb hml hown hts hK hA hD hP hS hl.1 b (hX7 Hb).1 (kX7 Hb _) rfl [.int (nI e)] (c_X7_weightOf l D cy ad y z (va_up (va_up σ 27 (gaO (goX (σ (b + 3)) (σ (b + 5)) n h x) (upd (upd (σ 27) 0 0) 1 (-1)) e)) 28 (gaW (goX (σ (b + 3)) (σ (b + 5)) n h x) (zrN (σ 28) 10) e)) (σ (b + 3)) b n (nI e) ((va_Q (by omega)).trans (va_Q (by omega))) Hb (by first | assumption | omega) (((va_R (by omega)).trans (va_R (by omega))).trans (by first | assumption | rfl))) gX5_gather_X7_weightOf rfl (by decide +kernel) rfl ⟨Nat.le_of_ble_eq_true rfl, Nat.le_of_ble_eq_true rfl⟩ ⟨rfl, rfl⟩ ⟨Nat.zero_le _, Nat.zero_le _⟩ rfl (Nat.le_of_ble_eq_true rfl) dX5_gather_58 (fun v_ τ_ H locs hq hP hS => ?_)
                obtain ⟨rfl, rfl⟩ := hq
                refine lv_iload_n hx hb dX5_gather_61 rfl (lv_at hl 4 rfl) ?_
                refine lv_icmp_ne (tgt := 81) hx hb dX5_gather_62 (by decide) (fun c62 => ?_) (fun c62 => ?_)
                · skip
                  refine lv_iinc (v := ((nI e) + 1)) (lv' := [(4, .int ((nI e) + 1)), (0, .ref (ad 27)), (1, .ref (ad b)), (2, .int h), (3, .int x)]) hx hb dX5_gather_81 hl (k := 0) rfl rfl (by decide) rfl (fun ls hl => ?_)
                  refine lv_goto (tgt := 37) hx hb dX5_gather_84 (by decide) ?_
                  exact ih37 (e + 1) (by omega) (by omega) _ _ _ _ _ ((nI_1 e).symm) (by rw [gaO, gaW, if_neg (go_n2 c62), if_neg (go_n2 c62)]) hP hS (lv_sub hl [0, 1, 2, 3, 4] rfl)
                · skip
                  refine lv_aload_n hx hb dX5_gather_65 rfl (lv_at hl 2 rfl) ?_
                  refine lv_iload hx hb dX5_gather_66 (lv_at hl 0 rfl) ?_
                  refine rp_callVI (na := 1) hx hb hml hown hts hK hA hD hP hS hl.1 b (hX7 Hb).1 (kX7 Hb _) rfl [.int (nI e)] (c_X7_holding l D cy ad y z (va_up (va_up σ 27 (gaO (goX (σ (b + 3)) (σ (b + 5)) n h x) (upd (upd (σ 27) 0 0) 1 (-1)) e)) 28 (gaW (goX (σ (b + 3)) (σ (b + 5)) n h x) (zrN (σ 28) 10) e)) (σ (b + 5)) b n (nI e) ((va_Q (by omega)).trans (va_Q (by omega))) Hb (by first | assumption | omega) (((va_R (by omega)).trans (va_R (by omega))).trans (by first | assumption | rfl))) gX5_gather_X7_holding rfl (by decide +kernel) rfl ⟨Nat.le_of_ble_eq_true rfl, Nat.le_of_ble_eq_true rfl⟩ ⟨rfl, rfl⟩ ⟨Nat.zero_le _, Nat.zero_le _⟩ rfl (Nat.le_of_ble_eq_true rfl) dX5_gather_68 (fun v_ τ_ H locs hq hP hS => ?_)
                  obtain ⟨rfl, rfl⟩ := hq
                  refine lv_iload_n hx hb dX5_gather_71 rfl (lv_at hl 3 rfl) ?_
                  refine lv_icmp_ne (tgt := 81) hx hb dX5_gather_72 (by decide) (fun c72 => ?_) (fun c72 => ?_)
                  · skip
                    refine lv_iinc (v := ((nI e) + 1)) (lv' := [(4, .int ((nI e) + 1)), (0, .ref (ad 27)), (1, .ref (ad b)), (2, .int h), (3, .int x)]) hx hb dX5_gather_81 hl (k := 0) rfl rfl (by decide) rfl (fun ls hl => ?_)
                    refine lv_goto (tgt := 37) hx hb dX5_gather_84 (by decide) ?_
                    exact ih37 (e + 1) (by omega) (by omega) _ _ _ _ _ ((nI_1 e).symm) (by rw [gaO, gaW, if_neg (go_n3 c72), if_neg (go_n3 c72)]) hP hS (lv_sub hl [0, 1, 2, 3, 4] rfl)
                  · skip
                    refine lv_aload_n hx hb dX5_gather_75 rfl (lv_at hl 1 rfl) ?_
                    refine lv_iload hx hb dX5_gather_76 (lv_at hl 0 rfl) ?_
                    refine rp_callVV (na := 1) hx hb hml hown hts hK hA hD hP hS hl.1 27 (by decide) (kX5 _) rfl [.int (nI e)] (c_X5_tally l D cy ad y z (va_up (va_up σ 27 (gaO (goX (σ (b + 3)) (σ (b + 5)) n h x) (upd (upd (σ 27) 0 0) 1 (-1)) e)) 28 (gaW (goX (σ (b + 3)) (σ (b + 5)) n h x) (zrN (σ 28) 10) e)) (gaO (goX (σ (b + 3)) (σ (b + 5)) n h x) (upd (upd (σ 27) 0 0) 1 (-1)) e) (gaW (goX (σ (b + 3)) (σ (b + 5)) n h x) (zrN (σ 28) 10) e) (nI e) ((va_Q (by decide)).trans va_Qs) va_Qs) gX5_gather_X5_tally rfl (by decide +kernel) rfl ⟨Nat.le_of_ble_eq_true rfl, Nat.le_of_ble_eq_true rfl⟩ ⟨rfl, rfl⟩ ⟨Nat.zero_le _, Nat.zero_le _⟩ rfl (Nat.le_of_ble_eq_true rfl) dX5_gather_78 (fun τ_ H locs hq hP hS => ?_)
                    subst hq
                    rw [show va_up (va_up (va_up σ 27 (gaO (goX (σ (b + 3)) (σ (b + 5)) n h x) (upd (upd (σ 27) 0 0) 1 (-1)) e)) 28 (gaW (goX (σ (b + 3)) (σ (b + 5)) n h x) (zrN (σ 28) 10) e)) 27 (T_X5_tally_RI (gaO (goX (σ (b + 3)) (σ (b + 5)) n h x) (upd (upd (σ 27) 0 0) 1 (-1)) e) (gaW (goX (σ (b + 3)) (σ (b + 5)) n h x) (zrN (σ 28) 10) e) (nI e)) = va_up (va_up σ 27 (T_X5_tally_RI (gaO (goX (σ (b + 3)) (σ (b + 5)) n h x) (upd (upd (σ 27) 0 0) 1 (-1)) e) (gaW (goX (σ (b + 3)) (σ (b + 5)) n h x) (zrN (σ 28) 10) e) (nI e))) 28 (gaW (goX (σ (b + 3)) (σ (b + 5)) n h x) (zrN (σ 28) 10) e) from ((va_in (by decide)).trans (congrArg (fun z => va_up z 28 _) (bx_uu _ _ _ _)))] at hP
                    rw [show va_up (va_up (va_up σ 27 (T_X5_tally_RI (gaO (goX (σ (b + 3)) (σ (b + 5)) n h x) (upd (upd (σ 27) 0 0) 1 (-1)) e) (gaW (goX (σ (b + 3)) (σ (b + 5)) n h x) (zrN (σ 28) 10) e) (nI e))) 28 (gaW (goX (σ (b + 3)) (σ (b + 5)) n h x) (zrN (σ 28) 10) e)) 28 (T_X5_tally_WI (gaO (goX (σ (b + 3)) (σ (b + 5)) n h x) (upd (upd (σ 27) 0 0) 1 (-1)) e) (gaW (goX (σ (b + 3)) (σ (b + 5)) n h x) (zrN (σ 28) 10) e) (nI e)) = va_up (va_up σ 27 (T_X5_tally_RI (gaO (goX (σ (b + 3)) (σ (b + 5)) n h x) (upd (upd (σ 27) 0 0) 1 (-1)) e) (gaW (goX (σ (b + 3)) (σ (b + 5)) n h x) (zrN (σ 28) 10) e) (nI e))) 28 (T_X5_tally_WI (gaO (goX (σ (b + 3)) (σ (b + 5)) n h x) (upd (upd (σ 27) 0 0) 1 (-1)) e) (gaW (goX (σ (b + 3)) (σ (b + 5)) n h x) (zrN (σ 28) 10) e) (nI e)) from (bx_uu _ _ _ _)] at hP
                    refine lv_iinc (v := ((nI e) + 1)) (lv' := [(4, .int ((nI e) + 1)), (0, .ref (ad 27)), (1, .ref (ad b)), (2, .int h), (3, .int x)]) hx hb dX5_gather_81 hl (k := 0) rfl rfl (by decide) rfl (fun ls hl => ?_)
                    refine lv_goto (tgt := 37) hx hb dX5_gather_84 (by decide) ?_
                    exact ih37 (e + 1) (by omega) (by omega) _ _ _ _ _ ((nI_1 e).symm) (by rw [gaO, gaW, if_pos (go_y c52 c62 c72), if_pos (go_y c52 c62 c72)]; rfl) hP hS (lv_sub hl [0, 1, 2, 3, 4] rfl)
        exact L37 ((2 ^ n - 0) + 1) 0 (Nat.zero_le _) (Nat.lt_succ_self _) _ _ _ _ _ (by first | rfl | simp [*]) (by rw [ec]; rfl) hP hS (lv_sub hl [0, 1, 2, 3, 4] rfl)
      · skip
        have hc2 : c < 10 := cl_in (by omega) (by omega) c17
        refine lv_aload_n hx hb dX5_gather_20 rfl (lv_at hl 1 rfl) ?_
        refine rp_get (C := RX5) (T := TX5) (N := 3) hx hb hts in_X5_gather_X5 hown hK hP 27 (by decide) (kX5 _) rfl 2 (by decide) (by decide +kernel) rfl dX5_gather_21 ?_
        refine lv_iload hx hb dX5_gather_24 (lv_at hl 0 rfl) ?_
        refine lv_iconst (v := 0) hx hb dX5_gather_26 (by decide) ?_
        refine rp_iast (x := 0) hx hb hK hP hD hS 28 (by decide) (fun f => kX5_2 f) 0 rfl c rfl (by omega) (by decide) dX5_gather_27 (fun H locs hP hS => ?_)
        rw [show up2 (va_up (va_up σ 27 (upd (upd (σ 27) 0 0) 1 (-1))) 28 (zrN (σ 28) c)) 28 c 0 = va_up (va_up σ 27 (upd (upd (σ 27) 0 0) 1 (-1))) 28 (upd (zrN (σ 28) c) c 0) from (vu_up _ _ _ _ _)] at hP
        refine lv_iinc (v := ((nI c) + 1)) (lv' := [(4, .int ((nI c) + 1)), (0, .ref (ad 27)), (1, .ref (ad b)), (2, .int h), (3, .int x)]) hx hb dX5_gather_28 hl (k := 0) rfl rfl (by decide) rfl (fun ls hl => ?_)
        refine lv_goto (tgt := 13) hx hb dX5_gather_31 (by decide) ?_
        exact ih13 (c + 1) (by omega) (by omega) _ _ _ _ _ ((nI_1 c).symm) (by rw [zrN_s]) hP hS (lv_sub hl [0, 1, 2, 3, 4] rfl)
  exact L13 ((10 - 0) + 1) 0 (Nat.zero_le _) (Nat.lt_succ_self _) _ _ _ _ _ (by first | rfl | simp [*]) (by rw [zrN_0]) hP hS (lv_sub hl [0, 1, 2, 3, 4] rfl)

theorem in_X5_frog_X5 : ∀ w ∈ u_ws RX5 TX5 3, w ∈ wsX5_frog := by decide +kernel
set_option maxHeartbeats 1000000 in
set_option maxRecDepth 100000 in
theorem c_X5_frog (l : Launch) (D : va_G) (cy : Nat → ClassId) (ad : Nat → Nat) (y z : Nat) (σ : Nat → Nat → Int32) (RI : Nat → Int32) (WI : Nat → Int32) (n : Nat) (r_RI : σ 27 = RI) (r_WI : σ 28 = WI) (hn : n ≤ 10) : MI l D (tysW cy) 109 ad (cfX ad cy y z) yX5_frog wsX5_frog ({ frames := 1, cells := 0, slots := 0, locals := 13 }) σ [.ref (ad 27), .int (nI n)] (fun v_ τ_ => ((minN (RI 0) (alX (RI 0) WI) n).1) = v_ ∧ σ = τ_) := by
  refine MI.go (cc := cX5_frog) (maxL := 6) .int (by decide) rfl (Nat.le_of_ble_eq_true rfl) ?_
  intro p_ e_ s_ m_ args_ bl_ mt_ c_ A_ Q_ ls hx hb hml hown hts hK hA hD hP hS hl hret
  have hl : lv_has ls 6 [(0, .ref (ad 27)), (1, .int (nI n))] := hl
  subst r_RI r_WI
  refine lv_iconst (v := (-1)) hx hb dX5_frog_0 (by decide) ?_
  refine lv_istore_n (lv' := [(2, .int (-1)), (0, .ref (ad 27)), (1, .int (nI n))]) hx hb dX5_frog_1 rfl hl (by decide) rfl (fun ls hl => ?_)
  refine lv_aload_n hx hb dX5_frog_2 rfl (lv_at hl 1 rfl) ?_
  refine rp_get (C := RX5) (T := TX5) (N := 3) hx hb hts in_X5_frog_X5 hown hK hP 27 (by decide) (kX5 _) rfl 0 (by decide) (by decide +kernel) rfl dX5_frog_3 ?_
  refine lv_istore_n (lv' := [(3, .int (σ 27 0)), (2, .int (-1)), (0, .ref (ad 27)), (1, .int (nI n))]) hx hb dX5_frog_6 rfl hl (by decide) rfl (fun ls hl => ?_)
  refine lv_iconst (v := 0) hx hb dX5_frog_7 (by decide) ?_
  refine lv_istore (lv' := [(4, .int 0), (3, .int (σ 27 0)), (2, .int (-1)), (0, .ref (ad 27)), (1, .int (nI n))]) hx hb dX5_frog_8 hl (by decide) rfl (fun ls hl => ?_)
  have L10 : ∀ (fu10 : Nat) (c : Nat), (c ≤ n) → n - c < fu10 → ∀ (x4 : Int32) (x3 : Int32) (x2 : Int32) (τ : Nat → Nat → Int32) (H : Heap) (locs : List Loc) (ls : Array Slot), (nI c) = x4 → ((minN (σ 27 0) (alX (σ 27 0) (σ 28)) c).2) = x3 → ((minN (σ 27 0) (alX (σ 27 0) (σ 28)) c).1) = x2 → σ = τ → va_P D classes (rw_ 109 ad (cfX ad cy y z) τ) H → va_S A_ s_.heap H locs → lv_has ls 6 [(4, .int x4), (3, .int x3), (2, .int x2), (0, .ref (ad 27)), (1, .int (nI n))] → W p_ l e_ ({ frames := 1, cells := 0, slots := 0, locals := 13 }) s_ m_ args_ bl_ mt_ c_ H locs 0 0 Q_ (F0 m_ 10 ls []) := by
    intro fu10
    induction fu10 with
    | zero => intro c hc hf; exact absurd hf (Nat.not_lt_zero _)
    | succ fu10 ih10 =>
      intro c hc hf10 x4 x3 x2 τ H locs ls ex4 ex3 ex2 eτ hP hS hl
      subst ex4
      subst ex3
      subst ex2
      subst eτ
      refine lv_iload hx hb dX5_frog_10 (lv_at hl 0 rfl) ?_
      refine lv_iload_n hx hb dX5_frog_12 rfl (lv_at hl 4 rfl) ?_
      refine lv_icmp_ge (tgt := 65) hx hb dX5_frog_13 (by decide) (fun c13 => ?_) (fun c13 => ?_)
      · skip
        have ec := cl_ex hc (by omega) c13
        refine lv_iload_n hx hb dX5_frog_65 rfl (lv_at hl 2 rfl) ?_
        exact hret hP hS dX5_frog_66 rfl ⟨(by rw [ec]), rfl⟩
      · skip
        have hc2 := cl_in (by omega) (by omega) c13
        refine lv_iload hx hb dX5_frog_16 (lv_at hl 0 rfl) ?_
        refine lv_bipush (v := 10) hx hb dX5_frog_18 (by decide) ?_
        refine lv_icmp_ge (tgt := 65) hx hb dX5_frog_20 (by decide) (fun c20 => ?_) (fun c20 => ?_)
        · skip
          exact absurd c20 (nI_ge (b := 10) (by omega) (by decide))
        · skip
          refine lv_aload_n hx hb dX5_frog_23 rfl (lv_at hl 3 rfl) ?_
          refine rp_get (C := RX5) (T := TX5) (N := 3) hx hb hts in_X5_frog_X5 hown hK hP 27 (by decide) (kX5 _) rfl 2 (by decide) (by decide +kernel) rfl dX5_frog_24 ?_
          refine lv_iload hx hb dX5_frog_27 (lv_at hl 0 rfl) ?_
          refine rp_iald hx hb hK hP 28 (by decide) (kX5_2 _) 0 rfl c rfl (by omega) (by decide) dX5_frog_29 ?_
          refine lv_aload_n hx hb dX5_frog_30 rfl (lv_at hl 3 rfl) ?_
          refine rp_get (C := RX5) (T := TX5) (N := 3) hx hb hts in_X5_frog_X5 hown hK hP 27 (by decide) (kX5 _) rfl 0 (by decide) (by decide +kernel) rfl dX5_frog_31 ?_
          refine lv_aload_n hx hb dX5_frog_34 rfl (lv_at hl 3 rfl) ?_
          refine rp_get (C := RX5) (T := TX5) (N := 3) hx hb hts in_X5_frog_X5 hown hK hP 27 (by decide) (kX5 _) rfl 2 (by decide) (by decide +kernel) rfl dX5_frog_35 ?_
          refine lv_iload hx hb dX5_frog_38 (lv_at hl 0 rfl) ?_
          refine rp_iald hx hb hK hP 28 (by decide) (kX5_2 _) 0 rfl c rfl (by omega) (by decide) dX5_frog_40 ?_
          refine lv_isub hx hb dX5_frog_41 ?_
          refine va_mmax hx hb (hml.trans hl.1.symm) hown (hts (.methodLink RX5 38 Lib.Math.max.name) (by decide +kernel)) (hts (.static Lib.Math.max.name) (by decide +kernel)) (hts (.initialized "java/lang/Math") (by decide +kernel)) (hts (.code Lib.Math.max.name Lib.Math.max.code 2 (some .int)) (by decide +kernel)) (Nat.le_of_ble_eq_true rfl) (Nat.le_of_ble_eq_true rfl) (Nat.zero_le _) (Nat.zero_le _) dX5_frog_42 ?_
          refine lv_istore (lv' := [(5, .int (if (σ 28 c) < ((σ 27 0) - (σ 28 c)) then ((σ 27 0) - (σ 28 c)) else (σ 28 c))), (4, .int (nI c)), (3, .int ((minN (σ 27 0) (alX (σ 27 0) (σ 28)) c).2)), (2, .int ((minN (σ 27 0) (alX (σ 27 0) (σ 28)) c).1)), (0, .ref (ad 27)), (1, .int (nI n))]) hx hb dX5_frog_45 hl (by decide) rfl (fun ls hl => ?_)
          refine lv_iload hx hb dX5_frog_47 (lv_at hl 0 rfl) ?_
          refine lv_iload_n hx hb dX5_frog_49 rfl (lv_at hl 2 rfl) ?_
          refine lv_icmp_ge (tgt := 59) hx hb dX5_frog_50 (by decide) (fun c50 => ?_) (fun c50 => ?_)
          · skip
            refine lv_iinc (v := ((nI c) + 1)) (lv' := [(4, .int ((nI c) + 1)), (5, .int (if (σ 28 c) < ((σ 27 0) - (σ 28 c)) then ((σ 27 0) - (σ 28 c)) else (σ 28 c))), (3, .int ((minN (σ 27 0) (alX (σ 27 0) (σ 28)) c).2)), (2, .int ((minN (σ 27 0) (alX (σ 27 0) (σ 28)) c).1)), (0, .ref (ad 27)), (1, .int (nI n))]) hx hb dX5_frog_59 hl (k := 1) rfl rfl (by decide) rfl (fun ls hl => ?_)
            refine lv_goto (tgt := 10) hx hb dX5_frog_62 (by decide) ?_
            exact ih10 (c + 1) (by omega) (by omega) _ _ _ _ _ _ _ ((nI_1 c).symm) (minN_f2 (cost := alX (σ 27 0) (σ 28)) rfl c50) (minN_f1 (cost := alX (σ 27 0) (σ 28)) rfl c50) rfl hP hS (lv_sub hl [0, 2, 3, 4, 5] rfl)
          · skip
            refine lv_iload hx hb dX5_frog_53 (lv_at hl 0 rfl) ?_
            refine lv_istore_n (lv' := [(3, .int (if (σ 28 c) < ((σ 27 0) - (σ 28 c)) then ((σ 27 0) - (σ 28 c)) else (σ 28 c))), (5, .int (if (σ 28 c) < ((σ 27 0) - (σ 28 c)) then ((σ 27 0) - (σ 28 c)) else (σ 28 c))), (4, .int (nI c)), (2, .int ((minN (σ 27 0) (alX (σ 27 0) (σ 28)) c).1)), (0, .ref (ad 27)), (1, .int (nI n))]) hx hb dX5_frog_55 rfl hl (by decide) rfl (fun ls hl => ?_)
            refine lv_iload hx hb dX5_frog_56 (lv_at hl 2 rfl) ?_
            refine lv_istore_n (lv' := [(2, .int (nI c)), (3, .int (if (σ 28 c) < ((σ 27 0) - (σ 28 c)) then ((σ 27 0) - (σ 28 c)) else (σ 28 c))), (5, .int (if (σ 28 c) < ((σ 27 0) - (σ 28 c)) then ((σ 27 0) - (σ 28 c)) else (σ 28 c))), (4, .int (nI c)), (0, .ref (ad 27)), (1, .int (nI n))]) hx hb dX5_frog_58 rfl hl (by decide) rfl (fun ls hl => ?_)
            refine lv_iinc (v := ((nI c) + 1)) (lv' := [(4, .int ((nI c) + 1)), (2, .int (nI c)), (3, .int (if (σ 28 c) < ((σ 27 0) - (σ 28 c)) then ((σ 27 0) - (σ 28 c)) else (σ 28 c))), (5, .int (if (σ 28 c) < ((σ 27 0) - (σ 28 c)) then ((σ 27 0) - (σ 28 c)) else (σ 28 c))), (0, .ref (ad 27)), (1, .int (nI n))]) hx hb dX5_frog_59 hl (k := 3) rfl rfl (by decide) rfl (fun ls hl => ?_)
            refine lv_goto (tgt := 10) hx hb dX5_frog_62 (by decide) ?_
            exact ih10 (c + 1) (by omega) (by omega) _ _ _ _ _ _ _ ((nI_1 c).symm) (minN_t2 (cost := alX (σ 27 0) (σ 28)) rfl c50) (minN_t1 (cost := alX (σ 27 0) (σ 28)) rfl c50) rfl hP hS (lv_sub hl [0, 2, 1, 4, 5] rfl)
  exact L10 ((n - 0) + 1) 0 (Nat.zero_le _) (Nat.lt_succ_self _) _ _ _ _ _ _ _ (by first | rfl | simp [*]) (by first | rfl | simp [*]) (by first | rfl | simp [*]) rfl hP hS (lv_sub hl [0, 1, 2, 3, 4] rfl)

def R_X8_fault (σ : Nat → Nat → Int32)  : Int32 := (σ 1 2)
theorem in_X8_fault_X4 : ∀ w ∈ u_ws RX4 TX4 6, w ∈ wsX8_fault := by decide +kernel
theorem in_X8_fault_X8 : ∀ w ∈ u_ws RX8 TX8 10, w ∈ wsX8_fault := by decide +kernel
set_option maxHeartbeats 1000000 in
set_option maxRecDepth 100000 in
theorem c_X8_fault (l : Launch) (D : va_G) (cy : Nat → ClassId) (ad : Nat → Nat) (y z : Nat) (σ : Nat → Nat → Int32)   : MI l D (tysW cy) 109 ad (cfX ad cy y z) yX8_fault wsX8_fault ({ frames := 0, cells := 0, slots := 0, locals := 0 }) σ [.ref (ad 0)] (fun v_ τ_ => (R_X8_fault σ) = v_ ∧ σ = τ_) := by
  refine MI.go (cc := cX8_fault) (maxL := 1) .int (by decide) rfl (Nat.le_of_ble_eq_true rfl) ?_
  intro p_ e_ s_ m_ args_ bl_ mt_ c_ A_ Q_ ls hx hb hml hown hts hK hA hD hP hS hl hret
  have hl : lv_has ls 1 [(0, .ref (ad 0))] := hl
  refine lv_aload_n hx hb dX8_fault_0 rfl (lv_at hl 0 rfl) ?_
  refine rp_get (C := RX8) (T := TX8) (N := 10) hx hb hts in_X8_fault_X8 hown hK hP 0 (by decide) (kX8 _) rfl 0 (by decide) (by decide +kernel) rfl dX8_fault_1 ?_
  refine rp_get (C := RX4) (T := TX4) (N := 6) hx hb hts in_X8_fault_X4 hown hK hP 1 (by decide) (kX4 _) rfl 2 (by decide) (by decide +kernel) rfl dX8_fault_4 ?_
  exact hret hP hS dX8_fault_7 rfl ⟨(by unfold R_X8_fault <;> first | with_reducible rfl), rfl⟩

def R_X8_told (σ : Nat → Nat → Int32) (y : Nat) (n : Nat) (v : Int32) : Int32 := (if v = 0 then (σ y 3) else (if v = 1 then (σ y 5) else (if v = 2 then (σ y 10) else (if v = 3 then (σ 1 1) else (if v = 4 then (σ (29 + 4 * 0) 3) else (if v = 5 then (σ (29 + 4 * 0) 0) else (if v = 6 then (σ (29 + 4 * 0) 1) else (if v = 7 then (holdN (σ (y + 5)) (σ (29 + 4 * 0) 4) n) else (if v = 8 then (σ (29 + 4 * 0) 4) else (if v = 9 then (σ (29 + 4 * 0) 5) else (if v = 10 then (σ (29 + 4 * 0) 2) else (if v = 11 then ((sumN (σ (y + 4)) (holdN (σ (y + 5)) (σ (29 + 4 * 0) 4) n) n) + 1000) else (if v = 12 then ((heavN (σ (y + 5)) (σ (29 + 4 * 0) 4) n n).1) else (if v = 13 then (σ (29 + 4 * 0) 7) else (if v = 14 then (σ 19 0) else (if v = 15 then (σ 17 2) else (if v = 16 then (σ y 2) else (-1000000002))))))))))))))))))
theorem in_X8_told_X0 : ∀ w ∈ u_ws RX0 TX0 3, w ∈ wsX8_told := by decide +kernel
theorem in_X8_told_X3 : ∀ w ∈ u_ws RX3 TX3 3, w ∈ wsX8_told := by decide +kernel
theorem in_X8_told_X4 : ∀ w ∈ u_ws RX4 TX4 6, w ∈ wsX8_told := by decide +kernel
theorem in_X8_told_X6 : ∀ w ∈ u_ws RX6 TX6 10, w ∈ wsX8_told := by decide +kernel
theorem in_X8_told_X7 : ∀ w ∈ u_ws RX7 TX7 12, w ∈ wsX8_told := by decide +kernel
theorem in_X8_told_X8 : ∀ w ∈ u_ws RX8 TX8 10, w ∈ wsX8_told := by decide +kernel
set_option maxHeartbeats 1000000 in
set_option maxRecDepth 100000 in
theorem c_X8_told (l : Launch) (D : va_G) (cy : Nat → ClassId) (ad : Nat → Nat) (y z : Nat) (σ : Nat → Nat → Int32) (n : Nat) (v : Int32) (hy : y = 3 ∨ y = 10) (hn : n ≤ 10) (en : σ y 5 = nI n) : MI l D (tysW cy) 109 ad (cfX ad cy y z) yX8_told wsX8_told ({ frames := 4, cells := 0, slots := 0, locals := 91 }) σ [.ref (ad 0), .int v] (fun v_ τ_ => (R_X8_told σ y n v) = v_ ∧ σ = τ_) := by
  refine MI.go (cc := cX8_told) (maxL := 2) .int (by decide) rfl (Nat.le_of_ble_eq_true rfl) ?_
  intro p_ e_ s_ m_ args_ bl_ mt_ c_ A_ Q_ ls hx hb hml hown hts hK hA hD hP hS hl hret
  have hl : lv_has ls 2 [(0, .ref (ad 0)), (1, .int v)] := hl
  refine lv_iload_n hx hb dX8_told_0 rfl (lv_at hl 1 rfl) ?_
  rcases Decidable.em (v = 0) with k1_0 | k1_0
  · skip
    refine lv_tableIn (off := 83) (tgt := 84) hx hb dX8_told_1 (by rw [k1_0]; decide) (by rw [k1_0]; decide) (by rw [k1_0]; decide) (by decide) ?_
    refine lv_aload_n hx hb dX8_told_84 rfl (lv_at hl 0 rfl) ?_
    refine rp_get (C := RX8) (T := TX8) (N := 10) hx hb hts in_X8_told_X8 hown hK hP 0 (by decide) (kX8 _) rfl 1 (by decide) (by decide +kernel) rfl dX8_told_85 ?_
    refine rp_get (C := RX7) (T := TX7) (N := 12) hx hb hts in_X8_told_X7 hown hK hP y (hX7 hy).1 (kX7 hy _) rfl 3 (by decide) (by decide +kernel) rfl dX8_told_88 ?_
    exact hret hP hS dX8_told_91 rfl ⟨(by unfold R_X8_told <;> rw [if_pos k1_0] <;> first | with_reducible rfl), rfl⟩
  rcases Decidable.em (v = 1) with k1_1 | k1_1
  · skip
    refine lv_tableIn (off := 91) (tgt := 92) hx hb dX8_told_1 (by rw [k1_1]; decide) (by rw [k1_1]; decide) (by rw [k1_1]; decide) (by decide) ?_
    refine lv_aload_n hx hb dX8_told_92 rfl (lv_at hl 0 rfl) ?_
    refine rp_get (C := RX8) (T := TX8) (N := 10) hx hb hts in_X8_told_X8 hown hK hP 0 (by decide) (kX8 _) rfl 1 (by decide) (by decide +kernel) rfl dX8_told_93 ?_
    refine rp_get (C := RX7) (T := TX7) (N := 12) hx hb hts in_X8_told_X7 hown hK hP y (hX7 hy).1 (kX7 hy _) rfl 5 (by decide) (by decide +kernel) rfl dX8_told_96 ?_
    exact hret hP hS dX8_told_99 rfl ⟨(by unfold R_X8_told <;> rw [if_neg k1_0, if_pos k1_1] <;> first | with_reducible rfl), rfl⟩
  rcases Decidable.em (v = 2) with k1_2 | k1_2
  · skip
    refine lv_tableIn (off := 99) (tgt := 100) hx hb dX8_told_1 (by rw [k1_2]; decide) (by rw [k1_2]; decide) (by rw [k1_2]; decide) (by decide) ?_
    refine lv_aload_n hx hb dX8_told_100 rfl (lv_at hl 0 rfl) ?_
    refine rp_get (C := RX8) (T := TX8) (N := 10) hx hb hts in_X8_told_X8 hown hK hP 0 (by decide) (kX8 _) rfl 1 (by decide) (by decide +kernel) rfl dX8_told_101 ?_
    refine rp_get (C := RX7) (T := TX7) (N := 12) hx hb hts in_X8_told_X7 hown hK hP y (hX7 hy).1 (kX7 hy _) rfl 10 (by decide) (by decide +kernel) rfl dX8_told_104 ?_
    exact hret hP hS dX8_told_107 rfl ⟨(by unfold R_X8_told <;> rw [if_neg k1_0, if_neg k1_1, if_pos k1_2] <;> first | with_reducible rfl), rfl⟩
  rcases Decidable.em (v = 3) with k1_3 | k1_3
  · skip
    refine lv_tableIn (off := 107) (tgt := 108) hx hb dX8_told_1 (by rw [k1_3]; decide) (by rw [k1_3]; decide) (by rw [k1_3]; decide) (by decide) ?_
    refine lv_aload_n hx hb dX8_told_108 rfl (lv_at hl 0 rfl) ?_
    refine rp_get (C := RX8) (T := TX8) (N := 10) hx hb hts in_X8_told_X8 hown hK hP 0 (by decide) (kX8 _) rfl 0 (by decide) (by decide +kernel) rfl dX8_told_109 ?_
    refine rp_get (C := RX4) (T := TX4) (N := 6) hx hb hts in_X8_told_X4 hown hK hP 1 (by decide) (kX4 _) rfl 1 (by decide) (by decide +kernel) rfl dX8_told_112 ?_
    exact hret hP hS dX8_told_115 rfl ⟨(by unfold R_X8_told <;> rw [if_neg k1_0, if_neg k1_1, if_neg k1_2, if_pos k1_3] <;> first | with_reducible rfl), rfl⟩
  rcases Decidable.em (v = 4) with k1_4 | k1_4
  · skip
    refine lv_tableIn (off := 115) (tgt := 116) hx hb dX8_told_1 (by rw [k1_4]; decide) (by rw [k1_4]; decide) (by rw [k1_4]; decide) (by decide) ?_
    refine lv_aload_n hx hb dX8_told_116 rfl (lv_at hl 0 rfl) ?_
    refine rp_get (C := RX8) (T := TX8) (N := 10) hx hb hts in_X8_told_X8 hown hK hP 0 (by decide) (kX8 _) rfl 3 (by decide) (by decide +kernel) rfl dX8_told_117 ?_
    refine rp_get (C := RX6) (T := TX6) (N := 10) hx hb hts in_X8_told_X6 hown hK hP (29 + 4 * 0) (hX6 (i := 0) (by decide : 0 < 20)).1 (kX6 (i := 0) _) rfl 3 (by decide) (by decide +kernel) rfl dX8_told_120 ?_
    exact hret hP hS dX8_told_123 rfl ⟨(by unfold R_X8_told <;> rw [if_neg k1_0, if_neg k1_1, if_neg k1_2, if_neg k1_3, if_pos k1_4] <;> first | with_reducible rfl), rfl⟩
  rcases Decidable.em (v = 5) with k1_5 | k1_5
  · skip
    refine lv_tableIn (off := 123) (tgt := 124) hx hb dX8_told_1 (by rw [k1_5]; decide) (by rw [k1_5]; decide) (by rw [k1_5]; decide) (by decide) ?_
    refine lv_aload_n hx hb dX8_told_124 rfl (lv_at hl 0 rfl) ?_
    refine rp_get (C := RX8) (T := TX8) (N := 10) hx hb hts in_X8_told_X8 hown hK hP 0 (by decide) (kX8 _) rfl 3 (by decide) (by decide +kernel) rfl dX8_told_125 ?_
    refine rp_get (C := RX6) (T := TX6) (N := 10) hx hb hts in_X8_told_X6 hown hK hP (29 + 4 * 0) (hX6 (i := 0) (by decide : 0 < 20)).1 (kX6 (i := 0) _) rfl 0 (by decide) (by decide +kernel) rfl dX8_told_128 ?_
    exact hret hP hS dX8_told_131 rfl ⟨(by unfold R_X8_told <;> rw [if_neg k1_0, if_neg k1_1, if_neg k1_2, if_neg k1_3, if_neg k1_4, if_pos k1_5] <;> first | with_reducible rfl), rfl⟩
  rcases Decidable.em (v = 6) with k1_6 | k1_6
  · skip
    refine lv_tableIn (off := 131) (tgt := 132) hx hb dX8_told_1 (by rw [k1_6]; decide) (by rw [k1_6]; decide) (by rw [k1_6]; decide) (by decide) ?_
    refine lv_aload_n hx hb dX8_told_132 rfl (lv_at hl 0 rfl) ?_
    refine rp_get (C := RX8) (T := TX8) (N := 10) hx hb hts in_X8_told_X8 hown hK hP 0 (by decide) (kX8 _) rfl 3 (by decide) (by decide +kernel) rfl dX8_told_133 ?_
    refine rp_get (C := RX6) (T := TX6) (N := 10) hx hb hts in_X8_told_X6 hown hK hP (29 + 4 * 0) (hX6 (i := 0) (by decide : 0 < 20)).1 (kX6 (i := 0) _) rfl 1 (by decide) (by decide +kernel) rfl dX8_told_136 ?_
    exact hret hP hS dX8_told_139 rfl ⟨(by unfold R_X8_told <;> rw [if_neg k1_0, if_neg k1_1, if_neg k1_2, if_neg k1_3, if_neg k1_4, if_neg k1_5, if_pos k1_6] <;> first | with_reducible rfl), rfl⟩
  rcases Decidable.em (v = 7) with k1_7 | k1_7
  · skip
    refine lv_tableIn (off := 139) (tgt := 140) hx hb dX8_told_1 (by rw [k1_7]; decide) (by rw [k1_7]; decide) (by rw [k1_7]; decide) (by decide) ?_
    refine lv_aload_n hx hb dX8_told_140 rfl (lv_at hl 0 rfl) ?_
    refine rp_get (C := RX8) (T := TX8) (N := 10) hx hb hts in_X8_told_X8 hown hK hP 0 (by decide) (kX8 _) rfl 1 (by decide) (by decide +kernel) rfl dX8_told_141 ?_
    refine lv_aload_n hx hb dX8_told_144 rfl (lv_at hl 0 rfl) ?_
    refine rp_get (C := RX8) (T := TX8) (N := 10) hx hb hts in_X8_told_X8 hown hK hP 0 (by decide) (kX8 _) rfl 3 (by decide) (by decide +kernel) rfl dX8_told_145 ?_
    refine rp_get (C := RX6) (T := TX6) (N := 10) hx hb hts in_X8_told_X6 hown hK hP (29 + 4 * 0) (hX6 (i := 0) (by decide : 0 < 20)).1 (kX6 (i := 0) _) rfl 4 (by decide) (by decide +kernel) rfl dX8_told_148 ?_
    refine rp_callVI (na := 1) hx hb hml hown hts hK hA hD hP hS hl.1 y (hX7 hy).1 (kX7 hy _) rfl [.int (σ (29 + 4 * 0) 4)] (c_X7_holding l D cy ad y z σ (σ (y + 5)) y n (σ (29 + 4 * 0) 4) rfl hy (by first | assumption | omega) (by first | assumption | rfl)) gX8_told_X7_holding rfl (by decide +kernel) rfl ⟨Nat.le_of_ble_eq_true rfl, Nat.le_of_ble_eq_true rfl⟩ ⟨rfl, rfl⟩ ⟨Nat.zero_le _, Nat.zero_le _⟩ rfl (Nat.le_of_ble_eq_true rfl) dX8_told_151 (fun v_ τ_ H locs hq hP hS => ?_)
    obtain ⟨rfl, rfl⟩ := hq
    exact hret hP hS dX8_told_154 rfl ⟨(by unfold R_X8_told <;> rw [if_neg k1_0, if_neg k1_1, if_neg k1_2, if_neg k1_3, if_neg k1_4, if_neg k1_5, if_neg k1_6, if_pos k1_7] <;> first | with_reducible rfl), rfl⟩
  rcases Decidable.em (v = 8) with k1_8 | k1_8
  · skip
    refine lv_tableIn (off := 154) (tgt := 155) hx hb dX8_told_1 (by rw [k1_8]; decide) (by rw [k1_8]; decide) (by rw [k1_8]; decide) (by decide) ?_
    refine lv_aload_n hx hb dX8_told_155 rfl (lv_at hl 0 rfl) ?_
    refine rp_get (C := RX8) (T := TX8) (N := 10) hx hb hts in_X8_told_X8 hown hK hP 0 (by decide) (kX8 _) rfl 3 (by decide) (by decide +kernel) rfl dX8_told_156 ?_
    refine rp_get (C := RX6) (T := TX6) (N := 10) hx hb hts in_X8_told_X6 hown hK hP (29 + 4 * 0) (hX6 (i := 0) (by decide : 0 < 20)).1 (kX6 (i := 0) _) rfl 4 (by decide) (by decide +kernel) rfl dX8_told_159 ?_
    exact hret hP hS dX8_told_162 rfl ⟨(by unfold R_X8_told <;> rw [if_neg k1_0, if_neg k1_1, if_neg k1_2, if_neg k1_3, if_neg k1_4, if_neg k1_5, if_neg k1_6, if_neg k1_7, if_pos k1_8] <;> first | with_reducible rfl), rfl⟩
  rcases Decidable.em (v = 9) with k1_9 | k1_9
  · skip
    refine lv_tableIn (off := 162) (tgt := 163) hx hb dX8_told_1 (by rw [k1_9]; decide) (by rw [k1_9]; decide) (by rw [k1_9]; decide) (by decide) ?_
    refine lv_aload_n hx hb dX8_told_163 rfl (lv_at hl 0 rfl) ?_
    refine rp_get (C := RX8) (T := TX8) (N := 10) hx hb hts in_X8_told_X8 hown hK hP 0 (by decide) (kX8 _) rfl 3 (by decide) (by decide +kernel) rfl dX8_told_164 ?_
    refine rp_get (C := RX6) (T := TX6) (N := 10) hx hb hts in_X8_told_X6 hown hK hP (29 + 4 * 0) (hX6 (i := 0) (by decide : 0 < 20)).1 (kX6 (i := 0) _) rfl 5 (by decide) (by decide +kernel) rfl dX8_told_167 ?_
    exact hret hP hS dX8_told_170 rfl ⟨(by unfold R_X8_told <;> rw [if_neg k1_0, if_neg k1_1, if_neg k1_2, if_neg k1_3, if_neg k1_4, if_neg k1_5, if_neg k1_6, if_neg k1_7, if_neg k1_8, if_pos k1_9] <;> first | with_reducible rfl), rfl⟩
  rcases Decidable.em (v = 10) with k1_10 | k1_10
  · skip
    refine lv_tableIn (off := 170) (tgt := 171) hx hb dX8_told_1 (by rw [k1_10]; decide) (by rw [k1_10]; decide) (by rw [k1_10]; decide) (by decide) ?_
    refine lv_aload_n hx hb dX8_told_171 rfl (lv_at hl 0 rfl) ?_
    refine rp_get (C := RX8) (T := TX8) (N := 10) hx hb hts in_X8_told_X8 hown hK hP 0 (by decide) (kX8 _) rfl 3 (by decide) (by decide +kernel) rfl dX8_told_172 ?_
    refine rp_get (C := RX6) (T := TX6) (N := 10) hx hb hts in_X8_told_X6 hown hK hP (29 + 4 * 0) (hX6 (i := 0) (by decide : 0 < 20)).1 (kX6 (i := 0) _) rfl 2 (by decide) (by decide +kernel) rfl dX8_told_175 ?_
    exact hret hP hS dX8_told_178 rfl ⟨(by unfold R_X8_told <;> rw [if_neg k1_0, if_neg k1_1, if_neg k1_2, if_neg k1_3, if_neg k1_4, if_neg k1_5, if_neg k1_6, if_neg k1_7, if_neg k1_8, if_neg k1_9, if_pos k1_10] <;> first | with_reducible rfl), rfl⟩
  rcases Decidable.em (v = 11) with k1_11 | k1_11
  · skip
    refine lv_tableIn (off := 178) (tgt := 179) hx hb dX8_told_1 (by rw [k1_11]; decide) (by rw [k1_11]; decide) (by rw [k1_11]; decide) (by decide) ?_
    refine lv_aload_n hx hb dX8_told_179 rfl (lv_at hl 0 rfl) ?_
    refine rp_get (C := RX8) (T := TX8) (N := 10) hx hb hts in_X8_told_X8 hown hK hP 0 (by decide) (kX8 _) rfl 1 (by decide) (by decide +kernel) rfl dX8_told_180 ?_
    refine lv_aload_n hx hb dX8_told_183 rfl (lv_at hl 0 rfl) ?_
    refine rp_get (C := RX8) (T := TX8) (N := 10) hx hb hts in_X8_told_X8 hown hK hP 0 (by decide) (kX8 _) rfl 1 (by decide) (by decide +kernel) rfl dX8_told_184 ?_
    refine lv_aload_n hx hb dX8_told_187 rfl (lv_at hl 0 rfl) ?_
    refine rp_get (C := RX8) (T := TX8) (N := 10) hx hb hts in_X8_told_X8 hown hK hP 0 (by decide) (kX8 _) rfl 3 (by decide) (by decide +kernel) rfl dX8_told_188 ?_
    refine rp_get (C := RX6) (T := TX6) (N := 10) hx hb hts in_X8_told_X6 hown hK hP (29 + 4 * 0) (hX6 (i := 0) (by decide : 0 < 20)).1 (kX6 (i := 0) _) rfl 4 (by decide) (by decide +kernel) rfl dX8_told_191 ?_
    refine rp_callVI (na := 1) hx hb hml hown hts hK hA hD hP hS hl.1 y (hX7 hy).1 (kX7 hy _) rfl [.int (σ (29 + 4 * 0) 4)] (c_X7_holding l D cy ad y z σ (σ (y + 5)) y n (σ (29 + 4 * 0) 4) rfl hy (by first | assumption | omega) (by first | assumption | rfl)) gX8_told_X7_holding rfl (by decide +kernel) rfl ⟨Nat.le_of_ble_eq_true rfl, Nat.le_of_ble_eq_true rfl⟩ ⟨rfl, rfl⟩ ⟨Nat.zero_le _, Nat.zero_le _⟩ rfl (Nat.le_of_ble_eq_true rfl) dX8_told_194 (fun v_ τ_ H locs hq hP hS => ?_)
    obtain ⟨rfl, rfl⟩ := hq
    refine rp_callVI (na := 1) hx hb hml hown hts hK hA hD hP hS hl.1 y (hX7 hy).1 (kX7 hy _) rfl [.int (holdN (σ (y + 5)) (σ (29 + 4 * 0) 4) n)] (c_X7_worthOf l D cy ad y z σ (σ (y + 4)) y n (holdN (σ (y + 5)) (σ (29 + 4 * 0) 4) n) rfl hy (by first | assumption | omega) (by first | assumption | rfl)) gX8_told_X7_worthOf rfl (by decide +kernel) rfl ⟨Nat.le_of_ble_eq_true rfl, Nat.le_of_ble_eq_true rfl⟩ ⟨rfl, rfl⟩ ⟨Nat.zero_le _, Nat.zero_le _⟩ rfl (Nat.le_of_ble_eq_true rfl) dX8_told_197 (fun v_ τ_ H locs hq hP hS => ?_)
    obtain ⟨rfl, rfl⟩ := hq
    refine lv_sipush (v := 1000) hx hb dX8_told_200 (by decide) ?_
    refine lv_iadd hx hb dX8_told_203 ?_
    exact hret hP hS dX8_told_204 rfl ⟨(by unfold R_X8_told <;> rw [if_neg k1_0, if_neg k1_1, if_neg k1_2, if_neg k1_3, if_neg k1_4, if_neg k1_5, if_neg k1_6, if_neg k1_7, if_neg k1_8, if_neg k1_9, if_neg k1_10, if_pos k1_11] <;> first | with_reducible rfl), rfl⟩
  rcases Decidable.em (v = 12) with k1_12 | k1_12
  · skip
    refine lv_tableIn (off := 204) (tgt := 205) hx hb dX8_told_1 (by rw [k1_12]; decide) (by rw [k1_12]; decide) (by rw [k1_12]; decide) (by decide) ?_
    refine lv_aload_n hx hb dX8_told_205 rfl (lv_at hl 0 rfl) ?_
    refine rp_get (C := RX8) (T := TX8) (N := 10) hx hb hts in_X8_told_X8 hown hK hP 0 (by decide) (kX8 _) rfl 1 (by decide) (by decide +kernel) rfl dX8_told_206 ?_
    refine lv_aload_n hx hb dX8_told_209 rfl (lv_at hl 0 rfl) ?_
    refine rp_get (C := RX8) (T := TX8) (N := 10) hx hb hts in_X8_told_X8 hown hK hP 0 (by decide) (kX8 _) rfl 3 (by decide) (by decide +kernel) rfl dX8_told_210 ?_
    refine rp_get (C := RX6) (T := TX6) (N := 10) hx hb hts in_X8_told_X6 hown hK hP (29 + 4 * 0) (hX6 (i := 0) (by decide : 0 < 20)).1 (kX6 (i := 0) _) rfl 4 (by decide) (by decide +kernel) rfl dX8_told_213 ?_
    refine rp_callVI (na := 1) hx hb hml hown hts hK hA hD hP hS hl.1 y (hX7 hy).1 (kX7 hy _) rfl [.int (σ (29 + 4 * 0) 4)] (c_X7_heaviest l D cy ad y z σ (σ (y + 5)) y n (σ (29 + 4 * 0) 4) rfl hy (by first | assumption | omega) (by first | assumption | rfl)) gX8_told_X7_heaviest rfl (by decide +kernel) rfl ⟨Nat.le_of_ble_eq_true rfl, Nat.le_of_ble_eq_true rfl⟩ ⟨rfl, rfl⟩ ⟨Nat.zero_le _, Nat.zero_le _⟩ rfl (Nat.le_of_ble_eq_true rfl) dX8_told_216 (fun v_ τ_ H locs hq hP hS => ?_)
    obtain ⟨rfl, rfl⟩ := hq
    exact hret hP hS dX8_told_219 rfl ⟨(by unfold R_X8_told <;> rw [if_neg k1_0, if_neg k1_1, if_neg k1_2, if_neg k1_3, if_neg k1_4, if_neg k1_5, if_neg k1_6, if_neg k1_7, if_neg k1_8, if_neg k1_9, if_neg k1_10, if_neg k1_11, if_pos k1_12] <;> first | with_reducible rfl), rfl⟩
  rcases Decidable.em (v = 13) with k1_13 | k1_13
  · skip
    refine lv_tableIn (off := 219) (tgt := 220) hx hb dX8_told_1 (by rw [k1_13]; decide) (by rw [k1_13]; decide) (by rw [k1_13]; decide) (by decide) ?_
    refine lv_aload_n hx hb dX8_told_220 rfl (lv_at hl 0 rfl) ?_
    refine rp_get (C := RX8) (T := TX8) (N := 10) hx hb hts in_X8_told_X8 hown hK hP 0 (by decide) (kX8 _) rfl 3 (by decide) (by decide +kernel) rfl dX8_told_221 ?_
    refine rp_get (C := RX6) (T := TX6) (N := 10) hx hb hts in_X8_told_X6 hown hK hP (29 + 4 * 0) (hX6 (i := 0) (by decide : 0 < 20)).1 (kX6 (i := 0) _) rfl 7 (by decide) (by decide +kernel) rfl dX8_told_224 ?_
    exact hret hP hS dX8_told_227 rfl ⟨(by unfold R_X8_told <;> rw [if_neg k1_0, if_neg k1_1, if_neg k1_2, if_neg k1_3, if_neg k1_4, if_neg k1_5, if_neg k1_6, if_neg k1_7, if_neg k1_8, if_neg k1_9, if_neg k1_10, if_neg k1_11, if_neg k1_12, if_pos k1_13] <;> first | with_reducible rfl), rfl⟩
  rcases Decidable.em (v = 14) with k1_14 | k1_14
  · skip
    refine lv_tableIn (off := 227) (tgt := 228) hx hb dX8_told_1 (by rw [k1_14]; decide) (by rw [k1_14]; decide) (by rw [k1_14]; decide) (by decide) ?_
    refine lv_aload_n hx hb dX8_told_228 rfl (lv_at hl 0 rfl) ?_
    refine rp_get (C := RX8) (T := TX8) (N := 10) hx hb hts in_X8_told_X8 hown hK hP 0 (by decide) (kX8 _) rfl 6 (by decide) (by decide +kernel) rfl dX8_told_229 ?_
    refine rp_get (C := RX0) (T := TX0) (N := 3) hx hb hts in_X8_told_X0 hown hK hP 19 (by decide) (kX0 _) rfl 0 (by decide) (by decide +kernel) rfl dX8_told_232 ?_
    exact hret hP hS dX8_told_235 rfl ⟨(by unfold R_X8_told <;> rw [if_neg k1_0, if_neg k1_1, if_neg k1_2, if_neg k1_3, if_neg k1_4, if_neg k1_5, if_neg k1_6, if_neg k1_7, if_neg k1_8, if_neg k1_9, if_neg k1_10, if_neg k1_11, if_neg k1_12, if_neg k1_13, if_pos k1_14] <;> first | with_reducible rfl), rfl⟩
  rcases Decidable.em (v = 15) with k1_15 | k1_15
  · skip
    refine lv_tableIn (off := 235) (tgt := 236) hx hb dX8_told_1 (by rw [k1_15]; decide) (by rw [k1_15]; decide) (by rw [k1_15]; decide) (by decide) ?_
    refine lv_aload_n hx hb dX8_told_236 rfl (lv_at hl 0 rfl) ?_
    refine rp_get (C := RX8) (T := TX8) (N := 10) hx hb hts in_X8_told_X8 hown hK hP 0 (by decide) (kX8 _) rfl 5 (by decide) (by decide +kernel) rfl dX8_told_237 ?_
    refine rp_get (C := RX3) (T := TX3) (N := 3) hx hb hts in_X8_told_X3 hown hK hP 17 (by decide) (kX3 _) rfl 2 (by decide) (by decide +kernel) rfl dX8_told_240 ?_
    exact hret hP hS dX8_told_243 rfl ⟨(by unfold R_X8_told <;> rw [if_neg k1_0, if_neg k1_1, if_neg k1_2, if_neg k1_3, if_neg k1_4, if_neg k1_5, if_neg k1_6, if_neg k1_7, if_neg k1_8, if_neg k1_9, if_neg k1_10, if_neg k1_11, if_neg k1_12, if_neg k1_13, if_neg k1_14, if_pos k1_15] <;> first | with_reducible rfl), rfl⟩
  rcases Decidable.em (v = 16) with k1_16 | k1_16
  · skip
    refine lv_tableIn (off := 243) (tgt := 244) hx hb dX8_told_1 (by rw [k1_16]; decide) (by rw [k1_16]; decide) (by rw [k1_16]; decide) (by decide) ?_
    refine lv_aload_n hx hb dX8_told_244 rfl (lv_at hl 0 rfl) ?_
    refine rp_get (C := RX8) (T := TX8) (N := 10) hx hb hts in_X8_told_X8 hown hK hP 0 (by decide) (kX8 _) rfl 1 (by decide) (by decide +kernel) rfl dX8_told_245 ?_
    refine rp_get (C := RX7) (T := TX7) (N := 12) hx hb hts in_X8_told_X7 hown hK hP y (hX7 hy).1 (kX7 hy _) rfl 2 (by decide) (by decide +kernel) rfl dX8_told_248 ?_
    exact hret hP hS dX8_told_251 rfl ⟨(by unfold R_X8_told <;> rw [if_neg k1_0, if_neg k1_1, if_neg k1_2, if_neg k1_3, if_neg k1_4, if_neg k1_5, if_neg k1_6, if_neg k1_7, if_neg k1_8, if_neg k1_9, if_neg k1_10, if_neg k1_11, if_neg k1_12, if_neg k1_13, if_neg k1_14, if_neg k1_15, if_pos k1_16] <;> first | with_reducible rfl), rfl⟩
  have ko : (v).toInt < 0 ∨ 16 < (v).toInt := by
    have j0 := sw_ne k1_0
    have j1 := sw_ne k1_1
    have j2 := sw_ne k1_2
    have j3 := sw_ne k1_3
    have j4 := sw_ne k1_4
    have j5 := sw_ne k1_5
    have j6 := sw_ne k1_6
    have j7 := sw_ne k1_7
    have j8 := sw_ne k1_8
    have j9 := sw_ne k1_9
    have j10 := sw_ne k1_10
    have j11 := sw_ne k1_11
    have j12 := sw_ne k1_12
    have j13 := sw_ne k1_13
    have j14 := sw_ne k1_14
    have j15 := sw_ne k1_15
    have j16 := sw_ne k1_16
    simp only [sw_0, sw_1, sw_2, sw_3, sw_4, sw_5, sw_6, sw_7, sw_8, sw_9, sw_10, sw_11, sw_12, sw_13, sw_14, sw_15, sw_16] at j0 j1 j2 j3 j4 j5 j6 j7 j8 j9 j10 j11 j12 j13 j14 j15 j16
    omega
  refine lv_tableOut (tgt := 252) hx hb dX8_told_1 ko (by decide) ?_
  refine lv_ldc (v := (-1000000002)) hx hb hown (hts (.constant RX8 71 (-1000000002)) (by decide +kernel)) dX8_told_252 ?_
  exact hret hP hS dX8_told_254 rfl ⟨(by unfold R_X8_told <;> rw [if_neg k1_0, if_neg k1_1, if_neg k1_2, if_neg k1_3, if_neg k1_4, if_neg k1_5, if_neg k1_6, if_neg k1_7, if_neg k1_8, if_neg k1_9, if_neg k1_10, if_neg k1_11, if_neg k1_12, if_neg k1_13, if_neg k1_14, if_neg k1_15, if_neg k1_16] <;> first | with_reducible rfl), rfl⟩

def R_X8_saying (σ : Nat → Nat → Int32) (y : Nat) (n : Nat) (v : Int32) (w : Int32) : Int32 := (if (0 ≤ v ∧ ¬ nI n ≤ v) then (if w = 0 then (σ (y + 2) (v.toNatClampNeg)) else (if w = 1 then (σ (y + 3) (v.toNatClampNeg)) else (if w = 2 then ((σ (y + 4) (v.toNatClampNeg)) + 1000) else (if w = 3 then (σ (29 + 4 * 0 + 1) (v.toNatClampNeg)) else (if w = 4 then (dLast (σ (y + 5)) (σ (y + 6)) ((v.toNatClampNeg) + 1)) else (if w = 5 then (rtD (σ (y + 5)) n ((1 : Int32) <<< (nI (v.toNatClampNeg) &&& 31)) 0) else (if w = 6 then (fallN (σ (y + 5)) (σ (29 + 4 * 0) 4) v n) else (if w = 7 then (σ (y + 5) (v.toNatClampNeg)) else (-1000000002))))))))) else (-1000000001))
def T_X8_saying (σ : Nat → Nat → Int32) (y : Nat) (n : Nat) (v : Int32) (w : Int32) : Nat → Nat → Int32 := (if (0 ≤ v ∧ ¬ nI n ≤ v) then (if w = 0 then σ else (if w = 1 then σ else (if w = 2 then σ else (if w = 3 then σ else (if w = 4 then va_up σ (y + 6) (dRowX (σ (y + 5)) (σ (y + 6)) ((v.toNatClampNeg) + 1)) else (if w = 5 then σ else (if w = 6 then σ else (if w = 7 then σ else σ)))))))) else σ)
theorem in_X8_saying_X6 : ∀ w ∈ u_ws RX6 TX6 10, w ∈ wsX8_saying := by decide +kernel
theorem in_X8_saying_X7 : ∀ w ∈ u_ws RX7 TX7 12, w ∈ wsX8_saying := by decide +kernel
theorem in_X8_saying_X8 : ∀ w ∈ u_ws RX8 TX8 10, w ∈ wsX8_saying := by decide +kernel
set_option maxHeartbeats 1000000 in
set_option maxRecDepth 100000 in
theorem c_X8_saying (l : Launch) (D : va_G) (cy : Nat → ClassId) (ad : Nat → Nat) (y z : Nat) (σ : Nat → Nat → Int32) (n : Nat) (v : Int32) (w : Int32) (hy : y = 3 ∨ y = 10) (hn : n ≤ 10) (en : σ y 5 = nI n) : MI l D (tysW cy) 109 ad (cfX ad cy y z) yX8_saying wsX8_saying ({ frames := 3, cells := 0, slots := 0, locals := 66 }) σ [.ref (ad 0), .int v, .int w] (fun v_ τ_ => (R_X8_saying σ y n v w) = v_ ∧ (T_X8_saying σ y n v w) = τ_) := by
  refine MI.go (cc := cX8_saying) (maxL := 3) .int (by decide) rfl (Nat.le_of_ble_eq_true rfl) ?_
  intro p_ e_ s_ m_ args_ bl_ mt_ c_ A_ Q_ ls hx hb hml hown hts hK hA hD hP hS hl hret
  have hl : lv_has ls 3 [(0, .ref (ad 0)), (1, .int v), (2, .int w)] := hl
  refine lv_aload_n hx hb dX8_saying_0 rfl (lv_at hl 0 rfl) ?_
  refine rp_get (C := RX8) (T := TX8) (N := 10) hx hb hts in_X8_saying_X8 hown hK hP 0 (by decide) (kX8 _) rfl 1 (by decide) (by decide +kernel) rfl dX8_saying_1 ?_
  refine lv_iload_n hx hb dX8_saying_4 rfl (lv_at hl 1 rfl) ?_
  refine rp_callVI (na := 1) hx hb hml hown hts hK hA hD hP hS hl.1 y (hX7 hy).1 (kX7 hy _) rfl [.int v] (c_X7_hasSaying l D cy ad y z σ y v hy) gX8_saying_X7_hasSaying rfl (by decide +kernel) rfl ⟨Nat.le_of_ble_eq_true rfl, Nat.le_of_ble_eq_true rfl⟩ ⟨rfl, rfl⟩ ⟨Nat.zero_le _, Nat.zero_le _⟩ rfl (Nat.le_of_ble_eq_true rfl) dX8_saying_5 (fun v_ τ_ H locs hq hP hS => ?_)
  obtain ⟨rfl, rfl⟩ := hq
  rw [en]
  refine lv_if_ne (tgt := 14) hx hb dX8_saying_8 (by decide) (fun c8 => ?_) (fun c8 => ?_)
  · skip
    have c8 := bi_ne0.mp c8
    obtain ⟨jv, hjv, rfl⟩ := nI_rng2 c8 (by omega)
    refine lv_iload_n hx hb dX8_saying_14 rfl (lv_at hl 2 rfl) ?_
    rcases Decidable.em (w = 0) with k15_0 | k15_0
    · skip
      refine lv_tableIn (off := 45) (tgt := 60) hx hb dX8_saying_15 (by rw [k15_0]; decide) (by rw [k15_0]; decide) (by rw [k15_0]; decide) (by decide) ?_
      refine lv_aload_n hx hb dX8_saying_60 rfl (lv_at hl 0 rfl) ?_
      refine rp_get (C := RX8) (T := TX8) (N := 10) hx hb hts in_X8_saying_X8 hown hK hP 0 (by decide) (kX8 _) rfl 1 (by decide) (by decide +kernel) rfl dX8_saying_61 ?_
      refine rp_get (C := RX7) (T := TX7) (N := 12) hx hb hts in_X8_saying_X7 hown hK hP y (hX7 hy).1 (kX7 hy _) rfl 6 (by decide) (by decide +kernel) rfl dX8_saying_64 ?_
      refine lv_iload_n hx hb dX8_saying_67 rfl (lv_at hl 1 rfl) ?_
      refine rp_iald hx hb hK hP (y + 2) (hX7 hy).2.2.1 ((kX7_6 hy) _) 0 rfl jv rfl (by omega) (by decide) dX8_saying_68 ?_
      exact hret hP hS dX8_saying_69 rfl ⟨(by unfold R_X8_saying <;> (try rw [nI_clamp (n := jv) (by omega)]) <;> rw [if_pos c8, if_pos k15_0] <;> first | with_reducible rfl), (by unfold T_X8_saying <;> (try rw [nI_clamp (n := jv) (by omega)]) <;> rw [if_pos c8, if_pos k15_0] <;> first | with_reducible rfl)⟩
    rcases Decidable.em (w = 1) with k15_1 | k15_1
    · skip
      refine lv_tableIn (off := 55) (tgt := 70) hx hb dX8_saying_15 (by rw [k15_1]; decide) (by rw [k15_1]; decide) (by rw [k15_1]; decide) (by decide) ?_
      refine lv_aload_n hx hb dX8_saying_70 rfl (lv_at hl 0 rfl) ?_
      refine rp_get (C := RX8) (T := TX8) (N := 10) hx hb hts in_X8_saying_X8 hown hK hP 0 (by decide) (kX8 _) rfl 1 (by decide) (by decide +kernel) rfl dX8_saying_71 ?_
      refine rp_get (C := RX7) (T := TX7) (N := 12) hx hb hts in_X8_saying_X7 hown hK hP y (hX7 hy).1 (kX7 hy _) rfl 7 (by decide) (by decide +kernel) rfl dX8_saying_74 ?_
      refine lv_iload_n hx hb dX8_saying_77 rfl (lv_at hl 1 rfl) ?_
      refine rp_iald hx hb hK hP (y + 3) (hX7 hy).2.2.2.1 ((kX7_7 hy) _) 0 rfl jv rfl (by omega) (by decide) dX8_saying_78 ?_
      exact hret hP hS dX8_saying_79 rfl ⟨(by unfold R_X8_saying <;> (try rw [nI_clamp (n := jv) (by omega)]) <;> rw [if_pos c8, if_neg k15_0, if_pos k15_1] <;> first | with_reducible rfl), (by unfold T_X8_saying <;> (try rw [nI_clamp (n := jv) (by omega)]) <;> rw [if_pos c8, if_neg k15_0, if_pos k15_1] <;> first | with_reducible rfl)⟩
    rcases Decidable.em (w = 2) with k15_2 | k15_2
    · skip
      refine lv_tableIn (off := 65) (tgt := 80) hx hb dX8_saying_15 (by rw [k15_2]; decide) (by rw [k15_2]; decide) (by rw [k15_2]; decide) (by decide) ?_
      refine lv_aload_n hx hb dX8_saying_80 rfl (lv_at hl 0 rfl) ?_
      refine rp_get (C := RX8) (T := TX8) (N := 10) hx hb hts in_X8_saying_X8 hown hK hP 0 (by decide) (kX8 _) rfl 1 (by decide) (by decide +kernel) rfl dX8_saying_81 ?_
      refine rp_get (C := RX7) (T := TX7) (N := 12) hx hb hts in_X8_saying_X7 hown hK hP y (hX7 hy).1 (kX7 hy _) rfl 8 (by decide) (by decide +kernel) rfl dX8_saying_84 ?_
      refine lv_iload_n hx hb dX8_saying_87 rfl (lv_at hl 1 rfl) ?_
      refine rp_iald hx hb hK hP (y + 4) (hX7 hy).2.2.2.2.1 ((kX7_8 hy) _) 0 rfl jv rfl (by omega) (by decide) dX8_saying_88 ?_
      refine lv_sipush (v := 1000) hx hb dX8_saying_89 (by decide) ?_
      refine lv_iadd hx hb dX8_saying_92 ?_
      exact hret hP hS dX8_saying_93 rfl ⟨(by unfold R_X8_saying <;> (try rw [nI_clamp (n := jv) (by omega)]) <;> rw [if_pos c8, if_neg k15_0, if_neg k15_1, if_pos k15_2] <;> first | with_reducible rfl), (by unfold T_X8_saying <;> (try rw [nI_clamp (n := jv) (by omega)]) <;> rw [if_pos c8, if_neg k15_0, if_neg k15_1, if_pos k15_2] <;> first | with_reducible rfl)⟩
    rcases Decidable.em (w = 3) with k15_3 | k15_3
    · skip
      refine lv_tableIn (off := 79) (tgt := 94) hx hb dX8_saying_15 (by rw [k15_3]; decide) (by rw [k15_3]; decide) (by rw [k15_3]; decide) (by decide) ?_
      refine lv_aload_n hx hb dX8_saying_94 rfl (lv_at hl 0 rfl) ?_
      refine rp_get (C := RX8) (T := TX8) (N := 10) hx hb hts in_X8_saying_X8 hown hK hP 0 (by decide) (kX8 _) rfl 3 (by decide) (by decide +kernel) rfl dX8_saying_95 ?_
      refine rp_get (C := RX6) (T := TX6) (N := 10) hx hb hts in_X8_saying_X6 hown hK hP (29 + 4 * 0) (hX6 (i := 0) (by decide : 0 < 20)).1 (kX6 (i := 0) _) rfl 6 (by decide) (by decide +kernel) rfl dX8_saying_98 ?_
      refine lv_iload_n hx hb dX8_saying_101 rfl (lv_at hl 1 rfl) ?_
      refine rp_iald hx hb hK hP (29 + 4 * 0 + 1) (hX6 (i := 0) (by decide : 0 < 20)).2.1 (kX6_6 (i := 0) _) 0 rfl jv rfl (by omega) (by decide) dX8_saying_102 ?_
      exact hret hP hS dX8_saying_103 rfl ⟨(by unfold R_X8_saying <;> (try rw [nI_clamp (n := jv) (by omega)]) <;> rw [if_pos c8, if_neg k15_0, if_neg k15_1, if_neg k15_2, if_pos k15_3] <;> first | with_reducible rfl), (by unfold T_X8_saying <;> (try rw [nI_clamp (n := jv) (by omega)]) <;> rw [if_pos c8, if_neg k15_0, if_neg k15_1, if_neg k15_2, if_pos k15_3] <;> first | with_reducible rfl)⟩
    rcases Decidable.em (w = 4) with k15_4 | k15_4
    · skip
      refine lv_tableIn (off := 89) (tgt := 104) hx hb dX8_saying_15 (by rw [k15_4]; decide) (by rw [k15_4]; decide) (by rw [k15_4]; decide) (by decide) ?_
      refine lv_aload_n hx hb dX8_saying_104 rfl (lv_at hl 0 rfl) ?_
      refine rp_get (C := RX8) (T := TX8) (N := 10) hx hb hts in_X8_saying_X8 hown hK hP 0 (by decide) (kX8 _) rfl 1 (by decide) (by decide +kernel) rfl dX8_saying_105 ?_
      refine lv_iload_n hx hb dX8_saying_108 rfl (lv_at hl 1 rfl) ?_
      refine rp_callVI (na := 1) hx hb hml hown hts hK hA hD hP hS hl.1 y (hX7 hy).1 (kX7 hy _) rfl [.int (nI jv)] (c_X7_depthOf l D cy ad y z σ (σ (y + 5)) (σ (y + 6)) y n jv rfl rfl hy (by first | assumption | omega) (by first | assumption | rfl) (by first | assumption | omega)) gX8_saying_X7_depthOf rfl (by decide +kernel) rfl ⟨Nat.le_of_ble_eq_true rfl, Nat.le_of_ble_eq_true rfl⟩ ⟨rfl, rfl⟩ ⟨Nat.zero_le _, Nat.zero_le _⟩ rfl (Nat.le_of_ble_eq_true rfl) dX8_saying_109 (fun v_ τ_ H locs hq hP hS => ?_)
      obtain ⟨rfl, rfl⟩ := hq
      exact hret hP hS dX8_saying_112 rfl ⟨(by unfold R_X8_saying <;> (try rw [nI_clamp (n := jv) (by omega)]) <;> rw [if_pos c8, if_neg k15_0, if_neg k15_1, if_neg k15_2, if_neg k15_3, if_pos k15_4] <;> first | with_reducible rfl), (by unfold T_X8_saying <;> (try rw [nI_clamp (n := jv) (by omega)]) <;> rw [if_pos c8, if_neg k15_0, if_neg k15_1, if_neg k15_2, if_neg k15_3, if_pos k15_4] <;> first | with_reducible rfl)⟩
    rcases Decidable.em (w = 5) with k15_5 | k15_5
    · skip
      refine lv_tableIn (off := 98) (tgt := 113) hx hb dX8_saying_15 (by rw [k15_5]; decide) (by rw [k15_5]; decide) (by rw [k15_5]; decide) (by decide) ?_
      refine lv_aload_n hx hb dX8_saying_113 rfl (lv_at hl 0 rfl) ?_
      refine rp_get (C := RX8) (T := TX8) (N := 10) hx hb hts in_X8_saying_X8 hown hK hP 0 (by decide) (kX8 _) rfl 1 (by decide) (by decide +kernel) rfl dX8_saying_114 ?_
      refine lv_iload_n hx hb dX8_saying_117 rfl (lv_at hl 1 rfl) ?_
      refine rp_callVI (na := 1) hx hb hml hown hts hK hA hD hP hS hl.1 y (hX7 hy).1 (kX7 hy _) rfl [.int (nI jv)] (c_X7_rootsOf l D cy ad y z σ (σ (y + 5)) y n jv rfl hy (by first | assumption | omega) (by first | assumption | rfl) (by first | assumption | omega)) gX8_saying_X7_rootsOf rfl (by decide +kernel) rfl ⟨Nat.le_of_ble_eq_true rfl, Nat.le_of_ble_eq_true rfl⟩ ⟨rfl, rfl⟩ ⟨Nat.zero_le _, Nat.zero_le _⟩ rfl (Nat.le_of_ble_eq_true rfl) dX8_saying_118 (fun v_ τ_ H locs hq hP hS => ?_)
      obtain ⟨rfl, rfl⟩ := hq
      exact hret hP hS dX8_saying_121 rfl ⟨(by unfold R_X8_saying <;> (try rw [nI_clamp (n := jv) (by omega)]) <;> rw [if_pos c8, if_neg k15_0, if_neg k15_1, if_neg k15_2, if_neg k15_3, if_neg k15_4, if_pos k15_5] <;> first | with_reducible rfl), (by unfold T_X8_saying <;> (try rw [nI_clamp (n := jv) (by omega)]) <;> rw [if_pos c8, if_neg k15_0, if_neg k15_1, if_neg k15_2, if_neg k15_3, if_neg k15_4, if_pos k15_5] <;> first | with_reducible rfl)⟩
    rcases Decidable.em (w = 6) with k15_6 | k15_6
    · skip
      refine lv_tableIn (off := 107) (tgt := 122) hx hb dX8_saying_15 (by rw [k15_6]; decide) (by rw [k15_6]; decide) (by rw [k15_6]; decide) (by decide) ?_
      refine lv_aload_n hx hb dX8_saying_122 rfl (lv_at hl 0 rfl) ?_
      refine rp_get (C := RX8) (T := TX8) (N := 10) hx hb hts in_X8_saying_X8 hown hK hP 0 (by decide) (kX8 _) rfl 1 (by decide) (by decide +kernel) rfl dX8_saying_123 ?_
      refine lv_iload_n hx hb dX8_saying_126 rfl (lv_at hl 1 rfl) ?_
      refine lv_aload_n hx hb dX8_saying_127 rfl (lv_at hl 0 rfl) ?_
      refine rp_get (C := RX8) (T := TX8) (N := 10) hx hb hts in_X8_saying_X8 hown hK hP 0 (by decide) (kX8 _) rfl 3 (by decide) (by decide +kernel) rfl dX8_saying_128 ?_
      refine rp_get (C := RX6) (T := TX6) (N := 10) hx hb hts in_X8_saying_X6 hown hK hP (29 + 4 * 0) (hX6 (i := 0) (by decide : 0 < 20)).1 (kX6 (i := 0) _) rfl 4 (by decide) (by decide +kernel) rfl dX8_saying_131 ?_
      refine rp_callVI (na := 2) hx hb hml hown hts hK hA hD hP hS hl.1 y (hX7 hy).1 (kX7 hy _) rfl [.int (nI jv), .int (σ (29 + 4 * 0) 4)] (c_X7_fallsOf l D cy ad y z σ (σ (y + 5)) y n (nI jv) (σ (29 + 4 * 0) 4) rfl hy (by first | assumption | omega) (by first | assumption | rfl)) gX8_saying_X7_fallsOf rfl (by decide +kernel) rfl ⟨Nat.le_of_ble_eq_true rfl, Nat.le_of_ble_eq_true rfl⟩ ⟨rfl, rfl⟩ ⟨Nat.zero_le _, Nat.zero_le _⟩ rfl (Nat.le_of_ble_eq_true rfl) dX8_saying_134 (fun v_ τ_ H locs hq hP hS => ?_)
      obtain ⟨rfl, rfl⟩ := hq
      exact hret hP hS dX8_saying_137 rfl ⟨(by unfold R_X8_saying <;> (try rw [nI_clamp (n := jv) (by omega)]) <;> rw [if_pos c8, if_neg k15_0, if_neg k15_1, if_neg k15_2, if_neg k15_3, if_neg k15_4, if_neg k15_5, if_pos k15_6] <;> first | with_reducible rfl), (by unfold T_X8_saying <;> (try rw [nI_clamp (n := jv) (by omega)]) <;> rw [if_pos c8, if_neg k15_0, if_neg k15_1, if_neg k15_2, if_neg k15_3, if_neg k15_4, if_neg k15_5, if_pos k15_6] <;> first | with_reducible rfl)⟩
    rcases Decidable.em (w = 7) with k15_7 | k15_7
    · skip
      refine lv_tableIn (off := 123) (tgt := 138) hx hb dX8_saying_15 (by rw [k15_7]; decide) (by rw [k15_7]; decide) (by rw [k15_7]; decide) (by decide) ?_
      refine lv_aload_n hx hb dX8_saying_138 rfl (lv_at hl 0 rfl) ?_
      refine rp_get (C := RX8) (T := TX8) (N := 10) hx hb hts in_X8_saying_X8 hown hK hP 0 (by decide) (kX8 _) rfl 1 (by decide) (by decide +kernel) rfl dX8_saying_139 ?_
      refine rp_get (C := RX7) (T := TX7) (N := 12) hx hb hts in_X8_saying_X7 hown hK hP y (hX7 hy).1 (kX7 hy _) rfl 9 (by decide) (by decide +kernel) rfl dX8_saying_142 ?_
      refine lv_iload_n hx hb dX8_saying_145 rfl (lv_at hl 1 rfl) ?_
      refine rp_iald hx hb hK hP (y + 5) (hX7 hy).2.2.2.2.2.1 ((kX7_9 hy) _) 0 rfl jv rfl (by omega) (by decide) dX8_saying_146 ?_
      exact hret hP hS dX8_saying_147 rfl ⟨(by unfold R_X8_saying <;> (try rw [nI_clamp (n := jv) (by omega)]) <;> rw [if_pos c8, if_neg k15_0, if_neg k15_1, if_neg k15_2, if_neg k15_3, if_neg k15_4, if_neg k15_5, if_neg k15_6, if_pos k15_7] <;> first | with_reducible rfl), (by unfold T_X8_saying <;> (try rw [nI_clamp (n := jv) (by omega)]) <;> rw [if_pos c8, if_neg k15_0, if_neg k15_1, if_neg k15_2, if_neg k15_3, if_neg k15_4, if_neg k15_5, if_neg k15_6, if_pos k15_7] <;> first | with_reducible rfl)⟩
    have ko : (w).toInt < 0 ∨ 7 < (w).toInt := by
      have j0 := sw_ne k15_0
      have j1 := sw_ne k15_1
      have j2 := sw_ne k15_2
      have j3 := sw_ne k15_3
      have j4 := sw_ne k15_4
      have j5 := sw_ne k15_5
      have j6 := sw_ne k15_6
      have j7 := sw_ne k15_7
      simp only [sw_0, sw_1, sw_2, sw_3, sw_4, sw_5, sw_6, sw_7] at j0 j1 j2 j3 j4 j5 j6 j7
      omega
    refine lv_tableOut (tgt := 148) hx hb dX8_saying_15 ko (by decide) ?_
    refine lv_ldc (v := (-1000000002)) hx hb hown (hts (.constant RX8 71 (-1000000002)) (by decide +kernel)) dX8_saying_148 ?_
    exact hret hP hS dX8_saying_150 rfl ⟨(by unfold R_X8_saying <;> (try rw [nI_clamp (n := jv) (by omega)]) <;> rw [if_pos c8, if_neg k15_0, if_neg k15_1, if_neg k15_2, if_neg k15_3, if_neg k15_4, if_neg k15_5, if_neg k15_6, if_neg k15_7] <;> first | with_reducible rfl), (by unfold T_X8_saying <;> (try rw [nI_clamp (n := jv) (by omega)]) <;> rw [if_pos c8, if_neg k15_0, if_neg k15_1, if_neg k15_2, if_neg k15_3, if_neg k15_4, if_neg k15_5, if_neg k15_6, if_neg k15_7] <;> first | with_reducible rfl)⟩
  · skip
    have c8 := bi_eq0.mp c8
    refine lv_ldc (v := (-1000000001)) hx hb hown (hts (.constant RX8 146 (-1000000001)) (by decide +kernel)) dX8_saying_11 ?_
    exact hret hP hS dX8_saying_13 rfl ⟨(by unfold R_X8_saying <;> rw [if_neg c8] <;> first | with_reducible rfl), (by unfold T_X8_saying <;> rw [if_neg c8] <;> first | with_reducible rfl)⟩

def R_X8_person (σ : Nat → Nat → Int32) (y : Nat) (n : Nat) (k : Nat) (v : Int32) (w : Int32) : Int32 := (if (0 ≤ v ∧ ¬ nI k ≤ v) then (if w = 0 then (σ (y + 1) (v.toNatClampNeg)) else (if w = 1 then (saidN (σ (y + 2)) v n) else (if w = 2 then (lnX (σ (y + 2)) (strN (σ (y + 2)) (σ (y + 5)) v n) v n) else (if w = 3 then (if allN (σ (y + 1)) k = 0 then 0 else (σ (29 + 4 * 0) 0) * (σ (y + 1)) (v.toNatClampNeg) / allN (σ (y + 1)) k + (if leftN (σ (29 + 4 * 0) 0) (σ (y + 1)) (allN (σ (y + 1)) k) k ≤ nI (v.toNatClampNeg) then 0 else 1)) else (-1000000002))))) else (-1000000001))
theorem in_X8_person_X6 : ∀ w ∈ u_ws RX6 TX6 10, w ∈ wsX8_person := by decide +kernel
theorem in_X8_person_X7 : ∀ w ∈ u_ws RX7 TX7 12, w ∈ wsX8_person := by decide +kernel
theorem in_X8_person_X8 : ∀ w ∈ u_ws RX8 TX8 10, w ∈ wsX8_person := by decide +kernel
set_option maxHeartbeats 1000000 in
set_option maxRecDepth 100000 in
theorem c_X8_person (l : Launch) (D : va_G) (cy : Nat → ClassId) (ad : Nat → Nat) (y z : Nat) (σ : Nat → Nat → Int32) (n : Nat) (k : Nat) (v : Int32) (w : Int32) (hy : y = 3 ∨ y = 10) (hn : n ≤ 10) (en : σ y 5 = nI n) (hk : k ≤ 5) (ek : σ y 3 = nI k) : MI l D (tysW cy) 109 ad (cfX ad cy y z) yX8_person wsX8_person ({ frames := 2, cells := 0, slots := 0, locals := 46 }) σ [.ref (ad 0), .int v, .int w] (fun v_ τ_ => (R_X8_person σ y n k v w) = v_ ∧ σ = τ_) := by
  refine MI.go (cc := cX8_person) (maxL := 3) .int (by decide) rfl (Nat.le_of_ble_eq_true rfl) ?_
  intro p_ e_ s_ m_ args_ bl_ mt_ c_ A_ Q_ ls hx hb hml hown hts hK hA hD hP hS hl hret
  have hl : lv_has ls 3 [(0, .ref (ad 0)), (1, .int v), (2, .int w)] := hl
  refine lv_aload_n hx hb dX8_person_0 rfl (lv_at hl 0 rfl) ?_
  refine rp_get (C := RX8) (T := TX8) (N := 10) hx hb hts in_X8_person_X8 hown hK hP 0 (by decide) (kX8 _) rfl 1 (by decide) (by decide +kernel) rfl dX8_person_1 ?_
  refine lv_iload_n hx hb dX8_person_4 rfl (lv_at hl 1 rfl) ?_
  refine rp_callVI (na := 1) hx hb hml hown hts hK hA hD hP hS hl.1 y (hX7 hy).1 (kX7 hy _) rfl [.int v] (c_X7_hasPerson l D cy ad y z σ y v hy) gX8_person_X7_hasPerson rfl (by decide +kernel) rfl ⟨Nat.le_of_ble_eq_true rfl, Nat.le_of_ble_eq_true rfl⟩ ⟨rfl, rfl⟩ ⟨Nat.zero_le _, Nat.zero_le _⟩ rfl (Nat.le_of_ble_eq_true rfl) dX8_person_5 (fun v_ τ_ H locs hq hP hS => ?_)
  obtain ⟨rfl, rfl⟩ := hq
  rw [ek]
  refine lv_if_ne (tgt := 14) hx hb dX8_person_8 (by decide) (fun c8 => ?_) (fun c8 => ?_)
  · skip
    have c8 := bi_ne0.mp c8
    obtain ⟨jv, hjv, rfl⟩ := nI_rng2 c8 (by omega)
    refine lv_iload_n hx hb dX8_person_14 rfl (lv_at hl 2 rfl) ?_
    rcases Decidable.em (w = 0) with k15_0 | k15_0
    · skip
      refine lv_tableIn (off := 29) (tgt := 44) hx hb dX8_person_15 (by rw [k15_0]; decide) (by rw [k15_0]; decide) (by rw [k15_0]; decide) (by decide) ?_
      refine lv_aload_n hx hb dX8_person_44 rfl (lv_at hl 0 rfl) ?_
      refine rp_get (C := RX8) (T := TX8) (N := 10) hx hb hts in_X8_person_X8 hown hK hP 0 (by decide) (kX8 _) rfl 1 (by decide) (by decide +kernel) rfl dX8_person_45 ?_
      refine rp_get (C := RX7) (T := TX7) (N := 12) hx hb hts in_X8_person_X7 hown hK hP y (hX7 hy).1 (kX7 hy _) rfl 4 (by decide) (by decide +kernel) rfl dX8_person_48 ?_
      refine lv_iload_n hx hb dX8_person_51 rfl (lv_at hl 1 rfl) ?_
      refine rp_iald hx hb hK hP (y + 1) (hX7 hy).2.1 ((kX7_4 hy) _) 0 rfl jv rfl (by omega) (by decide) dX8_person_52 ?_
      exact hret hP hS dX8_person_53 rfl ⟨(by unfold R_X8_person <;> (try rw [nI_clamp (n := jv) (by omega)]) <;> rw [if_pos c8, if_pos k15_0] <;> first | with_reducible rfl), rfl⟩
    rcases Decidable.em (w = 1) with k15_1 | k15_1
    · skip
      refine lv_tableIn (off := 39) (tgt := 54) hx hb dX8_person_15 (by rw [k15_1]; decide) (by rw [k15_1]; decide) (by rw [k15_1]; decide) (by decide) ?_
      refine lv_aload_n hx hb dX8_person_54 rfl (lv_at hl 0 rfl) ?_
      refine rp_get (C := RX8) (T := TX8) (N := 10) hx hb hts in_X8_person_X8 hown hK hP 0 (by decide) (kX8 _) rfl 1 (by decide) (by decide +kernel) rfl dX8_person_55 ?_
      refine lv_iload_n hx hb dX8_person_58 rfl (lv_at hl 1 rfl) ?_
      refine rp_callVI (na := 1) hx hb hml hown hts hK hA hD hP hS hl.1 y (hX7 hy).1 (kX7 hy _) rfl [.int (nI jv)] (c_X7_sayingsOf l D cy ad y z σ (σ (y + 2)) y n (nI jv) rfl hy (by first | assumption | omega) (by first | assumption | rfl)) gX8_person_X7_sayingsOf rfl (by decide +kernel) rfl ⟨Nat.le_of_ble_eq_true rfl, Nat.le_of_ble_eq_true rfl⟩ ⟨rfl, rfl⟩ ⟨Nat.zero_le _, Nat.zero_le _⟩ rfl (Nat.le_of_ble_eq_true rfl) dX8_person_59 (fun v_ τ_ H locs hq hP hS => ?_)
      obtain ⟨rfl, rfl⟩ := hq
      exact hret hP hS dX8_person_62 rfl ⟨(by unfold R_X8_person <;> (try rw [nI_clamp (n := jv) (by omega)]) <;> rw [if_pos c8, if_neg k15_0, if_pos k15_1] <;> first | with_reducible rfl), rfl⟩
    rcases Decidable.em (w = 2) with k15_2 | k15_2
    · skip
      refine lv_tableIn (off := 48) (tgt := 63) hx hb dX8_person_15 (by rw [k15_2]; decide) (by rw [k15_2]; decide) (by rw [k15_2]; decide) (by decide) ?_
      refine lv_aload_n hx hb dX8_person_63 rfl (lv_at hl 0 rfl) ?_
      refine rp_get (C := RX8) (T := TX8) (N := 10) hx hb hts in_X8_person_X8 hown hK hP 0 (by decide) (kX8 _) rfl 1 (by decide) (by decide +kernel) rfl dX8_person_64 ?_
      refine lv_iload_n hx hb dX8_person_67 rfl (lv_at hl 1 rfl) ?_
      refine rp_callVI (na := 1) hx hb hml hown hts hK hA hD hP hS hl.1 y (hX7 hy).1 (kX7 hy _) rfl [.int (nI jv)] (c_X7_leansOf l D cy ad y z σ (σ (y + 2)) (σ (y + 5)) y n (nI jv) rfl rfl hy (by first | assumption | omega) (by first | assumption | rfl)) gX8_person_X7_leansOf rfl (by decide +kernel) rfl ⟨Nat.le_of_ble_eq_true rfl, Nat.le_of_ble_eq_true rfl⟩ ⟨rfl, rfl⟩ ⟨Nat.zero_le _, Nat.zero_le _⟩ rfl (Nat.le_of_ble_eq_true rfl) dX8_person_68 (fun v_ τ_ H locs hq hP hS => ?_)
      obtain ⟨rfl, rfl⟩ := hq
      exact hret hP hS dX8_person_71 rfl ⟨(by unfold R_X8_person <;> (try rw [nI_clamp (n := jv) (by omega)]) <;> rw [if_pos c8, if_neg k15_0, if_neg k15_1, if_pos k15_2] <;> first | with_reducible rfl), rfl⟩
    rcases Decidable.em (w = 3) with k15_3 | k15_3
    · skip
      refine lv_tableIn (off := 57) (tgt := 72) hx hb dX8_person_15 (by rw [k15_3]; decide) (by rw [k15_3]; decide) (by rw [k15_3]; decide) (by decide) ?_
      refine lv_aload_n hx hb dX8_person_72 rfl (lv_at hl 0 rfl) ?_
      refine rp_get (C := RX8) (T := TX8) (N := 10) hx hb hts in_X8_person_X8 hown hK hP 0 (by decide) (kX8 _) rfl 1 (by decide) (by decide +kernel) rfl dX8_person_73 ?_
      refine lv_iload_n hx hb dX8_person_76 rfl (lv_at hl 1 rfl) ?_
      refine lv_aload_n hx hb dX8_person_77 rfl (lv_at hl 0 rfl) ?_
      refine rp_get (C := RX8) (T := TX8) (N := 10) hx hb hts in_X8_person_X8 hown hK hP 0 (by decide) (kX8 _) rfl 3 (by decide) (by decide +kernel) rfl dX8_person_78 ?_
      refine rp_get (C := RX6) (T := TX6) (N := 10) hx hb hts in_X8_person_X6 hown hK hP (29 + 4 * 0) (hX6 (i := 0) (by decide : 0 < 20)).1 (kX6 (i := 0) _) rfl 0 (by decide) (by decide +kernel) rfl dX8_person_81 ?_
      refine rp_callVI (na := 2) hx hb hml hown hts hK hA hD hP hS hl.1 y (hX7 hy).1 (kX7 hy _) rfl [.int (nI jv), .int (σ (29 + 4 * 0) 0)] (c_X7_shareOf l D cy ad y z σ (σ (y + 1)) y k jv (σ (29 + 4 * 0) 0) rfl hy (by first | assumption | omega) (by first | assumption | rfl) (by first | assumption | omega)) gX8_person_X7_shareOf rfl (by decide +kernel) rfl ⟨Nat.le_of_ble_eq_true rfl, Nat.le_of_ble_eq_true rfl⟩ ⟨rfl, rfl⟩ ⟨Nat.zero_le _, Nat.zero_le _⟩ rfl (Nat.le_of_ble_eq_true rfl) dX8_person_84 (fun v_ τ_ H locs hq hP hS => ?_)
      obtain ⟨rfl, rfl⟩ := hq
      exact hret hP hS dX8_person_87 rfl ⟨(by unfold R_X8_person <;> (try rw [nI_clamp (n := jv) (by omega)]) <;> rw [if_pos c8, if_neg k15_0, if_neg k15_1, if_neg k15_2, if_pos k15_3] <;> first | with_reducible rfl), rfl⟩
    have ko : (w).toInt < 0 ∨ 3 < (w).toInt := by
      have j0 := sw_ne k15_0
      have j1 := sw_ne k15_1
      have j2 := sw_ne k15_2
      have j3 := sw_ne k15_3
      simp only [sw_0, sw_1, sw_2, sw_3] at j0 j1 j2 j3
      omega
    refine lv_tableOut (tgt := 88) hx hb dX8_person_15 ko (by decide) ?_
    refine lv_ldc (v := (-1000000002)) hx hb hown (hts (.constant RX8 71 (-1000000002)) (by decide +kernel)) dX8_person_88 ?_
    exact hret hP hS dX8_person_90 rfl ⟨(by unfold R_X8_person <;> (try rw [nI_clamp (n := jv) (by omega)]) <;> rw [if_pos c8, if_neg k15_0, if_neg k15_1, if_neg k15_2, if_neg k15_3] <;> first | with_reducible rfl), rfl⟩
  · skip
    have c8 := bi_eq0.mp c8
    refine lv_ldc (v := (-1000000001)) hx hb hown (hts (.constant RX8 146 (-1000000001)) (by decide +kernel)) dX8_person_11 ?_
    exact hret hP hS dX8_person_13 rfl ⟨(by unfold R_X8_person <;> rw [if_neg c8] <;> first | with_reducible rfl), rfl⟩

def R_X8_queued (σ : Nat → Nat → Int32) (q : Nat) (v : Int32) (w : Int32) : Int32 := (if w < 0 then (-1000000002) else (if w ≤ 1 then (if v < 0 then (-1) else (if v < (nI q) then (if w = 0 then (σ (29 + 4 * 0 + 2) (v.toNatClampNeg)) else (σ (29 + 4 * 0 + 3) (v.toNatClampNeg))) else (-1))) else (-1000000002)))
theorem in_X8_queued_X6 : ∀ w ∈ u_ws RX6 TX6 10, w ∈ wsX8_queued := by decide +kernel
theorem in_X8_queued_X8 : ∀ w ∈ u_ws RX8 TX8 10, w ∈ wsX8_queued := by decide +kernel
set_option maxHeartbeats 1000000 in
set_option maxRecDepth 100000 in
theorem c_X8_queued (l : Launch) (D : va_G) (cy : Nat → ClassId) (ad : Nat → Nat) (y z : Nat) (σ : Nat → Nat → Int32) (q : Nat) (v : Int32) (w : Int32) (hq : q ≤ 6) (eq : σ (29 + 4 * 0) 7 = nI q) : MI l D (tysW cy) 109 ad (cfX ad cy y z) yX8_queued wsX8_queued ({ frames := 0, cells := 0, slots := 0, locals := 0 }) σ [.ref (ad 0), .int v, .int w] (fun v_ τ_ => (R_X8_queued σ q v w) = v_ ∧ σ = τ_) := by
  refine MI.go (cc := cX8_queued) (maxL := 3) .int (by decide) rfl (Nat.le_of_ble_eq_true rfl) ?_
  intro p_ e_ s_ m_ args_ bl_ mt_ c_ A_ Q_ ls hx hb hml hown hts hK hA hD hP hS hl hret
  have hl : lv_has ls 3 [(0, .ref (ad 0)), (1, .int v), (2, .int w)] := hl
  refine lv_iload_n hx hb dX8_queued_0 rfl (lv_at hl 2 rfl) ?_
  refine lv_if_lt (tgt := 9) hx hb dX8_queued_1 (by decide) (fun c1 => ?_) (fun c1 => ?_)
  · skip
    refine lv_ldc (v := (-1000000002)) hx hb hown (hts (.constant RX8 71 (-1000000002)) (by decide +kernel)) dX8_queued_9 ?_
    exact hret hP hS dX8_queued_11 rfl ⟨(by unfold R_X8_queued <;> rw [if_pos c1] <;> first | with_reducible rfl), rfl⟩
  · skip
    refine lv_iload_n hx hb dX8_queued_4 rfl (lv_at hl 2 rfl) ?_
    refine lv_iconst (v := 1) hx hb dX8_queued_5 (by decide) ?_
    refine lv_icmp_le (tgt := 12) hx hb dX8_queued_6 (by decide) (fun c6 => ?_) (fun c6 => ?_)
    · skip
      refine lv_iload_n hx hb dX8_queued_12 rfl (lv_at hl 1 rfl) ?_
      refine lv_if_lt (tgt := 27) hx hb dX8_queued_13 (by decide) (fun c13 => ?_) (fun c13 => ?_)
      · skip
        refine lv_iconst (v := (-1)) hx hb dX8_queued_27 (by decide) ?_
        exact hret hP hS dX8_queued_28 rfl ⟨(by unfold R_X8_queued <;> rw [if_neg c1, if_pos c6, if_pos c13] <;> first | with_reducible rfl), rfl⟩
      · skip
        refine lv_iload_n hx hb dX8_queued_16 rfl (lv_at hl 1 rfl) ?_
        refine lv_aload_n hx hb dX8_queued_17 rfl (lv_at hl 0 rfl) ?_
        refine rp_get (C := RX8) (T := TX8) (N := 10) hx hb hts in_X8_queued_X8 hown hK hP 0 (by decide) (kX8 _) rfl 3 (by decide) (by decide +kernel) rfl dX8_queued_18 ?_
        refine rp_get (C := RX6) (T := TX6) (N := 10) hx hb hts in_X8_queued_X6 hown hK hP (29 + 4 * 0) (hX6 (i := 0) (by decide : 0 < 20)).1 (kX6 (i := 0) _) rfl 7 (by decide) (by decide +kernel) rfl dX8_queued_21 ?_
        rw [eq]
        refine lv_icmp_lt (tgt := 29) hx hb dX8_queued_24 (by decide) (fun c24 => ?_) (fun c24 => ?_)
        · skip
          obtain ⟨jv, hjv, rfl⟩ := nI_rng4 c13 c24
          refine lv_iload_n hx hb dX8_queued_29 rfl (lv_at hl 2 rfl) ?_
          refine lv_if_ne (tgt := 45) hx hb dX8_queued_30 (by decide) (fun c30 => ?_) (fun c30 => ?_)
          · skip
            refine lv_aload_n hx hb dX8_queued_45 rfl (lv_at hl 0 rfl) ?_
            refine rp_get (C := RX8) (T := TX8) (N := 10) hx hb hts in_X8_queued_X8 hown hK hP 0 (by decide) (kX8 _) rfl 3 (by decide) (by decide +kernel) rfl dX8_queued_46 ?_
            refine rp_get (C := RX6) (T := TX6) (N := 10) hx hb hts in_X8_queued_X6 hown hK hP (29 + 4 * 0) (hX6 (i := 0) (by decide : 0 < 20)).1 (kX6 (i := 0) _) rfl 9 (by decide) (by decide +kernel) rfl dX8_queued_49 ?_
            refine lv_iload_n hx hb dX8_queued_52 rfl (lv_at hl 1 rfl) ?_
            refine rp_iald hx hb hK hP (29 + 4 * 0 + 3) (hX6 (i := 0) (by decide : 0 < 20)).2.2.2 (kX6_9 (i := 0) _) 0 rfl jv rfl (by omega) (by decide) dX8_queued_53 ?_
            exact hret hP hS dX8_queued_54 rfl ⟨(by unfold R_X8_queued <;> (try rw [nI_clamp (n := jv) (by omega)]) <;> rw [if_neg c1, if_pos c6, if_neg c13, if_pos c24, if_neg c30] <;> first | with_reducible rfl), rfl⟩
          · skip
            refine lv_aload_n hx hb dX8_queued_33 rfl (lv_at hl 0 rfl) ?_
            refine rp_get (C := RX8) (T := TX8) (N := 10) hx hb hts in_X8_queued_X8 hown hK hP 0 (by decide) (kX8 _) rfl 3 (by decide) (by decide +kernel) rfl dX8_queued_34 ?_
            refine rp_get (C := RX6) (T := TX6) (N := 10) hx hb hts in_X8_queued_X6 hown hK hP (29 + 4 * 0) (hX6 (i := 0) (by decide : 0 < 20)).1 (kX6 (i := 0) _) rfl 8 (by decide) (by decide +kernel) rfl dX8_queued_37 ?_
            refine lv_iload_n hx hb dX8_queued_40 rfl (lv_at hl 1 rfl) ?_
            refine rp_iald hx hb hK hP (29 + 4 * 0 + 2) (hX6 (i := 0) (by decide : 0 < 20)).2.2.1 (kX6_8 (i := 0) _) 0 rfl jv rfl (by omega) (by decide) dX8_queued_41 ?_
            refine lv_goto (tgt := 54) hx hb dX8_queued_42 (by decide) ?_
            exact hret hP hS dX8_queued_54 rfl ⟨(by unfold R_X8_queued <;> (try rw [nI_clamp (n := jv) (by omega)]) <;> rw [if_neg c1, if_pos c6, if_neg c13, if_pos c24, if_pos c30] <;> first | with_reducible rfl), rfl⟩
        · skip
          refine lv_iconst (v := (-1)) hx hb dX8_queued_27 (by decide) ?_
          exact hret hP hS dX8_queued_28 rfl ⟨(by unfold R_X8_queued <;> rw [if_neg c1, if_pos c6, if_neg c13, if_neg c24] <;> first | with_reducible rfl), rfl⟩
    · skip
      refine lv_ldc (v := (-1000000002)) hx hb hown (hts (.constant RX8 71 (-1000000002)) (by decide +kernel)) dX8_queued_9 ?_
      exact hret hP hS dX8_queued_11 rfl ⟨(by unfold R_X8_queued <;> rw [if_neg c1, if_neg c6] <;> first | with_reducible rfl), rfl⟩

def R_X8_pour (σ : Nat → Nat → Int32) (y : Nat) (n : Nat) (k : Nat) (nx : Nat) (ct : Nat) (v : Int32) (w : Int32) : Int32 := (if (0 ≤ v ∧ ¬ nI k ≤ v) then (if (0 ≤ w ∧ ¬ nI n ≤ w) then (if (R_X6_drawable (σ (y + 1)) (σ (y + 2)) (σ (y + 3)) (σ (29 + 4 * 0)) (σ (29 + 4 * 0 + 1)) (v.toNatClampNeg) (w.toNatClampNeg)) = 0 then (-1000000003) else (R_X6_pourOn (σ (y + 1)) (σ (y + 2)) (σ (y + 3)) (σ (29 + 4 * 0)) (σ (29 + 4 * 0 + 1)) (v.toNatClampNeg) (w.toNatClampNeg))) else (-1000000001)) else (-1000000001))
def T_X8_pour (σ : Nat → Nat → Int32) (y : Nat) (n : Nat) (k : Nat) (nx : Nat) (ct : Nat) (v : Int32) (w : Int32) : Nat → Nat → Int32 := (if (0 ≤ v ∧ ¬ nI k ≤ v) then (if (0 ≤ w ∧ ¬ nI n ≤ w) then (if (R_X6_drawable (σ (y + 1)) (σ (y + 2)) (σ (y + 3)) (σ (29 + 4 * 0)) (σ (29 + 4 * 0 + 1)) (v.toNatClampNeg) (w.toNatClampNeg)) = 0 then σ else va_up (va_up (va_up (va_up (va_up (va_up (va_up σ (29 + 4 * (2 + nx)) (T_X3_remember_O2 (σ (29 + 4 * (2 + nx))) (σ (29 + 4 * (2 + nx) + 1)) (σ (29 + 4 * (2 + nx) + 2)) (σ (29 + 4 * (2 + nx) + 3)) (σ 17) (σ (29 + 4 * 0)) (σ (29 + 4 * 0 + 1)) (σ (29 + 4 * 0 + 2)) (σ (29 + 4 * 0 + 3)) nx ct)) (29 + 4 * (2 + nx) + 1) (T_X3_remember_V2 (σ (29 + 4 * (2 + nx))) (σ (29 + 4 * (2 + nx) + 1)) (σ (29 + 4 * (2 + nx) + 2)) (σ (29 + 4 * (2 + nx) + 3)) (σ 17) (σ (29 + 4 * 0)) (σ (29 + 4 * 0 + 1)) (σ (29 + 4 * 0 + 2)) (σ (29 + 4 * 0 + 3)) nx ct)) (29 + 4 * (2 + nx) + 2) (T_X3_remember_P2 (σ (29 + 4 * (2 + nx))) (σ (29 + 4 * (2 + nx) + 1)) (σ (29 + 4 * (2 + nx) + 2)) (σ (29 + 4 * (2 + nx) + 3)) (σ 17) (σ (29 + 4 * 0)) (σ (29 + 4 * 0 + 1)) (σ (29 + 4 * 0 + 2)) (σ (29 + 4 * 0 + 3)) nx ct)) (29 + 4 * (2 + nx) + 3) (T_X3_remember_S2 (σ (29 + 4 * (2 + nx))) (σ (29 + 4 * (2 + nx) + 1)) (σ (29 + 4 * (2 + nx) + 2)) (σ (29 + 4 * (2 + nx) + 3)) (σ 17) (σ (29 + 4 * 0)) (σ (29 + 4 * 0 + 1)) (σ (29 + 4 * 0 + 2)) (σ (29 + 4 * 0 + 3)) nx ct)) 17 (T_X3_remember_PA (σ (29 + 4 * (2 + nx))) (σ (29 + 4 * (2 + nx) + 1)) (σ (29 + 4 * (2 + nx) + 2)) (σ (29 + 4 * (2 + nx) + 3)) (σ 17) (σ (29 + 4 * 0)) (σ (29 + 4 * 0 + 1)) (σ (29 + 4 * 0 + 2)) (σ (29 + 4 * 0 + 3)) nx ct)) (29 + 4 * 0) (T_X6_pourOn_O (σ (y + 1)) (σ (y + 2)) (σ (y + 3)) (σ (29 + 4 * 0)) (σ (29 + 4 * 0 + 1)) (v.toNatClampNeg) (w.toNatClampNeg))) (29 + 4 * 0 + 1) (T_X6_pourOn_V (σ (y + 1)) (σ (y + 2)) (σ (y + 3)) (σ (29 + 4 * 0)) (σ (29 + 4 * 0 + 1)) (v.toNatClampNeg) (w.toNatClampNeg))) else σ) else σ)
theorem in_X8_pour_X8 : ∀ w ∈ u_ws RX8 TX8 10, w ∈ wsX8_pour := by decide +kernel
set_option maxHeartbeats 1000000 in
set_option maxRecDepth 100000 in
theorem c_X8_pour (l : Launch) (D : va_G) (cy : Nat → ClassId) (ad : Nat → Nat) (y z : Nat) (σ : Nat → Nat → Int32) (n : Nat) (k : Nat) (nx : Nat) (ct : Nat) (v : Int32) (w : Int32) (hy : y = 3 ∨ y = 10) (hn : n ≤ 10) (en : σ y 5 = nI n) (hk : k ≤ 5) (ek : σ y 3 = nI k) (hnx : nx < 16) (enx : σ 17 1 = nI nx) (hct : ct ≤ 16) (ect : σ 17 2 = nI ct) : MI l D (tysW cy) 109 ad (cfX ad cy y z) yX8_pour wsX8_pour ({ frames := 3, cells := 0, slots := 0, locals := 83 }) σ [.ref (ad 0), .int v, .int w] (fun v_ τ_ => (R_X8_pour σ y n k nx ct v w) = v_ ∧ (T_X8_pour σ y n k nx ct v w) = τ_) := by
  refine MI.go (cc := cX8_pour) (maxL := 3) .int (by decide) rfl (Nat.le_of_ble_eq_true rfl) ?_
  intro p_ e_ s_ m_ args_ bl_ mt_ c_ A_ Q_ ls hx hb hml hown hts hK hA hD hP hS hl hret
  have hl : lv_has ls 3 [(0, .ref (ad 0)), (1, .int v), (2, .int w)] := hl
  refine lv_aload_n hx hb dX8_pour_0 rfl (lv_at hl 0 rfl) ?_
  refine rp_get (C := RX8) (T := TX8) (N := 10) hx hb hts in_X8_pour_X8 hown hK hP 0 (by decide) (kX8 _) rfl 1 (by decide) (by decide +kernel) rfl dX8_pour_1 ?_
  refine lv_iload_n hx hb dX8_pour_4 rfl (lv_at hl 1 rfl) ?_
  refine rp_callVI (na := 1) hx hb hml hown hts hK hA hD hP hS hl.1 y (hX7 hy).1 (kX7 hy _) rfl [.int v] (c_X7_hasPerson l D cy ad y z σ y v hy) gX8_pour_X7_hasPerson rfl (by decide +kernel) rfl ⟨Nat.le_of_ble_eq_true rfl, Nat.le_of_ble_eq_true rfl⟩ ⟨rfl, rfl⟩ ⟨Nat.zero_le _, Nat.zero_le _⟩ rfl (Nat.le_of_ble_eq_true rfl) dX8_pour_5 (fun v_ τ_ H locs hq hP hS => ?_)
  obtain ⟨rfl, rfl⟩ := hq
  rw [ek]
  refine lv_if_eq (tgt := 22) hx hb dX8_pour_8 (by decide) (fun c8 => ?_) (fun c8 => ?_)
  · skip
    have c8 := bi_eq0.mp c8
    refine lv_ldc (v := (-1000000001)) hx hb hown (hts (.constant RX8 146 (-1000000001)) (by decide +kernel)) dX8_pour_22 ?_
    exact hret hP hS dX8_pour_24 rfl ⟨(by unfold R_X8_pour <;> rw [if_neg c8] <;> first | with_reducible rfl), (by unfold T_X8_pour <;> rw [if_neg c8] <;> first | with_reducible rfl)⟩
  · skip
    have c8 := bi_ne0.mp c8
    obtain ⟨jv, hjv, rfl⟩ := nI_rng2 c8 (by omega)
    refine lv_aload_n hx hb dX8_pour_11 rfl (lv_at hl 0 rfl) ?_
    refine rp_get (C := RX8) (T := TX8) (N := 10) hx hb hts in_X8_pour_X8 hown hK hP 0 (by decide) (kX8 _) rfl 1 (by decide) (by decide +kernel) rfl dX8_pour_12 ?_
    refine lv_iload_n hx hb dX8_pour_15 rfl (lv_at hl 2 rfl) ?_
    refine rp_callVI (na := 1) hx hb hml hown hts hK hA hD hP hS hl.1 y (hX7 hy).1 (kX7 hy _) rfl [.int w] (c_X7_hasSaying l D cy ad y z σ y w hy) gX8_pour_X7_hasSaying rfl (by decide +kernel) rfl ⟨Nat.le_of_ble_eq_true rfl, Nat.le_of_ble_eq_true rfl⟩ ⟨rfl, rfl⟩ ⟨Nat.zero_le _, Nat.zero_le _⟩ rfl (Nat.le_of_ble_eq_true rfl) dX8_pour_16 (fun v_ τ_ H locs hq hP hS => ?_)
    obtain ⟨rfl, rfl⟩ := hq
    rw [en]
    refine lv_if_ne (tgt := 25) hx hb dX8_pour_19 (by decide) (fun c19 => ?_) (fun c19 => ?_)
    · skip
      have c19 := bi_ne0.mp c19
      obtain ⟨jw, hjw, rfl⟩ := nI_rng2 c19 (by omega)
      refine lv_aload_n hx hb dX8_pour_25 rfl (lv_at hl 0 rfl) ?_
      refine rp_get (C := RX8) (T := TX8) (N := 10) hx hb hts in_X8_pour_X8 hown hK hP 0 (by decide) (kX8 _) rfl 3 (by decide) (by decide +kernel) rfl dX8_pour_26 ?_
      refine lv_aload_n hx hb dX8_pour_29 rfl (lv_at hl 0 rfl) ?_
      refine rp_get (C := RX8) (T := TX8) (N := 10) hx hb hts in_X8_pour_X8 hown hK hP 0 (by decide) (kX8 _) rfl 1 (by decide) (by decide +kernel) rfl dX8_pour_30 ?_
      refine lv_iload_n hx hb dX8_pour_33 rfl (lv_at hl 1 rfl) ?_
      refine lv_iload_n hx hb dX8_pour_34 rfl (lv_at hl 2 rfl) ?_
      refine rp_callVI (na := 3) hx hb hml hown hts hK hA hD hP hS hl.1 (29 + 4 * 0) (hX6 (i := 0) (by decide : 0 < 20)).1 (kX6 (i := 0) _) rfl [.ref (ad y), .int (nI jv), .int (nI jw)] (c_X6_drawable l D cy ad y z σ (σ (y + 1)) (σ (y + 2)) (σ (y + 3)) (σ (29 + 4 * 0)) (σ (29 + 4 * 0 + 1)) 0 y jv jw n k rfl rfl rfl rfl rfl (by decide : 0 < 20) hy (by first | assumption | omega) (by first | assumption | rfl) (by first | assumption | omega) (by first | assumption | rfl) (by first | assumption | omega) (by first | assumption | omega)) gX8_pour_X6_drawable rfl (by decide +kernel) rfl ⟨Nat.le_of_ble_eq_true rfl, Nat.le_of_ble_eq_true rfl⟩ ⟨rfl, rfl⟩ ⟨Nat.zero_le _, Nat.zero_le _⟩ rfl (Nat.le_of_ble_eq_true rfl) dX8_pour_35 (fun v_ τ_ H locs hq hP hS => ?_)
      obtain ⟨rfl, rfl⟩ := hq
      refine lv_if_ne (tgt := 44) hx hb dX8_pour_38 (by decide) (fun c38 => ?_) (fun c38 => ?_)
      · skip
        refine lv_aload_n hx hb dX8_pour_44 rfl (lv_at hl 0 rfl) ?_
        refine rp_get (C := RX8) (T := TX8) (N := 10) hx hb hts in_X8_pour_X8 hown hK hP 0 (by decide) (kX8 _) rfl 5 (by decide) (by decide +kernel) rfl dX8_pour_45 ?_
        refine lv_aload_n hx hb dX8_pour_48 rfl (lv_at hl 0 rfl) ?_
        refine rp_get (C := RX8) (T := TX8) (N := 10) hx hb hts in_X8_pour_X8 hown hK hP 0 (by decide) (kX8 _) rfl 3 (by decide) (by decide +kernel) rfl dX8_pour_49 ?_
        refine rp_callVV (na := 1) hx hb hml hown hts hK hA hD hP hS hl.1 17 (by decide) (kX3 _) rfl [.ref (ad (29 + 4 * 0))] (c_X3_remember l D cy ad y z σ (σ (29 + 4 * (2 + nx))) (σ (29 + 4 * (2 + nx) + 1)) (σ (29 + 4 * (2 + nx) + 2)) (σ (29 + 4 * (2 + nx) + 3)) (σ 17) (σ (29 + 4 * 0)) (σ (29 + 4 * 0 + 1)) (σ (29 + 4 * 0 + 2)) (σ (29 + 4 * 0 + 3)) 0 nx ct rfl rfl rfl rfl rfl rfl rfl rfl rfl (by decide : 0 < 20) (by first | assumption | omega) (by first | assumption | omega) (by first | assumption | omega) (by first | assumption | omega) (by first | assumption | omega)) gX8_pour_X3_remember rfl (by decide +kernel) rfl ⟨Nat.le_of_ble_eq_true rfl, Nat.le_of_ble_eq_true rfl⟩ ⟨rfl, rfl⟩ ⟨Nat.zero_le _, Nat.zero_le _⟩ rfl (Nat.le_of_ble_eq_true rfl) dX8_pour_52 (fun τ_ H locs hq hP hS => ?_)
        subst hq
        refine lv_aload_n hx hb dX8_pour_55 rfl (lv_at hl 0 rfl) ?_
        refine rp_get (C := RX8) (T := TX8) (N := 10) hx hb hts in_X8_pour_X8 hown hK hP 0 (by decide) (kX8 _) rfl 3 (by decide) (by decide +kernel) rfl dX8_pour_56 ?_
        refine lv_aload_n hx hb dX8_pour_59 rfl (lv_at hl 0 rfl) ?_
        refine rp_get (C := RX8) (T := TX8) (N := 10) hx hb hts in_X8_pour_X8 hown hK hP 0 (by decide) (kX8 _) rfl 1 (by decide) (by decide +kernel) rfl dX8_pour_60 ?_
        refine lv_iload_n hx hb dX8_pour_63 rfl (lv_at hl 1 rfl) ?_
        refine lv_iload_n hx hb dX8_pour_64 rfl (lv_at hl 2 rfl) ?_
        refine rp_callVI (na := 3) hx hb hml hown hts hK hA hD hP hS hl.1 (29 + 4 * 0) (hX6 (i := 0) (by decide : 0 < 20)).1 (kX6 (i := 0) _) rfl [.ref (ad y), .int (nI jv), .int (nI jw)] (c_X6_pourOn l D cy ad y z (va_up (va_up (va_up (va_up (va_up σ (29 + 4 * (2 + nx)) (T_X3_remember_O2 (σ (29 + 4 * (2 + nx))) (σ (29 + 4 * (2 + nx) + 1)) (σ (29 + 4 * (2 + nx) + 2)) (σ (29 + 4 * (2 + nx) + 3)) (σ 17) (σ (29 + 4 * 0)) (σ (29 + 4 * 0 + 1)) (σ (29 + 4 * 0 + 2)) (σ (29 + 4 * 0 + 3)) nx ct)) (29 + 4 * (2 + nx) + 1) (T_X3_remember_V2 (σ (29 + 4 * (2 + nx))) (σ (29 + 4 * (2 + nx) + 1)) (σ (29 + 4 * (2 + nx) + 2)) (σ (29 + 4 * (2 + nx) + 3)) (σ 17) (σ (29 + 4 * 0)) (σ (29 + 4 * 0 + 1)) (σ (29 + 4 * 0 + 2)) (σ (29 + 4 * 0 + 3)) nx ct)) (29 + 4 * (2 + nx) + 2) (T_X3_remember_P2 (σ (29 + 4 * (2 + nx))) (σ (29 + 4 * (2 + nx) + 1)) (σ (29 + 4 * (2 + nx) + 2)) (σ (29 + 4 * (2 + nx) + 3)) (σ 17) (σ (29 + 4 * 0)) (σ (29 + 4 * 0 + 1)) (σ (29 + 4 * 0 + 2)) (σ (29 + 4 * 0 + 3)) nx ct)) (29 + 4 * (2 + nx) + 3) (T_X3_remember_S2 (σ (29 + 4 * (2 + nx))) (σ (29 + 4 * (2 + nx) + 1)) (σ (29 + 4 * (2 + nx) + 2)) (σ (29 + 4 * (2 + nx) + 3)) (σ 17) (σ (29 + 4 * 0)) (σ (29 + 4 * 0 + 1)) (σ (29 + 4 * 0 + 2)) (σ (29 + 4 * 0 + 3)) nx ct)) 17 (T_X3_remember_PA (σ (29 + 4 * (2 + nx))) (σ (29 + 4 * (2 + nx) + 1)) (σ (29 + 4 * (2 + nx) + 2)) (σ (29 + 4 * (2 + nx) + 3)) (σ 17) (σ (29 + 4 * 0)) (σ (29 + 4 * 0 + 1)) (σ (29 + 4 * 0 + 2)) (σ (29 + 4 * 0 + 3)) nx ct)) (σ (y + 1)) (σ (y + 2)) (σ (y + 3)) (σ (29 + 4 * 0)) (σ (29 + 4 * 0 + 1)) 0 y jv jw n k ((va_Q (by omega)).trans ((va_Q (by omega)).trans ((va_Q (by omega)).trans ((va_Q (by omega)).trans (va_Q (by omega)))))) ((va_Q (by omega)).trans ((va_Q (by omega)).trans ((va_Q (by omega)).trans ((va_Q (by omega)).trans (va_Q (by omega)))))) ((va_Q (by omega)).trans ((va_Q (by omega)).trans ((va_Q (by omega)).trans ((va_Q (by omega)).trans (va_Q (by omega)))))) ((va_Q (by omega)).trans ((va_Q (by omega)).trans ((va_Q (by omega)).trans ((va_Q (by omega)).trans (va_Q (by omega)))))) ((va_Q (by omega)).trans ((va_Q (by omega)).trans ((va_Q (by omega)).trans ((va_Q (by omega)).trans (va_Q (by omega)))))) (by decide : 0 < 20) hy (by first | assumption | omega) (((va_R (by omega)).trans ((va_R (by omega)).trans ((va_R (by omega)).trans ((va_R (by omega)).trans (va_R (by omega)))))).trans (by first | assumption | rfl)) (by first | assumption | omega) (((va_R (by omega)).trans ((va_R (by omega)).trans ((va_R (by omega)).trans ((va_R (by omega)).trans (va_R (by omega)))))).trans (by first | assumption | rfl)) (by first | assumption | omega) (by first | assumption | omega)) gX8_pour_X6_pourOn rfl (by decide +kernel) rfl ⟨Nat.le_of_ble_eq_true rfl, Nat.le_of_ble_eq_true rfl⟩ ⟨rfl, rfl⟩ ⟨Nat.zero_le _, Nat.zero_le _⟩ rfl (Nat.le_of_ble_eq_true rfl) dX8_pour_65 (fun v_ τ_ H locs hq hP hS => ?_)
        obtain ⟨rfl, rfl⟩ := hq
        exact hret hP hS dX8_pour_68 rfl ⟨(by unfold R_X8_pour <;> (try rw [nI_clamp (n := jv) (by omega)]) <;> (try rw [nI_clamp (n := jw) (by omega)]) <;> rw [if_pos c8, if_pos c19, if_neg c38] <;> first | with_reducible rfl), (by unfold T_X8_pour <;> (try rw [nI_clamp (n := jv) (by omega)]) <;> (try rw [nI_clamp (n := jw) (by omega)]) <;> rw [if_pos c8, if_pos c19, if_neg c38] <;> first | with_reducible rfl)⟩
      · skip
        refine lv_ldc (v := (-1000000003)) hx hb hown (hts (.constant RX8 198 (-1000000003)) (by decide +kernel)) dX8_pour_41 ?_
        exact hret hP hS dX8_pour_43 rfl ⟨(by unfold R_X8_pour <;> (try rw [nI_clamp (n := jv) (by omega)]) <;> (try rw [nI_clamp (n := jw) (by omega)]) <;> rw [if_pos c8, if_pos c19, if_pos c38] <;> first | with_reducible rfl), (by unfold T_X8_pour <;> (try rw [nI_clamp (n := jv) (by omega)]) <;> (try rw [nI_clamp (n := jw) (by omega)]) <;> rw [if_pos c8, if_pos c19, if_pos c38] <;> first | with_reducible rfl)⟩
    · skip
      have c19 := bi_eq0.mp c19
      refine lv_ldc (v := (-1000000001)) hx hb hown (hts (.constant RX8 146 (-1000000001)) (by decide +kernel)) dX8_pour_22 ?_
      exact hret hP hS dX8_pour_24 rfl ⟨(by unfold R_X8_pour <;> (try rw [nI_clamp (n := jv) (by omega)]) <;> rw [if_pos c8, if_neg c19] <;> first | with_reducible rfl), (by unfold T_X8_pour <;> (try rw [nI_clamp (n := jv) (by omega)]) <;> rw [if_pos c8, if_neg c19] <;> first | with_reducible rfl)⟩

def R_X8_say (σ : Nat → Nat → Int32) (n : Nat) (nx : Nat) (ct : Nat) (v : Int32) : Int32 := (if (0 ≤ v ∧ ¬ nI n ≤ v) then (R_X6_sayAgain (σ (29 + 4 * 0)) (σ (29 + 4 * 0 + 1)) (v.toNatClampNeg)) else (-1000000001))
def T_X8_say (σ : Nat → Nat → Int32) (n : Nat) (nx : Nat) (ct : Nat) (v : Int32) : Nat → Nat → Int32 := (if (0 ≤ v ∧ ¬ nI n ≤ v) then va_up (va_up (va_up (va_up (va_up (va_up (va_up σ (29 + 4 * (2 + nx)) (T_X3_remember_O2 (σ (29 + 4 * (2 + nx))) (σ (29 + 4 * (2 + nx) + 1)) (σ (29 + 4 * (2 + nx) + 2)) (σ (29 + 4 * (2 + nx) + 3)) (σ 17) (σ (29 + 4 * 0)) (σ (29 + 4 * 0 + 1)) (σ (29 + 4 * 0 + 2)) (σ (29 + 4 * 0 + 3)) nx ct)) (29 + 4 * (2 + nx) + 1) (T_X3_remember_V2 (σ (29 + 4 * (2 + nx))) (σ (29 + 4 * (2 + nx) + 1)) (σ (29 + 4 * (2 + nx) + 2)) (σ (29 + 4 * (2 + nx) + 3)) (σ 17) (σ (29 + 4 * 0)) (σ (29 + 4 * 0 + 1)) (σ (29 + 4 * 0 + 2)) (σ (29 + 4 * 0 + 3)) nx ct)) (29 + 4 * (2 + nx) + 2) (T_X3_remember_P2 (σ (29 + 4 * (2 + nx))) (σ (29 + 4 * (2 + nx) + 1)) (σ (29 + 4 * (2 + nx) + 2)) (σ (29 + 4 * (2 + nx) + 3)) (σ 17) (σ (29 + 4 * 0)) (σ (29 + 4 * 0 + 1)) (σ (29 + 4 * 0 + 2)) (σ (29 + 4 * 0 + 3)) nx ct)) (29 + 4 * (2 + nx) + 3) (T_X3_remember_S2 (σ (29 + 4 * (2 + nx))) (σ (29 + 4 * (2 + nx) + 1)) (σ (29 + 4 * (2 + nx) + 2)) (σ (29 + 4 * (2 + nx) + 3)) (σ 17) (σ (29 + 4 * 0)) (σ (29 + 4 * 0 + 1)) (σ (29 + 4 * 0 + 2)) (σ (29 + 4 * 0 + 3)) nx ct)) 17 (T_X3_remember_PA (σ (29 + 4 * (2 + nx))) (σ (29 + 4 * (2 + nx) + 1)) (σ (29 + 4 * (2 + nx) + 2)) (σ (29 + 4 * (2 + nx) + 3)) (σ 17) (σ (29 + 4 * 0)) (σ (29 + 4 * 0 + 1)) (σ (29 + 4 * 0 + 2)) (σ (29 + 4 * 0 + 3)) nx ct)) (29 + 4 * 0) (T_X6_sayAgain_O (σ (29 + 4 * 0)) (σ (29 + 4 * 0 + 1)) (v.toNatClampNeg))) (29 + 4 * 0 + 1) (T_X6_sayAgain_V (σ (29 + 4 * 0)) (σ (29 + 4 * 0 + 1)) (v.toNatClampNeg)) else σ)
theorem in_X8_say_X8 : ∀ w ∈ u_ws RX8 TX8 10, w ∈ wsX8_say := by decide +kernel
set_option maxHeartbeats 1000000 in
set_option maxRecDepth 100000 in
theorem c_X8_say (l : Launch) (D : va_G) (cy : Nat → ClassId) (ad : Nat → Nat) (y z : Nat) (σ : Nat → Nat → Int32) (n : Nat) (nx : Nat) (ct : Nat) (v : Int32) (hy : y = 3 ∨ y = 10) (hn : n ≤ 10) (en : σ y 5 = nI n) (hnx : nx < 16) (enx : σ 17 1 = nI nx) (hct : ct ≤ 16) (ect : σ 17 2 = nI ct) : MI l D (tysW cy) 109 ad (cfX ad cy y z) yX8_say wsX8_say ({ frames := 3, cells := 0, slots := 0, locals := 83 }) σ [.ref (ad 0), .int v] (fun v_ τ_ => (R_X8_say σ n nx ct v) = v_ ∧ (T_X8_say σ n nx ct v) = τ_) := by
  refine MI.go (cc := cX8_say) (maxL := 2) .int (by decide) rfl (Nat.le_of_ble_eq_true rfl) ?_
  intro p_ e_ s_ m_ args_ bl_ mt_ c_ A_ Q_ ls hx hb hml hown hts hK hA hD hP hS hl hret
  have hl : lv_has ls 2 [(0, .ref (ad 0)), (1, .int v)] := hl
  refine lv_aload_n hx hb dX8_say_0 rfl (lv_at hl 0 rfl) ?_
  refine rp_get (C := RX8) (T := TX8) (N := 10) hx hb hts in_X8_say_X8 hown hK hP 0 (by decide) (kX8 _) rfl 1 (by decide) (by decide +kernel) rfl dX8_say_1 ?_
  refine lv_iload_n hx hb dX8_say_4 rfl (lv_at hl 1 rfl) ?_
  refine rp_callVI (na := 1) hx hb hml hown hts hK hA hD hP hS hl.1 y (hX7 hy).1 (kX7 hy _) rfl [.int v] (c_X7_hasSaying l D cy ad y z σ y v hy) gX8_say_X7_hasSaying rfl (by decide +kernel) rfl ⟨Nat.le_of_ble_eq_true rfl, Nat.le_of_ble_eq_true rfl⟩ ⟨rfl, rfl⟩ ⟨Nat.zero_le _, Nat.zero_le _⟩ rfl (Nat.le_of_ble_eq_true rfl) dX8_say_5 (fun v_ τ_ H locs hq hP hS => ?_)
  obtain ⟨rfl, rfl⟩ := hq
  rw [en]
  refine lv_if_ne (tgt := 14) hx hb dX8_say_8 (by decide) (fun c8 => ?_) (fun c8 => ?_)
  · skip
    have c8 := bi_ne0.mp c8
    obtain ⟨jv, hjv, rfl⟩ := nI_rng2 c8 (by omega)
    refine lv_aload_n hx hb dX8_say_14 rfl (lv_at hl 0 rfl) ?_
    refine rp_get (C := RX8) (T := TX8) (N := 10) hx hb hts in_X8_say_X8 hown hK hP 0 (by decide) (kX8 _) rfl 5 (by decide) (by decide +kernel) rfl dX8_say_15 ?_
    refine lv_aload_n hx hb dX8_say_18 rfl (lv_at hl 0 rfl) ?_
    refine rp_get (C := RX8) (T := TX8) (N := 10) hx hb hts in_X8_say_X8 hown hK hP 0 (by decide) (kX8 _) rfl 3 (by decide) (by decide +kernel) rfl dX8_say_19 ?_
    refine rp_callVV (na := 1) hx hb hml hown hts hK hA hD hP hS hl.1 17 (by decide) (kX3 _) rfl [.ref (ad (29 + 4 * 0))] (c_X3_remember l D cy ad y z σ (σ (29 + 4 * (2 + nx))) (σ (29 + 4 * (2 + nx) + 1)) (σ (29 + 4 * (2 + nx) + 2)) (σ (29 + 4 * (2 + nx) + 3)) (σ 17) (σ (29 + 4 * 0)) (σ (29 + 4 * 0 + 1)) (σ (29 + 4 * 0 + 2)) (σ (29 + 4 * 0 + 3)) 0 nx ct rfl rfl rfl rfl rfl rfl rfl rfl rfl (by decide : 0 < 20) (by first | assumption | omega) (by first | assumption | omega) (by first | assumption | omega) (by first | assumption | omega) (by first | assumption | omega)) gX8_say_X3_remember rfl (by decide +kernel) rfl ⟨Nat.le_of_ble_eq_true rfl, Nat.le_of_ble_eq_true rfl⟩ ⟨rfl, rfl⟩ ⟨Nat.zero_le _, Nat.zero_le _⟩ rfl (Nat.le_of_ble_eq_true rfl) dX8_say_22 (fun τ_ H locs hq hP hS => ?_)
    subst hq
    refine lv_aload_n hx hb dX8_say_25 rfl (lv_at hl 0 rfl) ?_
    refine rp_get (C := RX8) (T := TX8) (N := 10) hx hb hts in_X8_say_X8 hown hK hP 0 (by decide) (kX8 _) rfl 3 (by decide) (by decide +kernel) rfl dX8_say_26 ?_
    refine lv_iload_n hx hb dX8_say_29 rfl (lv_at hl 1 rfl) ?_
    refine rp_callVI (na := 1) hx hb hml hown hts hK hA hD hP hS hl.1 (29 + 4 * 0) (hX6 (i := 0) (by decide : 0 < 20)).1 (kX6 (i := 0) _) rfl [.int (nI jv)] (c_X6_sayAgain l D cy ad y z (va_up (va_up (va_up (va_up (va_up σ (29 + 4 * (2 + nx)) (T_X3_remember_O2 (σ (29 + 4 * (2 + nx))) (σ (29 + 4 * (2 + nx) + 1)) (σ (29 + 4 * (2 + nx) + 2)) (σ (29 + 4 * (2 + nx) + 3)) (σ 17) (σ (29 + 4 * 0)) (σ (29 + 4 * 0 + 1)) (σ (29 + 4 * 0 + 2)) (σ (29 + 4 * 0 + 3)) nx ct)) (29 + 4 * (2 + nx) + 1) (T_X3_remember_V2 (σ (29 + 4 * (2 + nx))) (σ (29 + 4 * (2 + nx) + 1)) (σ (29 + 4 * (2 + nx) + 2)) (σ (29 + 4 * (2 + nx) + 3)) (σ 17) (σ (29 + 4 * 0)) (σ (29 + 4 * 0 + 1)) (σ (29 + 4 * 0 + 2)) (σ (29 + 4 * 0 + 3)) nx ct)) (29 + 4 * (2 + nx) + 2) (T_X3_remember_P2 (σ (29 + 4 * (2 + nx))) (σ (29 + 4 * (2 + nx) + 1)) (σ (29 + 4 * (2 + nx) + 2)) (σ (29 + 4 * (2 + nx) + 3)) (σ 17) (σ (29 + 4 * 0)) (σ (29 + 4 * 0 + 1)) (σ (29 + 4 * 0 + 2)) (σ (29 + 4 * 0 + 3)) nx ct)) (29 + 4 * (2 + nx) + 3) (T_X3_remember_S2 (σ (29 + 4 * (2 + nx))) (σ (29 + 4 * (2 + nx) + 1)) (σ (29 + 4 * (2 + nx) + 2)) (σ (29 + 4 * (2 + nx) + 3)) (σ 17) (σ (29 + 4 * 0)) (σ (29 + 4 * 0 + 1)) (σ (29 + 4 * 0 + 2)) (σ (29 + 4 * 0 + 3)) nx ct)) 17 (T_X3_remember_PA (σ (29 + 4 * (2 + nx))) (σ (29 + 4 * (2 + nx) + 1)) (σ (29 + 4 * (2 + nx) + 2)) (σ (29 + 4 * (2 + nx) + 3)) (σ 17) (σ (29 + 4 * 0)) (σ (29 + 4 * 0 + 1)) (σ (29 + 4 * 0 + 2)) (σ (29 + 4 * 0 + 3)) nx ct)) (σ (29 + 4 * 0)) (σ (29 + 4 * 0 + 1)) 0 jv ((va_Q (by omega)).trans ((va_Q (by omega)).trans ((va_Q (by omega)).trans ((va_Q (by omega)).trans (va_Q (by omega)))))) ((va_Q (by omega)).trans ((va_Q (by omega)).trans ((va_Q (by omega)).trans ((va_Q (by omega)).trans (va_Q (by omega)))))) (by decide : 0 < 20) (by first | assumption | omega)) gX8_say_X6_sayAgain rfl (by decide +kernel) rfl ⟨Nat.le_of_ble_eq_true rfl, Nat.le_of_ble_eq_true rfl⟩ ⟨rfl, rfl⟩ ⟨Nat.zero_le _, Nat.zero_le _⟩ rfl (Nat.le_of_ble_eq_true rfl) dX8_say_30 (fun v_ τ_ H locs hq hP hS => ?_)
    obtain ⟨rfl, rfl⟩ := hq
    exact hret hP hS dX8_say_33 rfl ⟨(by unfold R_X8_say <;> (try rw [nI_clamp (n := jv) (by omega)]) <;> rw [if_pos c8] <;> first | with_reducible rfl), (by unfold T_X8_say <;> (try rw [nI_clamp (n := jv) (by omega)]) <;> rw [if_pos c8] <;> first | with_reducible rfl)⟩
  · skip
    have c8 := bi_eq0.mp c8
    refine lv_ldc (v := (-1000000001)) hx hb hown (hts (.constant RX8 146 (-1000000001)) (by decide +kernel)) dX8_say_11 ?_
    exact hret hP hS dX8_say_13 rfl ⟨(by unfold R_X8_say <;> rw [if_neg c8] <;> first | with_reducible rfl), (by unfold T_X8_say <;> rw [if_neg c8] <;> first | with_reducible rfl)⟩

def R_X8_vow (σ : Nat → Nat → Int32) (n : Nat) (nx : Nat) (ct : Nat) (v : Int32) (w : Int32) : Int32 := (if (0 ≤ v ∧ ¬ nI n ≤ v) then (if w = 0 then (((σ (29 + 4 * 0) 5) >>> (v &&& 31)) &&& 1) else (((σ (29 + 4 * 0) 5) >>> (v &&& 31)) &&& 1)) else (-1000000001))
def T_X8_vow (σ : Nat → Nat → Int32) (n : Nat) (nx : Nat) (ct : Nat) (v : Int32) (w : Int32) : Nat → Nat → Int32 := (if (0 ≤ v ∧ ¬ nI n ≤ v) then (if w = 0 then up2 (va_up (va_up (va_up (va_up (va_up σ (29 + 4 * (2 + nx)) (T_X3_remember_O2 (σ (29 + 4 * (2 + nx))) (σ (29 + 4 * (2 + nx) + 1)) (σ (29 + 4 * (2 + nx) + 2)) (σ (29 + 4 * (2 + nx) + 3)) (σ 17) (σ (29 + 4 * 0)) (σ (29 + 4 * 0 + 1)) (σ (29 + 4 * 0 + 2)) (σ (29 + 4 * 0 + 3)) nx ct)) (29 + 4 * (2 + nx) + 1) (T_X3_remember_V2 (σ (29 + 4 * (2 + nx))) (σ (29 + 4 * (2 + nx) + 1)) (σ (29 + 4 * (2 + nx) + 2)) (σ (29 + 4 * (2 + nx) + 3)) (σ 17) (σ (29 + 4 * 0)) (σ (29 + 4 * 0 + 1)) (σ (29 + 4 * 0 + 2)) (σ (29 + 4 * 0 + 3)) nx ct)) (29 + 4 * (2 + nx) + 2) (T_X3_remember_P2 (σ (29 + 4 * (2 + nx))) (σ (29 + 4 * (2 + nx) + 1)) (σ (29 + 4 * (2 + nx) + 2)) (σ (29 + 4 * (2 + nx) + 3)) (σ 17) (σ (29 + 4 * 0)) (σ (29 + 4 * 0 + 1)) (σ (29 + 4 * 0 + 2)) (σ (29 + 4 * 0 + 3)) nx ct)) (29 + 4 * (2 + nx) + 3) (T_X3_remember_S2 (σ (29 + 4 * (2 + nx))) (σ (29 + 4 * (2 + nx) + 1)) (σ (29 + 4 * (2 + nx) + 2)) (σ (29 + 4 * (2 + nx) + 3)) (σ 17) (σ (29 + 4 * 0)) (σ (29 + 4 * 0 + 1)) (σ (29 + 4 * 0 + 2)) (σ (29 + 4 * 0 + 3)) nx ct)) 17 (T_X3_remember_PA (σ (29 + 4 * (2 + nx))) (σ (29 + 4 * (2 + nx) + 1)) (σ (29 + 4 * (2 + nx) + 2)) (σ (29 + 4 * (2 + nx) + 3)) (σ 17) (σ (29 + 4 * 0)) (σ (29 + 4 * 0 + 1)) (σ (29 + 4 * 0 + 2)) (σ (29 + 4 * 0 + 3)) nx ct)) (29 + 4 * 0) 5 ((σ (29 + 4 * 0) 5) &&& (((1 : Int32) <<< (v &&& 31)) ^^^ (-1))) else up2 (va_up (va_up (va_up (va_up (va_up σ (29 + 4 * (2 + nx)) (T_X3_remember_O2 (σ (29 + 4 * (2 + nx))) (σ (29 + 4 * (2 + nx) + 1)) (σ (29 + 4 * (2 + nx) + 2)) (σ (29 + 4 * (2 + nx) + 3)) (σ 17) (σ (29 + 4 * 0)) (σ (29 + 4 * 0 + 1)) (σ (29 + 4 * 0 + 2)) (σ (29 + 4 * 0 + 3)) nx ct)) (29 + 4 * (2 + nx) + 1) (T_X3_remember_V2 (σ (29 + 4 * (2 + nx))) (σ (29 + 4 * (2 + nx) + 1)) (σ (29 + 4 * (2 + nx) + 2)) (σ (29 + 4 * (2 + nx) + 3)) (σ 17) (σ (29 + 4 * 0)) (σ (29 + 4 * 0 + 1)) (σ (29 + 4 * 0 + 2)) (σ (29 + 4 * 0 + 3)) nx ct)) (29 + 4 * (2 + nx) + 2) (T_X3_remember_P2 (σ (29 + 4 * (2 + nx))) (σ (29 + 4 * (2 + nx) + 1)) (σ (29 + 4 * (2 + nx) + 2)) (σ (29 + 4 * (2 + nx) + 3)) (σ 17) (σ (29 + 4 * 0)) (σ (29 + 4 * 0 + 1)) (σ (29 + 4 * 0 + 2)) (σ (29 + 4 * 0 + 3)) nx ct)) (29 + 4 * (2 + nx) + 3) (T_X3_remember_S2 (σ (29 + 4 * (2 + nx))) (σ (29 + 4 * (2 + nx) + 1)) (σ (29 + 4 * (2 + nx) + 2)) (σ (29 + 4 * (2 + nx) + 3)) (σ 17) (σ (29 + 4 * 0)) (σ (29 + 4 * 0 + 1)) (σ (29 + 4 * 0 + 2)) (σ (29 + 4 * 0 + 3)) nx ct)) 17 (T_X3_remember_PA (σ (29 + 4 * (2 + nx))) (σ (29 + 4 * (2 + nx) + 1)) (σ (29 + 4 * (2 + nx) + 2)) (σ (29 + 4 * (2 + nx) + 3)) (σ 17) (σ (29 + 4 * 0)) (σ (29 + 4 * 0 + 1)) (σ (29 + 4 * 0 + 2)) (σ (29 + 4 * 0 + 3)) nx ct)) (29 + 4 * 0) 5 ((σ (29 + 4 * 0) 5) ||| ((1 : Int32) <<< (v &&& 31)))) else σ)
theorem in_X8_vow_X6 : ∀ w ∈ u_ws RX6 TX6 10, w ∈ wsX8_vow := by decide +kernel
theorem in_X8_vow_X8 : ∀ w ∈ u_ws RX8 TX8 10, w ∈ wsX8_vow := by decide +kernel
set_option maxHeartbeats 1000000 in
set_option maxRecDepth 100000 in
theorem c_X8_vow (l : Launch) (D : va_G) (cy : Nat → ClassId) (ad : Nat → Nat) (y z : Nat) (σ : Nat → Nat → Int32) (n : Nat) (nx : Nat) (ct : Nat) (v : Int32) (w : Int32) (hy : y = 3 ∨ y = 10) (hn : n ≤ 10) (en : σ y 5 = nI n) (hnx : nx < 16) (enx : σ 17 1 = nI nx) (hct : ct ≤ 16) (ect : σ 17 2 = nI ct) : MI l D (tysW cy) 109 ad (cfX ad cy y z) yX8_vow wsX8_vow ({ frames := 3, cells := 0, slots := 0, locals := 83 }) σ [.ref (ad 0), .int v, .int w] (fun v_ τ_ => (R_X8_vow σ n nx ct v w) = v_ ∧ (T_X8_vow σ n nx ct v w) = τ_) := by
  refine MI.go (cc := cX8_vow) (maxL := 4) .int (by decide) rfl (Nat.le_of_ble_eq_true rfl) ?_
  intro p_ e_ s_ m_ args_ bl_ mt_ c_ A_ Q_ ls hx hb hml hown hts hK hA hD hP hS hl hret
  have hl : lv_has ls 4 [(0, .ref (ad 0)), (1, .int v), (2, .int w)] := hl
  refine lv_aload_n hx hb dX8_vow_0 rfl (lv_at hl 0 rfl) ?_
  refine rp_get (C := RX8) (T := TX8) (N := 10) hx hb hts in_X8_vow_X8 hown hK hP 0 (by decide) (kX8 _) rfl 1 (by decide) (by decide +kernel) rfl dX8_vow_1 ?_
  refine lv_iload_n hx hb dX8_vow_4 rfl (lv_at hl 1 rfl) ?_
  refine rp_callVI (na := 1) hx hb hml hown hts hK hA hD hP hS hl.1 y (hX7 hy).1 (kX7 hy _) rfl [.int v] (c_X7_hasSaying l D cy ad y z σ y v hy) gX8_vow_X7_hasSaying rfl (by decide +kernel) rfl ⟨Nat.le_of_ble_eq_true rfl, Nat.le_of_ble_eq_true rfl⟩ ⟨rfl, rfl⟩ ⟨Nat.zero_le _, Nat.zero_le _⟩ rfl (Nat.le_of_ble_eq_true rfl) dX8_vow_5 (fun v_ τ_ H locs hq hP hS => ?_)
  obtain ⟨rfl, rfl⟩ := hq
  rw [en]
  refine lv_if_ne (tgt := 14) hx hb dX8_vow_8 (by decide) (fun c8 => ?_) (fun c8 => ?_)
  · skip
    have c8 := bi_ne0.mp c8
    obtain ⟨jv, hjv, rfl⟩ := nI_rng2 c8 (by omega)
    refine lv_aload_n hx hb dX8_vow_14 rfl (lv_at hl 0 rfl) ?_
    refine rp_get (C := RX8) (T := TX8) (N := 10) hx hb hts in_X8_vow_X8 hown hK hP 0 (by decide) (kX8 _) rfl 5 (by decide) (by decide +kernel) rfl dX8_vow_15 ?_
    refine lv_aload_n hx hb dX8_vow_18 rfl (lv_at hl 0 rfl) ?_
    refine rp_get (C := RX8) (T := TX8) (N := 10) hx hb hts in_X8_vow_X8 hown hK hP 0 (by decide) (kX8 _) rfl 3 (by decide) (by decide +kernel) rfl dX8_vow_19 ?_
    refine rp_callVV (na := 1) hx hb hml hown hts hK hA hD hP hS hl.1 17 (by decide) (kX3 _) rfl [.ref (ad (29 + 4 * 0))] (c_X3_remember l D cy ad y z σ (σ (29 + 4 * (2 + nx))) (σ (29 + 4 * (2 + nx) + 1)) (σ (29 + 4 * (2 + nx) + 2)) (σ (29 + 4 * (2 + nx) + 3)) (σ 17) (σ (29 + 4 * 0)) (σ (29 + 4 * 0 + 1)) (σ (29 + 4 * 0 + 2)) (σ (29 + 4 * 0 + 3)) 0 nx ct rfl rfl rfl rfl rfl rfl rfl rfl rfl (by decide : 0 < 20) (by first | assumption | omega) (by first | assumption | omega) (by first | assumption | omega) (by first | assumption | omega) (by first | assumption | omega)) gX8_vow_X3_remember rfl (by decide +kernel) rfl ⟨Nat.le_of_ble_eq_true rfl, Nat.le_of_ble_eq_true rfl⟩ ⟨rfl, rfl⟩ ⟨Nat.zero_le _, Nat.zero_le _⟩ rfl (Nat.le_of_ble_eq_true rfl) dX8_vow_22 (fun τ_ H locs hq hP hS => ?_)
    subst hq
    refine lv_aload_n hx hb dX8_vow_25 rfl (lv_at hl 0 rfl) ?_
    refine rp_get (C := RX8) (T := TX8) (N := 10) hx hb hts in_X8_vow_X8 hown hK hP 0 (by decide) (kX8 _) rfl 3 (by decide) (by decide +kernel) rfl dX8_vow_26 ?_
    refine rp_get (C := RX6) (T := TX6) (N := 10) hx hb hts in_X8_vow_X6 hown hK hP (29 + 4 * 0) (hX6 (i := 0) (by decide : 0 < 20)).1 (kX6 (i := 0) _) rfl 5 (by decide) (by decide +kernel) rfl dX8_vow_29 ?_
    rw [show (va_up (va_up (va_up (va_up (va_up σ (29 + 4 * (2 + nx)) (T_X3_remember_O2 (σ (29 + 4 * (2 + nx))) (σ (29 + 4 * (2 + nx) + 1)) (σ (29 + 4 * (2 + nx) + 2)) (σ (29 + 4 * (2 + nx) + 3)) (σ 17) (σ (29 + 4 * 0)) (σ (29 + 4 * 0 + 1)) (σ (29 + 4 * 0 + 2)) (σ (29 + 4 * 0 + 3)) nx ct)) (29 + 4 * (2 + nx) + 1) (T_X3_remember_V2 (σ (29 + 4 * (2 + nx))) (σ (29 + 4 * (2 + nx) + 1)) (σ (29 + 4 * (2 + nx) + 2)) (σ (29 + 4 * (2 + nx) + 3)) (σ 17) (σ (29 + 4 * 0)) (σ (29 + 4 * 0 + 1)) (σ (29 + 4 * 0 + 2)) (σ (29 + 4 * 0 + 3)) nx ct)) (29 + 4 * (2 + nx) + 2) (T_X3_remember_P2 (σ (29 + 4 * (2 + nx))) (σ (29 + 4 * (2 + nx) + 1)) (σ (29 + 4 * (2 + nx) + 2)) (σ (29 + 4 * (2 + nx) + 3)) (σ 17) (σ (29 + 4 * 0)) (σ (29 + 4 * 0 + 1)) (σ (29 + 4 * 0 + 2)) (σ (29 + 4 * 0 + 3)) nx ct)) (29 + 4 * (2 + nx) + 3) (T_X3_remember_S2 (σ (29 + 4 * (2 + nx))) (σ (29 + 4 * (2 + nx) + 1)) (σ (29 + 4 * (2 + nx) + 2)) (σ (29 + 4 * (2 + nx) + 3)) (σ 17) (σ (29 + 4 * 0)) (σ (29 + 4 * 0 + 1)) (σ (29 + 4 * 0 + 2)) (σ (29 + 4 * 0 + 3)) nx ct)) 17 (T_X3_remember_PA (σ (29 + 4 * (2 + nx))) (σ (29 + 4 * (2 + nx) + 1)) (σ (29 + 4 * (2 + nx) + 2)) (σ (29 + 4 * (2 + nx) + 3)) (σ 17) (σ (29 + 4 * 0)) (σ (29 + 4 * 0 + 1)) (σ (29 + 4 * 0 + 2)) (σ (29 + 4 * 0 + 3)) nx ct)) (29 + 4 * 0) 5 = (σ (29 + 4 * 0) 5) from ((va_R (by omega)).trans ((va_R (by omega)).trans ((va_R (by omega)).trans ((va_R (by omega)).trans (va_R (by omega))))))]
    refine lv_iload_n hx hb dX8_vow_32 rfl (lv_at hl 1 rfl) ?_
    refine lv_ishr hx hb dX8_vow_33 ?_
    refine lv_iconst (v := 1) hx hb dX8_vow_34 (by decide) ?_
    refine lv_iand hx hb dX8_vow_35 ?_
    refine lv_istore_n (lv' := [(3, .int (((σ (29 + 4 * 0) 5) >>> ((nI jv) &&& 31)) &&& 1)), (0, .ref (ad 0)), (1, .int (nI jv)), (2, .int w)]) hx hb dX8_vow_36 rfl hl (by decide) rfl (fun ls hl => ?_)
    refine lv_aload_n hx hb dX8_vow_37 rfl (lv_at hl 1 rfl) ?_
    refine rp_get (C := RX8) (T := TX8) (N := 10) hx hb hts in_X8_vow_X8 hown hK hP 0 (by decide) (kX8 _) rfl 3 (by decide) (by decide +kernel) rfl dX8_vow_38 ?_
    refine lv_iload_n hx hb dX8_vow_41 rfl (lv_at hl 3 rfl) ?_
    refine lv_if_eq (tgt := 59) hx hb dX8_vow_42 (by decide) (fun c42 => ?_) (fun c42 => ?_)
    · skip
      refine lv_aload_n hx hb dX8_vow_59 rfl (lv_at hl 1 rfl) ?_
      refine rp_get (C := RX8) (T := TX8) (N := 10) hx hb hts in_X8_vow_X8 hown hK hP 0 (by decide) (kX8 _) rfl 3 (by decide) (by decide +kernel) rfl dX8_vow_60 ?_
      refine rp_get (C := RX6) (T := TX6) (N := 10) hx hb hts in_X8_vow_X6 hown hK hP (29 + 4 * 0) (hX6 (i := 0) (by decide : 0 < 20)).1 (kX6 (i := 0) _) rfl 5 (by decide) (by decide +kernel) rfl dX8_vow_63 ?_
      rw [show (va_up (va_up (va_up (va_up (va_up σ (29 + 4 * (2 + nx)) (T_X3_remember_O2 (σ (29 + 4 * (2 + nx))) (σ (29 + 4 * (2 + nx) + 1)) (σ (29 + 4 * (2 + nx) + 2)) (σ (29 + 4 * (2 + nx) + 3)) (σ 17) (σ (29 + 4 * 0)) (σ (29 + 4 * 0 + 1)) (σ (29 + 4 * 0 + 2)) (σ (29 + 4 * 0 + 3)) nx ct)) (29 + 4 * (2 + nx) + 1) (T_X3_remember_V2 (σ (29 + 4 * (2 + nx))) (σ (29 + 4 * (2 + nx) + 1)) (σ (29 + 4 * (2 + nx) + 2)) (σ (29 + 4 * (2 + nx) + 3)) (σ 17) (σ (29 + 4 * 0)) (σ (29 + 4 * 0 + 1)) (σ (29 + 4 * 0 + 2)) (σ (29 + 4 * 0 + 3)) nx ct)) (29 + 4 * (2 + nx) + 2) (T_X3_remember_P2 (σ (29 + 4 * (2 + nx))) (σ (29 + 4 * (2 + nx) + 1)) (σ (29 + 4 * (2 + nx) + 2)) (σ (29 + 4 * (2 + nx) + 3)) (σ 17) (σ (29 + 4 * 0)) (σ (29 + 4 * 0 + 1)) (σ (29 + 4 * 0 + 2)) (σ (29 + 4 * 0 + 3)) nx ct)) (29 + 4 * (2 + nx) + 3) (T_X3_remember_S2 (σ (29 + 4 * (2 + nx))) (σ (29 + 4 * (2 + nx) + 1)) (σ (29 + 4 * (2 + nx) + 2)) (σ (29 + 4 * (2 + nx) + 3)) (σ 17) (σ (29 + 4 * 0)) (σ (29 + 4 * 0 + 1)) (σ (29 + 4 * 0 + 2)) (σ (29 + 4 * 0 + 3)) nx ct)) 17 (T_X3_remember_PA (σ (29 + 4 * (2 + nx))) (σ (29 + 4 * (2 + nx) + 1)) (σ (29 + 4 * (2 + nx) + 2)) (σ (29 + 4 * (2 + nx) + 3)) (σ 17) (σ (29 + 4 * 0)) (σ (29 + 4 * 0 + 1)) (σ (29 + 4 * 0 + 2)) (σ (29 + 4 * 0 + 3)) nx ct)) (29 + 4 * 0) 5 = (σ (29 + 4 * 0) 5) from ((va_R (by omega)).trans ((va_R (by omega)).trans ((va_R (by omega)).trans ((va_R (by omega)).trans (va_R (by omega))))))]
      refine lv_iconst (v := 1) hx hb dX8_vow_66 (by decide) ?_
      refine lv_iload_n hx hb dX8_vow_67 rfl (lv_at hl 2 rfl) ?_
      refine lv_ishl hx hb dX8_vow_68 ?_
      refine lv_iconst (v := (-1)) hx hb dX8_vow_69 (by decide) ?_
      refine lv_ixor hx hb dX8_vow_70 ?_
      refine lv_iand hx hb dX8_vow_71 ?_
      refine rp_put (C := RX6) (T := TX6) (N := 10) (v := ((σ (29 + 4 * 0) 5) &&& (((1 : Int32) <<< ((nI jv) &&& 31)) ^^^ (-1)))) hx hb hts in_X8_vow_X6 tyX6 tyX6_ok nmX6 hown hK hP hD hS (29 + 4 * 0) (hX6 (i := 0) (by decide : 0 < 20)).1 (kX6 (i := 0) _) rfl 5 (by decide) (by decide +kernel) rfl rfl rfl (Nat.le_of_ble_eq_true rfl) (kX6 (i := 0) _) dX8_vow_72 (fun H locs hP hS => ?_)
      refine lv_iload_n hx hb dX8_vow_75 rfl (lv_at hl 0 rfl) ?_
      exact hret hP hS dX8_vow_76 rfl ⟨(by unfold R_X8_vow <;> (try rw [nI_clamp (n := jv) (by omega)]) <;> rw [if_pos c8, if_pos c42] <;> first | with_reducible rfl), (by unfold T_X8_vow <;> (try rw [nI_clamp (n := jv) (by omega)]) <;> rw [if_pos c8, if_pos c42] <;> first | with_reducible rfl)⟩
    · skip
      refine lv_aload_n hx hb dX8_vow_45 rfl (lv_at hl 1 rfl) ?_
      refine rp_get (C := RX8) (T := TX8) (N := 10) hx hb hts in_X8_vow_X8 hown hK hP 0 (by decide) (kX8 _) rfl 3 (by decide) (by decide +kernel) rfl dX8_vow_46 ?_
      refine rp_get (C := RX6) (T := TX6) (N := 10) hx hb hts in_X8_vow_X6 hown hK hP (29 + 4 * 0) (hX6 (i := 0) (by decide : 0 < 20)).1 (kX6 (i := 0) _) rfl 5 (by decide) (by decide +kernel) rfl dX8_vow_49 ?_
      rw [show (va_up (va_up (va_up (va_up (va_up σ (29 + 4 * (2 + nx)) (T_X3_remember_O2 (σ (29 + 4 * (2 + nx))) (σ (29 + 4 * (2 + nx) + 1)) (σ (29 + 4 * (2 + nx) + 2)) (σ (29 + 4 * (2 + nx) + 3)) (σ 17) (σ (29 + 4 * 0)) (σ (29 + 4 * 0 + 1)) (σ (29 + 4 * 0 + 2)) (σ (29 + 4 * 0 + 3)) nx ct)) (29 + 4 * (2 + nx) + 1) (T_X3_remember_V2 (σ (29 + 4 * (2 + nx))) (σ (29 + 4 * (2 + nx) + 1)) (σ (29 + 4 * (2 + nx) + 2)) (σ (29 + 4 * (2 + nx) + 3)) (σ 17) (σ (29 + 4 * 0)) (σ (29 + 4 * 0 + 1)) (σ (29 + 4 * 0 + 2)) (σ (29 + 4 * 0 + 3)) nx ct)) (29 + 4 * (2 + nx) + 2) (T_X3_remember_P2 (σ (29 + 4 * (2 + nx))) (σ (29 + 4 * (2 + nx) + 1)) (σ (29 + 4 * (2 + nx) + 2)) (σ (29 + 4 * (2 + nx) + 3)) (σ 17) (σ (29 + 4 * 0)) (σ (29 + 4 * 0 + 1)) (σ (29 + 4 * 0 + 2)) (σ (29 + 4 * 0 + 3)) nx ct)) (29 + 4 * (2 + nx) + 3) (T_X3_remember_S2 (σ (29 + 4 * (2 + nx))) (σ (29 + 4 * (2 + nx) + 1)) (σ (29 + 4 * (2 + nx) + 2)) (σ (29 + 4 * (2 + nx) + 3)) (σ 17) (σ (29 + 4 * 0)) (σ (29 + 4 * 0 + 1)) (σ (29 + 4 * 0 + 2)) (σ (29 + 4 * 0 + 3)) nx ct)) 17 (T_X3_remember_PA (σ (29 + 4 * (2 + nx))) (σ (29 + 4 * (2 + nx) + 1)) (σ (29 + 4 * (2 + nx) + 2)) (σ (29 + 4 * (2 + nx) + 3)) (σ 17) (σ (29 + 4 * 0)) (σ (29 + 4 * 0 + 1)) (σ (29 + 4 * 0 + 2)) (σ (29 + 4 * 0 + 3)) nx ct)) (29 + 4 * 0) 5 = (σ (29 + 4 * 0) 5) from ((va_R (by omega)).trans ((va_R (by omega)).trans ((va_R (by omega)).trans ((va_R (by omega)).trans (va_R (by omega))))))]
      refine lv_iconst (v := 1) hx hb dX8_vow_52 (by decide) ?_
      refine lv_iload_n hx hb dX8_vow_53 rfl (lv_at hl 2 rfl) ?_
      refine lv_ishl hx hb dX8_vow_54 ?_
      refine lv_ior hx hb dX8_vow_55 ?_
      refine lv_goto (tgt := 72) hx hb dX8_vow_56 (by decide) ?_
      refine rp_put (C := RX6) (T := TX6) (N := 10) (v := ((σ (29 + 4 * 0) 5) ||| ((1 : Int32) <<< ((nI jv) &&& 31)))) hx hb hts in_X8_vow_X6 tyX6 tyX6_ok nmX6 hown hK hP hD hS (29 + 4 * 0) (hX6 (i := 0) (by decide : 0 < 20)).1 (kX6 (i := 0) _) rfl 5 (by decide) (by decide +kernel) rfl rfl rfl (Nat.le_of_ble_eq_true rfl) (kX6 (i := 0) _) dX8_vow_72 (fun H locs hP hS => ?_)
      refine lv_iload_n hx hb dX8_vow_75 rfl (lv_at hl 0 rfl) ?_
      exact hret hP hS dX8_vow_76 rfl ⟨(by unfold R_X8_vow <;> (try rw [nI_clamp (n := jv) (by omega)]) <;> rw [if_pos c8, if_neg c42] <;> first | with_reducible rfl), (by unfold T_X8_vow <;> (try rw [nI_clamp (n := jv) (by omega)]) <;> rw [if_pos c8, if_neg c42] <;> first | with_reducible rfl)⟩
  · skip
    have c8 := bi_eq0.mp c8
    refine lv_ldc (v := (-1000000001)) hx hb hown (hts (.constant RX8 146 (-1000000001)) (by decide +kernel)) dX8_vow_11 ?_
    exact hret hP hS dX8_vow_13 rfl ⟨(by unfold R_X8_vow <;> rw [if_neg c8] <;> first | with_reducible rfl), (by unfold T_X8_vow <;> rw [if_neg c8] <;> first | with_reducible rfl)⟩

def R_X8_refusalOfNights (σ : Nat → Nat → Int32) (y : Nat) (v : Int32) : Int32 := (if v < 1 then (-1000000002) else (if v ≤ 60 then (if (σ y 0) = 0 then (-1000000003) else (if (σ (29 + 4 * 0) 3) ≤ 9000 then 0 else (-1000000004))) else (-1000000002)))
theorem in_X8_refusalOfNights_X6 : ∀ w ∈ u_ws RX6 TX6 10, w ∈ wsX8_refusalOfNights := by decide +kernel
theorem in_X8_refusalOfNights_X7 : ∀ w ∈ u_ws RX7 TX7 12, w ∈ wsX8_refusalOfNights := by decide +kernel
theorem in_X8_refusalOfNights_X8 : ∀ w ∈ u_ws RX8 TX8 10, w ∈ wsX8_refusalOfNights := by decide +kernel
set_option maxHeartbeats 1000000 in
set_option maxRecDepth 100000 in
theorem c_X8_refusalOfNights (l : Launch) (D : va_G) (cy : Nat → ClassId) (ad : Nat → Nat) (y z : Nat) (σ : Nat → Nat → Int32) (v : Int32) (hy : y = 3 ∨ y = 10) : MI l D (tysW cy) 109 ad (cfX ad cy y z) yX8_refusalOfNights wsX8_refusalOfNights ({ frames := 0, cells := 0, slots := 0, locals := 0 }) σ [.ref (ad 0), .int v] (fun v_ τ_ => (R_X8_refusalOfNights σ y v) = v_ ∧ σ = τ_) := by
  refine MI.go (cc := cX8_refusalOfNights) (maxL := 2) .int (by decide) rfl (Nat.le_of_ble_eq_true rfl) ?_
  intro p_ e_ s_ m_ args_ bl_ mt_ c_ A_ Q_ ls hx hb hml hown hts hK hA hD hP hS hl hret
  have hl : lv_has ls 2 [(0, .ref (ad 0)), (1, .int v)] := hl
  refine lv_iload_n hx hb dX8_refusalOfNights_0 rfl (lv_at hl 1 rfl) ?_
  refine lv_iconst (v := 1) hx hb dX8_refusalOfNights_1 (by decide) ?_
  refine lv_icmp_lt (tgt := 11) hx hb dX8_refusalOfNights_2 (by decide) (fun c2 => ?_) (fun c2 => ?_)
  · skip
    refine lv_ldc (v := (-1000000002)) hx hb hown (hts (.constant RX8 71 (-1000000002)) (by decide +kernel)) dX8_refusalOfNights_11 ?_
    exact hret hP hS dX8_refusalOfNights_13 rfl ⟨(by unfold R_X8_refusalOfNights <;> rw [if_pos c2] <;> first | with_reducible rfl), rfl⟩
  · skip
    refine lv_iload_n hx hb dX8_refusalOfNights_5 rfl (lv_at hl 1 rfl) ?_
    refine lv_bipush (v := 60) hx hb dX8_refusalOfNights_6 (by decide) ?_
    refine lv_icmp_le (tgt := 14) hx hb dX8_refusalOfNights_8 (by decide) (fun c8 => ?_) (fun c8 => ?_)
    · skip
      refine lv_aload_n hx hb dX8_refusalOfNights_14 rfl (lv_at hl 0 rfl) ?_
      refine rp_get (C := RX8) (T := TX8) (N := 10) hx hb hts in_X8_refusalOfNights_X8 hown hK hP 0 (by decide) (kX8 _) rfl 1 (by decide) (by decide +kernel) rfl dX8_refusalOfNights_15 ?_
      refine rp_get (C := RX7) (T := TX7) (N := 12) hx hb hts in_X8_refusalOfNights_X7 hown hK hP y (hX7 hy).1 (kX7 hy _) rfl 0 (by decide) (by decide +kernel) rfl dX8_refusalOfNights_18 ?_
      refine lv_if_ne (tgt := 27) hx hb dX8_refusalOfNights_21 (by decide) (fun c21 => ?_) (fun c21 => ?_)
      · skip
        refine lv_aload_n hx hb dX8_refusalOfNights_27 rfl (lv_at hl 0 rfl) ?_
        refine rp_get (C := RX8) (T := TX8) (N := 10) hx hb hts in_X8_refusalOfNights_X8 hown hK hP 0 (by decide) (kX8 _) rfl 3 (by decide) (by decide +kernel) rfl dX8_refusalOfNights_28 ?_
        refine rp_get (C := RX6) (T := TX6) (N := 10) hx hb hts in_X8_refusalOfNights_X6 hown hK hP (29 + 4 * 0) (hX6 (i := 0) (by decide : 0 < 20)).1 (kX6 (i := 0) _) rfl 3 (by decide) (by decide +kernel) rfl dX8_refusalOfNights_31 ?_
        refine lv_sipush (v := 9000) hx hb dX8_refusalOfNights_34 (by decide) ?_
        refine lv_icmp_le (tgt := 45) hx hb dX8_refusalOfNights_37 (by decide) (fun c37 => ?_) (fun c37 => ?_)
        · skip
          refine lv_iconst (v := 0) hx hb dX8_refusalOfNights_45 (by decide) ?_
          exact hret hP hS dX8_refusalOfNights_46 rfl ⟨(by unfold R_X8_refusalOfNights <;> rw [if_neg c2, if_pos c8, if_neg c21, if_pos c37] <;> first | with_reducible rfl), rfl⟩
        · skip
          refine lv_ldc (v := (-1000000004)) hx hb hown (hts (.constant RX8 80 (-1000000004)) (by decide +kernel)) dX8_refusalOfNights_40 ?_
          refine lv_goto (tgt := 46) hx hb dX8_refusalOfNights_42 (by decide) ?_
          exact hret hP hS dX8_refusalOfNights_46 rfl ⟨(by unfold R_X8_refusalOfNights <;> rw [if_neg c2, if_pos c8, if_neg c21, if_neg c37] <;> first | with_reducible rfl), rfl⟩
      · skip
        refine lv_ldc (v := (-1000000003)) hx hb hown (hts (.constant RX8 198 (-1000000003)) (by decide +kernel)) dX8_refusalOfNights_24 ?_
        exact hret hP hS dX8_refusalOfNights_26 rfl ⟨(by unfold R_X8_refusalOfNights <;> rw [if_neg c2, if_pos c8, if_pos c21] <;> first | with_reducible rfl), rfl⟩
    · skip
      refine lv_ldc (v := (-1000000002)) hx hb hown (hts (.constant RX8 71 (-1000000002)) (by decide +kernel)) dX8_refusalOfNights_11 ?_
      exact hret hP hS dX8_refusalOfNights_13 rfl ⟨(by unfold R_X8_refusalOfNights <;> rw [if_neg c2, if_neg c8] <;> first | with_reducible rfl), rfl⟩

def R_X8_rain (σ : Nat → Nat → Int32) (y : Nat) (nx : Nat) (ct : Nat) (v : Int32) : Int32 := (if v < 0 then (-1000000002) else (if v ≤ 99 then (if (σ y 0) = 0 then (-1000000003) else (σ (29 + 4 * 0) 1)) else (-1000000002)))
def T_X8_rain (σ : Nat → Nat → Int32) (y : Nat) (nx : Nat) (ct : Nat) (v : Int32) : Nat → Nat → Int32 := (if v < 0 then σ else (if v ≤ 99 then (if (σ y 0) = 0 then σ else up2 (va_up (va_up (va_up (va_up (va_up σ (29 + 4 * (2 + nx)) (T_X3_remember_O2 (σ (29 + 4 * (2 + nx))) (σ (29 + 4 * (2 + nx) + 1)) (σ (29 + 4 * (2 + nx) + 2)) (σ (29 + 4 * (2 + nx) + 3)) (σ 17) (σ (29 + 4 * 0)) (σ (29 + 4 * 0 + 1)) (σ (29 + 4 * 0 + 2)) (σ (29 + 4 * 0 + 3)) nx ct)) (29 + 4 * (2 + nx) + 1) (T_X3_remember_V2 (σ (29 + 4 * (2 + nx))) (σ (29 + 4 * (2 + nx) + 1)) (σ (29 + 4 * (2 + nx) + 2)) (σ (29 + 4 * (2 + nx) + 3)) (σ 17) (σ (29 + 4 * 0)) (σ (29 + 4 * 0 + 1)) (σ (29 + 4 * 0 + 2)) (σ (29 + 4 * 0 + 3)) nx ct)) (29 + 4 * (2 + nx) + 2) (T_X3_remember_P2 (σ (29 + 4 * (2 + nx))) (σ (29 + 4 * (2 + nx) + 1)) (σ (29 + 4 * (2 + nx) + 2)) (σ (29 + 4 * (2 + nx) + 3)) (σ 17) (σ (29 + 4 * 0)) (σ (29 + 4 * 0 + 1)) (σ (29 + 4 * 0 + 2)) (σ (29 + 4 * 0 + 3)) nx ct)) (29 + 4 * (2 + nx) + 3) (T_X3_remember_S2 (σ (29 + 4 * (2 + nx))) (σ (29 + 4 * (2 + nx) + 1)) (σ (29 + 4 * (2 + nx) + 2)) (σ (29 + 4 * (2 + nx) + 3)) (σ 17) (σ (29 + 4 * 0)) (σ (29 + 4 * 0 + 1)) (σ (29 + 4 * 0 + 2)) (σ (29 + 4 * 0 + 3)) nx ct)) 17 (T_X3_remember_PA (σ (29 + 4 * (2 + nx))) (σ (29 + 4 * (2 + nx) + 1)) (σ (29 + 4 * (2 + nx) + 2)) (σ (29 + 4 * (2 + nx) + 3)) (σ 17) (σ (29 + 4 * 0)) (σ (29 + 4 * 0 + 1)) (σ (29 + 4 * 0 + 2)) (σ (29 + 4 * 0 + 3)) nx ct)) (29 + 4 * 0) 1 v) else σ))
theorem in_X8_rain_X6 : ∀ w ∈ u_ws RX6 TX6 10, w ∈ wsX8_rain := by decide +kernel
theorem in_X8_rain_X7 : ∀ w ∈ u_ws RX7 TX7 12, w ∈ wsX8_rain := by decide +kernel
theorem in_X8_rain_X8 : ∀ w ∈ u_ws RX8 TX8 10, w ∈ wsX8_rain := by decide +kernel
set_option maxHeartbeats 1000000 in
set_option maxRecDepth 100000 in
theorem c_X8_rain (l : Launch) (D : va_G) (cy : Nat → ClassId) (ad : Nat → Nat) (y z : Nat) (σ : Nat → Nat → Int32) (nx : Nat) (ct : Nat) (v : Int32) (hy : y = 3 ∨ y = 10) (hnx : nx < 16) (enx : σ 17 1 = nI nx) (hct : ct ≤ 16) (ect : σ 17 2 = nI ct) : MI l D (tysW cy) 109 ad (cfX ad cy y z) yX8_rain wsX8_rain ({ frames := 3, cells := 0, slots := 0, locals := 83 }) σ [.ref (ad 0), .int v] (fun v_ τ_ => (R_X8_rain σ y nx ct v) = v_ ∧ (T_X8_rain σ y nx ct v) = τ_) := by
  refine MI.go (cc := cX8_rain) (maxL := 3) .int (by decide) rfl (Nat.le_of_ble_eq_true rfl) ?_
  intro p_ e_ s_ m_ args_ bl_ mt_ c_ A_ Q_ ls hx hb hml hown hts hK hA hD hP hS hl hret
  have hl : lv_has ls 3 [(0, .ref (ad 0)), (1, .int v)] := hl
  refine lv_iload_n hx hb dX8_rain_0 rfl (lv_at hl 1 rfl) ?_
  refine lv_if_lt (tgt := 10) hx hb dX8_rain_1 (by decide) (fun c1 => ?_) (fun c1 => ?_)
  · skip
    refine lv_ldc (v := (-1000000002)) hx hb hown (hts (.constant RX8 71 (-1000000002)) (by decide +kernel)) dX8_rain_10 ?_
    exact hret hP hS dX8_rain_12 rfl ⟨(by unfold R_X8_rain <;> rw [if_pos c1] <;> first | with_reducible rfl), (by unfold T_X8_rain <;> rw [if_pos c1] <;> first | with_reducible rfl)⟩
  · skip
    refine lv_iload_n hx hb dX8_rain_4 rfl (lv_at hl 1 rfl) ?_
    refine lv_bipush (v := 99) hx hb dX8_rain_5 (by decide) ?_
    refine lv_icmp_le (tgt := 13) hx hb dX8_rain_7 (by decide) (fun c7 => ?_) (fun c7 => ?_)
    · skip
      refine lv_aload_n hx hb dX8_rain_13 rfl (lv_at hl 0 rfl) ?_
      refine rp_get (C := RX8) (T := TX8) (N := 10) hx hb hts in_X8_rain_X8 hown hK hP 0 (by decide) (kX8 _) rfl 1 (by decide) (by decide +kernel) rfl dX8_rain_14 ?_
      refine rp_get (C := RX7) (T := TX7) (N := 12) hx hb hts in_X8_rain_X7 hown hK hP y (hX7 hy).1 (kX7 hy _) rfl 0 (by decide) (by decide +kernel) rfl dX8_rain_17 ?_
      refine lv_if_ne (tgt := 26) hx hb dX8_rain_20 (by decide) (fun c20 => ?_) (fun c20 => ?_)
      · skip
        refine lv_aload_n hx hb dX8_rain_26 rfl (lv_at hl 0 rfl) ?_
        refine rp_get (C := RX8) (T := TX8) (N := 10) hx hb hts in_X8_rain_X8 hown hK hP 0 (by decide) (kX8 _) rfl 5 (by decide) (by decide +kernel) rfl dX8_rain_27 ?_
        refine lv_aload_n hx hb dX8_rain_30 rfl (lv_at hl 0 rfl) ?_
        refine rp_get (C := RX8) (T := TX8) (N := 10) hx hb hts in_X8_rain_X8 hown hK hP 0 (by decide) (kX8 _) rfl 3 (by decide) (by decide +kernel) rfl dX8_rain_31 ?_
        refine rp_callVV (na := 1) hx hb hml hown hts hK hA hD hP hS hl.1 17 (by decide) (kX3 _) rfl [.ref (ad (29 + 4 * 0))] (c_X3_remember l D cy ad y z σ (σ (29 + 4 * (2 + nx))) (σ (29 + 4 * (2 + nx) + 1)) (σ (29 + 4 * (2 + nx) + 2)) (σ (29 + 4 * (2 + nx) + 3)) (σ 17) (σ (29 + 4 * 0)) (σ (29 + 4 * 0 + 1)) (σ (29 + 4 * 0 + 2)) (σ (29 + 4 * 0 + 3)) 0 nx ct rfl rfl rfl rfl rfl rfl rfl rfl rfl (by decide : 0 < 20) (by first | assumption | omega) (by first | assumption | omega) (by first | assumption | omega) (by first | assumption | omega) (by first | assumption | omega)) gX8_rain_X3_remember rfl (by decide +kernel) rfl ⟨Nat.le_of_ble_eq_true rfl, Nat.le_of_ble_eq_true rfl⟩ ⟨rfl, rfl⟩ ⟨Nat.zero_le _, Nat.zero_le _⟩ rfl (Nat.le_of_ble_eq_true rfl) dX8_rain_34 (fun τ_ H locs hq hP hS => ?_)
        subst hq
        refine lv_aload_n hx hb dX8_rain_37 rfl (lv_at hl 0 rfl) ?_
        refine rp_get (C := RX8) (T := TX8) (N := 10) hx hb hts in_X8_rain_X8 hown hK hP 0 (by decide) (kX8 _) rfl 3 (by decide) (by decide +kernel) rfl dX8_rain_38 ?_
        refine rp_get (C := RX6) (T := TX6) (N := 10) hx hb hts in_X8_rain_X6 hown hK hP (29 + 4 * 0) (hX6 (i := 0) (by decide : 0 < 20)).1 (kX6 (i := 0) _) rfl 1 (by decide) (by decide +kernel) rfl dX8_rain_41 ?_
        rw [show (va_up (va_up (va_up (va_up (va_up σ (29 + 4 * (2 + nx)) (T_X3_remember_O2 (σ (29 + 4 * (2 + nx))) (σ (29 + 4 * (2 + nx) + 1)) (σ (29 + 4 * (2 + nx) + 2)) (σ (29 + 4 * (2 + nx) + 3)) (σ 17) (σ (29 + 4 * 0)) (σ (29 + 4 * 0 + 1)) (σ (29 + 4 * 0 + 2)) (σ (29 + 4 * 0 + 3)) nx ct)) (29 + 4 * (2 + nx) + 1) (T_X3_remember_V2 (σ (29 + 4 * (2 + nx))) (σ (29 + 4 * (2 + nx) + 1)) (σ (29 + 4 * (2 + nx) + 2)) (σ (29 + 4 * (2 + nx) + 3)) (σ 17) (σ (29 + 4 * 0)) (σ (29 + 4 * 0 + 1)) (σ (29 + 4 * 0 + 2)) (σ (29 + 4 * 0 + 3)) nx ct)) (29 + 4 * (2 + nx) + 2) (T_X3_remember_P2 (σ (29 + 4 * (2 + nx))) (σ (29 + 4 * (2 + nx) + 1)) (σ (29 + 4 * (2 + nx) + 2)) (σ (29 + 4 * (2 + nx) + 3)) (σ 17) (σ (29 + 4 * 0)) (σ (29 + 4 * 0 + 1)) (σ (29 + 4 * 0 + 2)) (σ (29 + 4 * 0 + 3)) nx ct)) (29 + 4 * (2 + nx) + 3) (T_X3_remember_S2 (σ (29 + 4 * (2 + nx))) (σ (29 + 4 * (2 + nx) + 1)) (σ (29 + 4 * (2 + nx) + 2)) (σ (29 + 4 * (2 + nx) + 3)) (σ 17) (σ (29 + 4 * 0)) (σ (29 + 4 * 0 + 1)) (σ (29 + 4 * 0 + 2)) (σ (29 + 4 * 0 + 3)) nx ct)) 17 (T_X3_remember_PA (σ (29 + 4 * (2 + nx))) (σ (29 + 4 * (2 + nx) + 1)) (σ (29 + 4 * (2 + nx) + 2)) (σ (29 + 4 * (2 + nx) + 3)) (σ 17) (σ (29 + 4 * 0)) (σ (29 + 4 * 0 + 1)) (σ (29 + 4 * 0 + 2)) (σ (29 + 4 * 0 + 3)) nx ct)) (29 + 4 * 0) 1 = (σ (29 + 4 * 0) 1) from ((va_R (by omega)).trans ((va_R (by omega)).trans ((va_R (by omega)).trans ((va_R (by omega)).trans (va_R (by omega))))))]
        refine lv_istore_n (lv' := [(2, .int (σ (29 + 4 * 0) 1)), (0, .ref (ad 0)), (1, .int v)]) hx hb dX8_rain_44 rfl hl (by decide) rfl (fun ls hl => ?_)
        refine lv_aload_n hx hb dX8_rain_45 rfl (lv_at hl 1 rfl) ?_
        refine rp_get (C := RX8) (T := TX8) (N := 10) hx hb hts in_X8_rain_X8 hown hK hP 0 (by decide) (kX8 _) rfl 3 (by decide) (by decide +kernel) rfl dX8_rain_46 ?_
        refine lv_iload_n hx hb dX8_rain_49 rfl (lv_at hl 2 rfl) ?_
        refine rp_put (C := RX6) (T := TX6) (N := 10) (v := v) hx hb hts in_X8_rain_X6 tyX6 tyX6_ok nmX6 hown hK hP hD hS (29 + 4 * 0) (hX6 (i := 0) (by decide : 0 < 20)).1 (kX6 (i := 0) _) rfl 1 (by decide) (by decide +kernel) rfl rfl rfl (Nat.le_of_ble_eq_true rfl) (kX6 (i := 0) _) dX8_rain_50 (fun H locs hP hS => ?_)
        refine lv_iload_n hx hb dX8_rain_53 rfl (lv_at hl 0 rfl) ?_
        exact hret hP hS dX8_rain_54 rfl ⟨(by unfold R_X8_rain <;> rw [if_neg c1, if_pos c7, if_neg c20] <;> first | with_reducible rfl), (by unfold T_X8_rain <;> rw [if_neg c1, if_pos c7, if_neg c20] <;> first | with_reducible rfl)⟩
      · skip
        refine lv_ldc (v := (-1000000003)) hx hb hown (hts (.constant RX8 198 (-1000000003)) (by decide +kernel)) dX8_rain_23 ?_
        exact hret hP hS dX8_rain_25 rfl ⟨(by unfold R_X8_rain <;> rw [if_neg c1, if_pos c7, if_pos c20] <;> first | with_reducible rfl), (by unfold T_X8_rain <;> rw [if_neg c1, if_pos c7, if_pos c20] <;> first | with_reducible rfl)⟩
    · skip
      refine lv_ldc (v := (-1000000002)) hx hb hown (hts (.constant RX8 71 (-1000000002)) (by decide +kernel)) dX8_rain_10 ?_
      exact hret hP hS dX8_rain_12 rfl ⟨(by unfold R_X8_rain <;> rw [if_neg c1, if_neg c7] <;> first | with_reducible rfl), (by unfold T_X8_rain <;> rw [if_neg c1, if_neg c7] <;> first | with_reducible rfl)⟩

def R_X8_queue (σ : Nat → Nat → Int32) (n : Nat) (k : Nat) (nx : Nat) (ct : Nat) (q : Nat) (v : Int32) (w : Int32) : Int32 := (if (0 ≤ v ∧ ¬ nI k ≤ v) then (if (0 ≤ w ∧ ¬ nI n ≤ w) then (if (nI q) < 6 then ((T_X6_joinQueue_O (σ (29 + 4 * 0)) (σ (29 + 4 * 0 + 2)) (σ (29 + 4 * 0 + 3)) q v w) 7) else (-1000000004)) else (-1000000001)) else (-1000000001))
def T_X8_queue (σ : Nat → Nat → Int32) (n : Nat) (k : Nat) (nx : Nat) (ct : Nat) (q : Nat) (v : Int32) (w : Int32) : Nat → Nat → Int32 := (if (0 ≤ v ∧ ¬ nI k ≤ v) then (if (0 ≤ w ∧ ¬ nI n ≤ w) then (if (nI q) < 6 then va_up (va_up (va_up (va_up (va_up (va_up (va_up (va_up σ (29 + 4 * (2 + nx)) (T_X3_remember_O2 (σ (29 + 4 * (2 + nx))) (σ (29 + 4 * (2 + nx) + 1)) (σ (29 + 4 * (2 + nx) + 2)) (σ (29 + 4 * (2 + nx) + 3)) (σ 17) (σ (29 + 4 * 0)) (σ (29 + 4 * 0 + 1)) (σ (29 + 4 * 0 + 2)) (σ (29 + 4 * 0 + 3)) nx ct)) (29 + 4 * (2 + nx) + 1) (T_X3_remember_V2 (σ (29 + 4 * (2 + nx))) (σ (29 + 4 * (2 + nx) + 1)) (σ (29 + 4 * (2 + nx) + 2)) (σ (29 + 4 * (2 + nx) + 3)) (σ 17) (σ (29 + 4 * 0)) (σ (29 + 4 * 0 + 1)) (σ (29 + 4 * 0 + 2)) (σ (29 + 4 * 0 + 3)) nx ct)) (29 + 4 * (2 + nx) + 2) (T_X3_remember_P2 (σ (29 + 4 * (2 + nx))) (σ (29 + 4 * (2 + nx) + 1)) (σ (29 + 4 * (2 + nx) + 2)) (σ (29 + 4 * (2 + nx) + 3)) (σ 17) (σ (29 + 4 * 0)) (σ (29 + 4 * 0 + 1)) (σ (29 + 4 * 0 + 2)) (σ (29 + 4 * 0 + 3)) nx ct)) (29 + 4 * (2 + nx) + 3) (T_X3_remember_S2 (σ (29 + 4 * (2 + nx))) (σ (29 + 4 * (2 + nx) + 1)) (σ (29 + 4 * (2 + nx) + 2)) (σ (29 + 4 * (2 + nx) + 3)) (σ 17) (σ (29 + 4 * 0)) (σ (29 + 4 * 0 + 1)) (σ (29 + 4 * 0 + 2)) (σ (29 + 4 * 0 + 3)) nx ct)) 17 (T_X3_remember_PA (σ (29 + 4 * (2 + nx))) (σ (29 + 4 * (2 + nx) + 1)) (σ (29 + 4 * (2 + nx) + 2)) (σ (29 + 4 * (2 + nx) + 3)) (σ 17) (σ (29 + 4 * 0)) (σ (29 + 4 * 0 + 1)) (σ (29 + 4 * 0 + 2)) (σ (29 + 4 * 0 + 3)) nx ct)) (29 + 4 * 0) (T_X6_joinQueue_O (σ (29 + 4 * 0)) (σ (29 + 4 * 0 + 2)) (σ (29 + 4 * 0 + 3)) q v w)) (29 + 4 * 0 + 2) (T_X6_joinQueue_P (σ (29 + 4 * 0)) (σ (29 + 4 * 0 + 2)) (σ (29 + 4 * 0 + 3)) q v w)) (29 + 4 * 0 + 3) (T_X6_joinQueue_S (σ (29 + 4 * 0)) (σ (29 + 4 * 0 + 2)) (σ (29 + 4 * 0 + 3)) q v w) else σ) else σ) else σ)
theorem in_X8_queue_X6 : ∀ w ∈ u_ws RX6 TX6 10, w ∈ wsX8_queue := by decide +kernel
theorem in_X8_queue_X8 : ∀ w ∈ u_ws RX8 TX8 10, w ∈ wsX8_queue := by decide +kernel
set_option maxHeartbeats 1000000 in
set_option maxRecDepth 100000 in
theorem c_X8_queue (l : Launch) (D : va_G) (cy : Nat → ClassId) (ad : Nat → Nat) (y z : Nat) (σ : Nat → Nat → Int32) (n : Nat) (k : Nat) (nx : Nat) (ct : Nat) (q : Nat) (v : Int32) (w : Int32) (hy : y = 3 ∨ y = 10) (hn : n ≤ 10) (en : σ y 5 = nI n) (hk : k ≤ 5) (ek : σ y 3 = nI k) (hnx : nx < 16) (enx : σ 17 1 = nI nx) (hct : ct ≤ 16) (ect : σ 17 2 = nI ct) (hq : q ≤ 6) (eq : σ (29 + 4 * 0) 7 = nI q) : MI l D (tysW cy) 109 ad (cfX ad cy y z) yX8_queue wsX8_queue ({ frames := 3, cells := 0, slots := 0, locals := 83 }) σ [.ref (ad 0), .int v, .int w] (fun v_ τ_ => (R_X8_queue σ n k nx ct q v w) = v_ ∧ (T_X8_queue σ n k nx ct q v w) = τ_) := by
  refine MI.go (cc := cX8_queue) (maxL := 3) .int (by decide) rfl (Nat.le_of_ble_eq_true rfl) ?_
  intro p_ e_ s_ m_ args_ bl_ mt_ c_ A_ Q_ ls hx hb hml hown hts hK hA hD hP hS hl hret
  have hl : lv_has ls 3 [(0, .ref (ad 0)), (1, .int v), (2, .int w)] := hl
  refine lv_aload_n hx hb dX8_queue_0 rfl (lv_at hl 0 rfl) ?_
  refine rp_get (C := RX8) (T := TX8) (N := 10) hx hb hts in_X8_queue_X8 hown hK hP 0 (by decide) (kX8 _) rfl 1 (by decide) (by decide +kernel) rfl dX8_queue_1 ?_
  refine lv_iload_n hx hb dX8_queue_4 rfl (lv_at hl 1 rfl) ?_
  refine rp_callVI (na := 1) hx hb hml hown hts hK hA hD hP hS hl.1 y (hX7 hy).1 (kX7 hy _) rfl [.int v] (c_X7_hasPerson l D cy ad y z σ y v hy) gX8_queue_X7_hasPerson rfl (by decide +kernel) rfl ⟨Nat.le_of_ble_eq_true rfl, Nat.le_of_ble_eq_true rfl⟩ ⟨rfl, rfl⟩ ⟨Nat.zero_le _, Nat.zero_le _⟩ rfl (Nat.le_of_ble_eq_true rfl) dX8_queue_5 (fun v_ τ_ H locs hq hP hS => ?_)
  obtain ⟨rfl, rfl⟩ := hq
  rw [ek]
  refine lv_if_eq (tgt := 22) hx hb dX8_queue_8 (by decide) (fun c8 => ?_) (fun c8 => ?_)
  · skip
    have c8 := bi_eq0.mp c8
    refine lv_ldc (v := (-1000000001)) hx hb hown (hts (.constant RX8 146 (-1000000001)) (by decide +kernel)) dX8_queue_22 ?_
    exact hret hP hS dX8_queue_24 rfl ⟨(by unfold R_X8_queue <;> rw [if_neg c8] <;> first | with_reducible rfl), (by unfold T_X8_queue <;> rw [if_neg c8] <;> first | with_reducible rfl)⟩
  · skip
    have c8 := bi_ne0.mp c8
    obtain ⟨jv, hjv, rfl⟩ := nI_rng2 c8 (by omega)
    refine lv_aload_n hx hb dX8_queue_11 rfl (lv_at hl 0 rfl) ?_
    refine rp_get (C := RX8) (T := TX8) (N := 10) hx hb hts in_X8_queue_X8 hown hK hP 0 (by decide) (kX8 _) rfl 1 (by decide) (by decide +kernel) rfl dX8_queue_12 ?_
    refine lv_iload_n hx hb dX8_queue_15 rfl (lv_at hl 2 rfl) ?_
    refine rp_callVI (na := 1) hx hb hml hown hts hK hA hD hP hS hl.1 y (hX7 hy).1 (kX7 hy _) rfl [.int w] (c_X7_hasSaying l D cy ad y z σ y w hy) gX8_queue_X7_hasSaying rfl (by decide +kernel) rfl ⟨Nat.le_of_ble_eq_true rfl, Nat.le_of_ble_eq_true rfl⟩ ⟨rfl, rfl⟩ ⟨Nat.zero_le _, Nat.zero_le _⟩ rfl (Nat.le_of_ble_eq_true rfl) dX8_queue_16 (fun v_ τ_ H locs hq hP hS => ?_)
    obtain ⟨rfl, rfl⟩ := hq
    rw [en]
    refine lv_if_ne (tgt := 25) hx hb dX8_queue_19 (by decide) (fun c19 => ?_) (fun c19 => ?_)
    · skip
      have c19 := bi_ne0.mp c19
      obtain ⟨jw, hjw, rfl⟩ := nI_rng2 c19 (by omega)
      refine lv_aload_n hx hb dX8_queue_25 rfl (lv_at hl 0 rfl) ?_
      refine rp_get (C := RX8) (T := TX8) (N := 10) hx hb hts in_X8_queue_X8 hown hK hP 0 (by decide) (kX8 _) rfl 3 (by decide) (by decide +kernel) rfl dX8_queue_26 ?_
      refine rp_get (C := RX6) (T := TX6) (N := 10) hx hb hts in_X8_queue_X6 hown hK hP (29 + 4 * 0) (hX6 (i := 0) (by decide : 0 < 20)).1 (kX6 (i := 0) _) rfl 7 (by decide) (by decide +kernel) rfl dX8_queue_29 ?_
      rw [eq]
      refine lv_bipush (v := 6) hx hb dX8_queue_32 (by decide) ?_
      refine lv_icmp_lt (tgt := 40) hx hb dX8_queue_34 (by decide) (fun c34 => ?_) (fun c34 => ?_)
      · skip
        have hq2 : q < 6 := (nI_ltI (by omega) (by decide)).mp c34
        refine lv_aload_n hx hb dX8_queue_40 rfl (lv_at hl 0 rfl) ?_
        refine rp_get (C := RX8) (T := TX8) (N := 10) hx hb hts in_X8_queue_X8 hown hK hP 0 (by decide) (kX8 _) rfl 5 (by decide) (by decide +kernel) rfl dX8_queue_41 ?_
        refine lv_aload_n hx hb dX8_queue_44 rfl (lv_at hl 0 rfl) ?_
        refine rp_get (C := RX8) (T := TX8) (N := 10) hx hb hts in_X8_queue_X8 hown hK hP 0 (by decide) (kX8 _) rfl 3 (by decide) (by decide +kernel) rfl dX8_queue_45 ?_
        refine rp_callVV (na := 1) hx hb hml hown hts hK hA hD hP hS hl.1 17 (by decide) (kX3 _) rfl [.ref (ad (29 + 4 * 0))] (c_X3_remember l D cy ad y z σ (σ (29 + 4 * (2 + nx))) (σ (29 + 4 * (2 + nx) + 1)) (σ (29 + 4 * (2 + nx) + 2)) (σ (29 + 4 * (2 + nx) + 3)) (σ 17) (σ (29 + 4 * 0)) (σ (29 + 4 * 0 + 1)) (σ (29 + 4 * 0 + 2)) (σ (29 + 4 * 0 + 3)) 0 nx ct rfl rfl rfl rfl rfl rfl rfl rfl rfl (by decide : 0 < 20) (by first | assumption | omega) (by first | assumption | omega) (by first | assumption | omega) (by first | assumption | omega) (by first | assumption | omega)) gX8_queue_X3_remember rfl (by decide +kernel) rfl ⟨Nat.le_of_ble_eq_true rfl, Nat.le_of_ble_eq_true rfl⟩ ⟨rfl, rfl⟩ ⟨Nat.zero_le _, Nat.zero_le _⟩ rfl (Nat.le_of_ble_eq_true rfl) dX8_queue_48 (fun τ_ H locs hq hP hS => ?_)
        subst hq
        refine lv_aload_n hx hb dX8_queue_51 rfl (lv_at hl 0 rfl) ?_
        refine rp_get (C := RX8) (T := TX8) (N := 10) hx hb hts in_X8_queue_X8 hown hK hP 0 (by decide) (kX8 _) rfl 3 (by decide) (by decide +kernel) rfl dX8_queue_52 ?_
        refine lv_iload_n hx hb dX8_queue_55 rfl (lv_at hl 1 rfl) ?_
        refine lv_iload_n hx hb dX8_queue_56 rfl (lv_at hl 2 rfl) ?_
        refine rp_callVV (na := 2) hx hb hml hown hts hK hA hD hP hS hl.1 (29 + 4 * 0) (hX6 (i := 0) (by decide : 0 < 20)).1 (kX6 (i := 0) _) rfl [.int (nI jv), .int (nI jw)] (c_X6_joinQueue l D cy ad y z (va_up (va_up (va_up (va_up (va_up σ (29 + 4 * (2 + nx)) (T_X3_remember_O2 (σ (29 + 4 * (2 + nx))) (σ (29 + 4 * (2 + nx) + 1)) (σ (29 + 4 * (2 + nx) + 2)) (σ (29 + 4 * (2 + nx) + 3)) (σ 17) (σ (29 + 4 * 0)) (σ (29 + 4 * 0 + 1)) (σ (29 + 4 * 0 + 2)) (σ (29 + 4 * 0 + 3)) nx ct)) (29 + 4 * (2 + nx) + 1) (T_X3_remember_V2 (σ (29 + 4 * (2 + nx))) (σ (29 + 4 * (2 + nx) + 1)) (σ (29 + 4 * (2 + nx) + 2)) (σ (29 + 4 * (2 + nx) + 3)) (σ 17) (σ (29 + 4 * 0)) (σ (29 + 4 * 0 + 1)) (σ (29 + 4 * 0 + 2)) (σ (29 + 4 * 0 + 3)) nx ct)) (29 + 4 * (2 + nx) + 2) (T_X3_remember_P2 (σ (29 + 4 * (2 + nx))) (σ (29 + 4 * (2 + nx) + 1)) (σ (29 + 4 * (2 + nx) + 2)) (σ (29 + 4 * (2 + nx) + 3)) (σ 17) (σ (29 + 4 * 0)) (σ (29 + 4 * 0 + 1)) (σ (29 + 4 * 0 + 2)) (σ (29 + 4 * 0 + 3)) nx ct)) (29 + 4 * (2 + nx) + 3) (T_X3_remember_S2 (σ (29 + 4 * (2 + nx))) (σ (29 + 4 * (2 + nx) + 1)) (σ (29 + 4 * (2 + nx) + 2)) (σ (29 + 4 * (2 + nx) + 3)) (σ 17) (σ (29 + 4 * 0)) (σ (29 + 4 * 0 + 1)) (σ (29 + 4 * 0 + 2)) (σ (29 + 4 * 0 + 3)) nx ct)) 17 (T_X3_remember_PA (σ (29 + 4 * (2 + nx))) (σ (29 + 4 * (2 + nx) + 1)) (σ (29 + 4 * (2 + nx) + 2)) (σ (29 + 4 * (2 + nx) + 3)) (σ 17) (σ (29 + 4 * 0)) (σ (29 + 4 * 0 + 1)) (σ (29 + 4 * 0 + 2)) (σ (29 + 4 * 0 + 3)) nx ct)) (σ (29 + 4 * 0)) (σ (29 + 4 * 0 + 2)) (σ (29 + 4 * 0 + 3)) 0 q (nI jv) (nI jw) ((va_Q (by omega)).trans ((va_Q (by omega)).trans ((va_Q (by omega)).trans ((va_Q (by omega)).trans (va_Q (by omega)))))) ((va_Q (by omega)).trans ((va_Q (by omega)).trans ((va_Q (by omega)).trans ((va_Q (by omega)).trans (va_Q (by omega)))))) ((va_Q (by omega)).trans ((va_Q (by omega)).trans ((va_Q (by omega)).trans ((va_Q (by omega)).trans (va_Q (by omega)))))) (by decide : 0 < 20) (by first | assumption | omega) (by first | assumption | omega)) gX8_queue_X6_joinQueue rfl (by decide +kernel) rfl ⟨Nat.le_of_ble_eq_true rfl, Nat.le_of_ble_eq_true rfl⟩ ⟨rfl, rfl⟩ ⟨Nat.zero_le _, Nat.zero_le _⟩ rfl (Nat.le_of_ble_eq_true rfl) dX8_queue_57 (fun τ_ H locs hq hP hS => ?_)
        subst hq
        refine lv_aload_n hx hb dX8_queue_60 rfl (lv_at hl 0 rfl) ?_
        refine rp_get (C := RX8) (T := TX8) (N := 10) hx hb hts in_X8_queue_X8 hown hK hP 0 (by decide) (kX8 _) rfl 3 (by decide) (by decide +kernel) rfl dX8_queue_61 ?_
        refine rp_get (C := RX6) (T := TX6) (N := 10) hx hb hts in_X8_queue_X6 hown hK hP (29 + 4 * 0) (hX6 (i := 0) (by decide : 0 < 20)).1 (kX6 (i := 0) _) rfl 7 (by decide) (by decide +kernel) rfl dX8_queue_64 ?_
        rw [show (va_up (va_up (va_up (va_up (va_up (va_up (va_up (va_up σ (29 + 4 * (2 + nx)) (T_X3_remember_O2 (σ (29 + 4 * (2 + nx))) (σ (29 + 4 * (2 + nx) + 1)) (σ (29 + 4 * (2 + nx) + 2)) (σ (29 + 4 * (2 + nx) + 3)) (σ 17) (σ (29 + 4 * 0)) (σ (29 + 4 * 0 + 1)) (σ (29 + 4 * 0 + 2)) (σ (29 + 4 * 0 + 3)) nx ct)) (29 + 4 * (2 + nx) + 1) (T_X3_remember_V2 (σ (29 + 4 * (2 + nx))) (σ (29 + 4 * (2 + nx) + 1)) (σ (29 + 4 * (2 + nx) + 2)) (σ (29 + 4 * (2 + nx) + 3)) (σ 17) (σ (29 + 4 * 0)) (σ (29 + 4 * 0 + 1)) (σ (29 + 4 * 0 + 2)) (σ (29 + 4 * 0 + 3)) nx ct)) (29 + 4 * (2 + nx) + 2) (T_X3_remember_P2 (σ (29 + 4 * (2 + nx))) (σ (29 + 4 * (2 + nx) + 1)) (σ (29 + 4 * (2 + nx) + 2)) (σ (29 + 4 * (2 + nx) + 3)) (σ 17) (σ (29 + 4 * 0)) (σ (29 + 4 * 0 + 1)) (σ (29 + 4 * 0 + 2)) (σ (29 + 4 * 0 + 3)) nx ct)) (29 + 4 * (2 + nx) + 3) (T_X3_remember_S2 (σ (29 + 4 * (2 + nx))) (σ (29 + 4 * (2 + nx) + 1)) (σ (29 + 4 * (2 + nx) + 2)) (σ (29 + 4 * (2 + nx) + 3)) (σ 17) (σ (29 + 4 * 0)) (σ (29 + 4 * 0 + 1)) (σ (29 + 4 * 0 + 2)) (σ (29 + 4 * 0 + 3)) nx ct)) 17 (T_X3_remember_PA (σ (29 + 4 * (2 + nx))) (σ (29 + 4 * (2 + nx) + 1)) (σ (29 + 4 * (2 + nx) + 2)) (σ (29 + 4 * (2 + nx) + 3)) (σ 17) (σ (29 + 4 * 0)) (σ (29 + 4 * 0 + 1)) (σ (29 + 4 * 0 + 2)) (σ (29 + 4 * 0 + 3)) nx ct)) (29 + 4 * 0) (T_X6_joinQueue_O (σ (29 + 4 * 0)) (σ (29 + 4 * 0 + 2)) (σ (29 + 4 * 0 + 3)) q (nI jv) (nI jw))) (29 + 4 * 0 + 2) (T_X6_joinQueue_P (σ (29 + 4 * 0)) (σ (29 + 4 * 0 + 2)) (σ (29 + 4 * 0 + 3)) q (nI jv) (nI jw))) (29 + 4 * 0 + 3) (T_X6_joinQueue_S (σ (29 + 4 * 0)) (σ (29 + 4 * 0 + 2)) (σ (29 + 4 * 0 + 3)) q (nI jv) (nI jw))) (29 + 4 * 0) 7 = ((T_X6_joinQueue_O (σ (29 + 4 * 0)) (σ (29 + 4 * 0 + 2)) (σ (29 + 4 * 0 + 3)) q (nI jv) (nI jw)) 7) from ((va_R (by omega)).trans ((va_R (by omega)).trans va_S'))]
        exact hret hP hS dX8_queue_67 rfl ⟨(by unfold R_X8_queue <;> (try rw [nI_clamp (n := jv) (by omega)]) <;> (try rw [nI_clamp (n := jw) (by omega)]) <;> rw [if_pos c8, if_pos c19, if_pos c34] <;> first | with_reducible rfl), (by unfold T_X8_queue <;> (try rw [nI_clamp (n := jv) (by omega)]) <;> (try rw [nI_clamp (n := jw) (by omega)]) <;> rw [if_pos c8, if_pos c19, if_pos c34] <;> first | with_reducible rfl)⟩
      · skip
        refine lv_ldc (v := (-1000000004)) hx hb hown (hts (.constant RX8 80 (-1000000004)) (by decide +kernel)) dX8_queue_37 ?_
        exact hret hP hS dX8_queue_39 rfl ⟨(by unfold R_X8_queue <;> (try rw [nI_clamp (n := jv) (by omega)]) <;> (try rw [nI_clamp (n := jw) (by omega)]) <;> rw [if_pos c8, if_pos c19, if_neg c34] <;> first | with_reducible rfl), (by unfold T_X8_queue <;> (try rw [nI_clamp (n := jv) (by omega)]) <;> (try rw [nI_clamp (n := jw) (by omega)]) <;> rw [if_pos c8, if_pos c19, if_neg c34] <;> first | with_reducible rfl)⟩
    · skip
      have c19 := bi_eq0.mp c19
      refine lv_ldc (v := (-1000000001)) hx hb hown (hts (.constant RX8 146 (-1000000001)) (by decide +kernel)) dX8_queue_22 ?_
      exact hret hP hS dX8_queue_24 rfl ⟨(by unfold R_X8_queue <;> (try rw [nI_clamp (n := jv) (by omega)]) <;> rw [if_pos c8, if_neg c19] <;> first | with_reducible rfl), (by unfold T_X8_queue <;> (try rw [nI_clamp (n := jv) (by omega)]) <;> rw [if_pos c8, if_neg c19] <;> first | with_reducible rfl)⟩

def R_X8_turn (σ : Nat → Nat → Int32) (y : Nat) (n : Nat) (k : Nat) (nx : Nat) (ct : Nat) (q : Nat) (p : Nat) (s : Nat) : Int32 := (if (nI q) = 0 then (-1000000003) else (R_X6_takeTurn (σ (y + 1)) (σ (y + 2)) (σ (y + 3)) (σ (29 + 4 * 0)) (σ (29 + 4 * 0 + 1)) (σ (29 + 4 * 0 + 2)) (σ (29 + 4 * 0 + 3)) p s (q - 1)))
def T_X8_turn (σ : Nat → Nat → Int32) (y : Nat) (n : Nat) (k : Nat) (nx : Nat) (ct : Nat) (q : Nat) (p : Nat) (s : Nat) : Nat → Nat → Int32 := (if (nI q) = 0 then σ else va_up (va_up (va_up (va_up (va_up (va_up (va_up (va_up (va_up σ (29 + 4 * (2 + nx)) (T_X3_remember_O2 (σ (29 + 4 * (2 + nx))) (σ (29 + 4 * (2 + nx) + 1)) (σ (29 + 4 * (2 + nx) + 2)) (σ (29 + 4 * (2 + nx) + 3)) (σ 17) (σ (29 + 4 * 0)) (σ (29 + 4 * 0 + 1)) (σ (29 + 4 * 0 + 2)) (σ (29 + 4 * 0 + 3)) nx ct)) (29 + 4 * (2 + nx) + 1) (T_X3_remember_V2 (σ (29 + 4 * (2 + nx))) (σ (29 + 4 * (2 + nx) + 1)) (σ (29 + 4 * (2 + nx) + 2)) (σ (29 + 4 * (2 + nx) + 3)) (σ 17) (σ (29 + 4 * 0)) (σ (29 + 4 * 0 + 1)) (σ (29 + 4 * 0 + 2)) (σ (29 + 4 * 0 + 3)) nx ct)) (29 + 4 * (2 + nx) + 2) (T_X3_remember_P2 (σ (29 + 4 * (2 + nx))) (σ (29 + 4 * (2 + nx) + 1)) (σ (29 + 4 * (2 + nx) + 2)) (σ (29 + 4 * (2 + nx) + 3)) (σ 17) (σ (29 + 4 * 0)) (σ (29 + 4 * 0 + 1)) (σ (29 + 4 * 0 + 2)) (σ (29 + 4 * 0 + 3)) nx ct)) (29 + 4 * (2 + nx) + 3) (T_X3_remember_S2 (σ (29 + 4 * (2 + nx))) (σ (29 + 4 * (2 + nx) + 1)) (σ (29 + 4 * (2 + nx) + 2)) (σ (29 + 4 * (2 + nx) + 3)) (σ 17) (σ (29 + 4 * 0)) (σ (29 + 4 * 0 + 1)) (σ (29 + 4 * 0 + 2)) (σ (29 + 4 * 0 + 3)) nx ct)) 17 (T_X3_remember_PA (σ (29 + 4 * (2 + nx))) (σ (29 + 4 * (2 + nx) + 1)) (σ (29 + 4 * (2 + nx) + 2)) (σ (29 + 4 * (2 + nx) + 3)) (σ 17) (σ (29 + 4 * 0)) (σ (29 + 4 * 0 + 1)) (σ (29 + 4 * 0 + 2)) (σ (29 + 4 * 0 + 3)) nx ct)) (29 + 4 * 0) (T_X6_takeTurn_O (σ (y + 1)) (σ (y + 2)) (σ (y + 3)) (σ (29 + 4 * 0)) (σ (29 + 4 * 0 + 1)) (σ (29 + 4 * 0 + 2)) (σ (29 + 4 * 0 + 3)) p s (q - 1))) (29 + 4 * 0 + 1) (T_X6_takeTurn_V (σ (y + 1)) (σ (y + 2)) (σ (y + 3)) (σ (29 + 4 * 0)) (σ (29 + 4 * 0 + 1)) (σ (29 + 4 * 0 + 2)) (σ (29 + 4 * 0 + 3)) p s (q - 1))) (29 + 4 * 0 + 2) (T_X6_takeTurn_P (σ (y + 1)) (σ (y + 2)) (σ (y + 3)) (σ (29 + 4 * 0)) (σ (29 + 4 * 0 + 1)) (σ (29 + 4 * 0 + 2)) (σ (29 + 4 * 0 + 3)) p s (q - 1))) (29 + 4 * 0 + 3) (T_X6_takeTurn_S (σ (y + 1)) (σ (y + 2)) (σ (y + 3)) (σ (29 + 4 * 0)) (σ (29 + 4 * 0 + 1)) (σ (29 + 4 * 0 + 2)) (σ (29 + 4 * 0 + 3)) p s (q - 1)))
theorem in_X8_turn_X6 : ∀ w ∈ u_ws RX6 TX6 10, w ∈ wsX8_turn := by decide +kernel
theorem in_X8_turn_X8 : ∀ w ∈ u_ws RX8 TX8 10, w ∈ wsX8_turn := by decide +kernel
set_option maxHeartbeats 1000000 in
set_option maxRecDepth 100000 in
theorem c_X8_turn (l : Launch) (D : va_G) (cy : Nat → ClassId) (ad : Nat → Nat) (y z : Nat) (σ : Nat → Nat → Int32) (n : Nat) (k : Nat) (nx : Nat) (ct : Nat) (q : Nat) (p : Nat) (s : Nat) (hy : y = 3 ∨ y = 10) (hn : n ≤ 10) (en : σ y 5 = nI n) (hk : k ≤ 5) (ek : σ y 3 = nI k) (hnx : nx < 16) (enx : σ 17 1 = nI nx) (hct : ct ≤ 16) (ect : σ 17 2 = nI ct) (hq : q ≤ 6) (eq : σ (29 + 4 * 0) 7 = nI q) (hqq : 0 < q → σ (29 + 4 * 0 + 2) 0 = nI p ∧ σ (29 + 4 * 0 + 3) 0 = nI s ∧ p < k ∧ s < n) : MI l D (tysW cy) 109 ad (cfX ad cy y z) yX8_turn wsX8_turn ({ frames := 4, cells := 0, slots := 0, locals := 94 }) σ [.ref (ad 0)] (fun v_ τ_ => (R_X8_turn σ y n k nx ct q p s) = v_ ∧ (T_X8_turn σ y n k nx ct q p s) = τ_) := by
  refine MI.go (cc := cX8_turn) (maxL := 1) .int (by decide) rfl (Nat.le_of_ble_eq_true rfl) ?_
  intro p_ e_ s_ m_ args_ bl_ mt_ c_ A_ Q_ ls hx hb hml hown hts hK hA hD hP hS hl hret
  have hl : lv_has ls 1 [(0, .ref (ad 0))] := hl
  refine lv_aload_n hx hb dX8_turn_0 rfl (lv_at hl 0 rfl) ?_
  refine rp_get (C := RX8) (T := TX8) (N := 10) hx hb hts in_X8_turn_X8 hown hK hP 0 (by decide) (kX8 _) rfl 3 (by decide) (by decide +kernel) rfl dX8_turn_1 ?_
  refine rp_get (C := RX6) (T := TX6) (N := 10) hx hb hts in_X8_turn_X6 hown hK hP (29 + 4 * 0) (hX6 (i := 0) (by decide : 0 < 20)).1 (kX6 (i := 0) _) rfl 7 (by decide) (by decide +kernel) rfl dX8_turn_4 ?_
  rw [eq]
  refine lv_if_ne (tgt := 13) hx hb dX8_turn_7 (by decide) (fun c7 => ?_) (fun c7 => ?_)
  · skip
    obtain ⟨q1, rfl⟩ := pos_q c7
    obtain ⟨hqp, hqs, hp, hs⟩ := hqq (by omega)
    refine lv_aload_n hx hb dX8_turn_13 rfl (lv_at hl 0 rfl) ?_
    refine rp_get (C := RX8) (T := TX8) (N := 10) hx hb hts in_X8_turn_X8 hown hK hP 0 (by decide) (kX8 _) rfl 5 (by decide) (by decide +kernel) rfl dX8_turn_14 ?_
    refine lv_aload_n hx hb dX8_turn_17 rfl (lv_at hl 0 rfl) ?_
    refine rp_get (C := RX8) (T := TX8) (N := 10) hx hb hts in_X8_turn_X8 hown hK hP 0 (by decide) (kX8 _) rfl 3 (by decide) (by decide +kernel) rfl dX8_turn_18 ?_
    refine rp_callVV (na := 1) hx hb hml hown hts hK hA hD hP hS hl.1 17 (by decide) (kX3 _) rfl [.ref (ad (29 + 4 * 0))] (c_X3_remember l D cy ad y z σ (σ (29 + 4 * (2 + nx))) (σ (29 + 4 * (2 + nx) + 1)) (σ (29 + 4 * (2 + nx) + 2)) (σ (29 + 4 * (2 + nx) + 3)) (σ 17) (σ (29 + 4 * 0)) (σ (29 + 4 * 0 + 1)) (σ (29 + 4 * 0 + 2)) (σ (29 + 4 * 0 + 3)) 0 nx ct rfl rfl rfl rfl rfl rfl rfl rfl rfl (by decide : 0 < 20) (by first | assumption | omega) (by first | assumption | omega) (by first | assumption | omega) (by first | assumption | omega) (by first | assumption | omega)) gX8_turn_X3_remember rfl (by decide +kernel) rfl ⟨Nat.le_of_ble_eq_true rfl, Nat.le_of_ble_eq_true rfl⟩ ⟨rfl, rfl⟩ ⟨Nat.zero_le _, Nat.zero_le _⟩ rfl (Nat.le_of_ble_eq_true rfl) dX8_turn_21 (fun τ_ H locs hq hP hS => ?_)
    subst hq
    refine lv_aload_n hx hb dX8_turn_24 rfl (lv_at hl 0 rfl) ?_
    refine rp_get (C := RX8) (T := TX8) (N := 10) hx hb hts in_X8_turn_X8 hown hK hP 0 (by decide) (kX8 _) rfl 3 (by decide) (by decide +kernel) rfl dX8_turn_25 ?_
    refine lv_aload_n hx hb dX8_turn_28 rfl (lv_at hl 0 rfl) ?_
    refine rp_get (C := RX8) (T := TX8) (N := 10) hx hb hts in_X8_turn_X8 hown hK hP 0 (by decide) (kX8 _) rfl 1 (by decide) (by decide +kernel) rfl dX8_turn_29 ?_
    refine rp_callVI (na := 1) hx hb hml hown hts hK hA hD hP hS hl.1 (29 + 4 * 0) (hX6 (i := 0) (by decide : 0 < 20)).1 (kX6 (i := 0) _) rfl [.ref (ad y)] (c_X6_takeTurn l D cy ad y z (va_up (va_up (va_up (va_up (va_up σ (29 + 4 * (2 + nx)) (T_X3_remember_O2 (σ (29 + 4 * (2 + nx))) (σ (29 + 4 * (2 + nx) + 1)) (σ (29 + 4 * (2 + nx) + 2)) (σ (29 + 4 * (2 + nx) + 3)) (σ 17) (σ (29 + 4 * 0)) (σ (29 + 4 * 0 + 1)) (σ (29 + 4 * 0 + 2)) (σ (29 + 4 * 0 + 3)) nx ct)) (29 + 4 * (2 + nx) + 1) (T_X3_remember_V2 (σ (29 + 4 * (2 + nx))) (σ (29 + 4 * (2 + nx) + 1)) (σ (29 + 4 * (2 + nx) + 2)) (σ (29 + 4 * (2 + nx) + 3)) (σ 17) (σ (29 + 4 * 0)) (σ (29 + 4 * 0 + 1)) (σ (29 + 4 * 0 + 2)) (σ (29 + 4 * 0 + 3)) nx ct)) (29 + 4 * (2 + nx) + 2) (T_X3_remember_P2 (σ (29 + 4 * (2 + nx))) (σ (29 + 4 * (2 + nx) + 1)) (σ (29 + 4 * (2 + nx) + 2)) (σ (29 + 4 * (2 + nx) + 3)) (σ 17) (σ (29 + 4 * 0)) (σ (29 + 4 * 0 + 1)) (σ (29 + 4 * 0 + 2)) (σ (29 + 4 * 0 + 3)) nx ct)) (29 + 4 * (2 + nx) + 3) (T_X3_remember_S2 (σ (29 + 4 * (2 + nx))) (σ (29 + 4 * (2 + nx) + 1)) (σ (29 + 4 * (2 + nx) + 2)) (σ (29 + 4 * (2 + nx) + 3)) (σ 17) (σ (29 + 4 * 0)) (σ (29 + 4 * 0 + 1)) (σ (29 + 4 * 0 + 2)) (σ (29 + 4 * 0 + 3)) nx ct)) 17 (T_X3_remember_PA (σ (29 + 4 * (2 + nx))) (σ (29 + 4 * (2 + nx) + 1)) (σ (29 + 4 * (2 + nx) + 2)) (σ (29 + 4 * (2 + nx) + 3)) (σ 17) (σ (29 + 4 * 0)) (σ (29 + 4 * 0 + 1)) (σ (29 + 4 * 0 + 2)) (σ (29 + 4 * 0 + 3)) nx ct)) (σ (y + 1)) (σ (y + 2)) (σ (y + 3)) (σ (29 + 4 * 0)) (σ (29 + 4 * 0 + 1)) (σ (29 + 4 * 0 + 2)) (σ (29 + 4 * 0 + 3)) 0 y p s n k q1 ((va_Q (by omega)).trans ((va_Q (by omega)).trans ((va_Q (by omega)).trans ((va_Q (by omega)).trans (va_Q (by omega)))))) ((va_Q (by omega)).trans ((va_Q (by omega)).trans ((va_Q (by omega)).trans ((va_Q (by omega)).trans (va_Q (by omega)))))) ((va_Q (by omega)).trans ((va_Q (by omega)).trans ((va_Q (by omega)).trans ((va_Q (by omega)).trans (va_Q (by omega)))))) ((va_Q (by omega)).trans ((va_Q (by omega)).trans ((va_Q (by omega)).trans ((va_Q (by omega)).trans (va_Q (by omega)))))) ((va_Q (by omega)).trans ((va_Q (by omega)).trans ((va_Q (by omega)).trans ((va_Q (by omega)).trans (va_Q (by omega)))))) ((va_Q (by omega)).trans ((va_Q (by omega)).trans ((va_Q (by omega)).trans ((va_Q (by omega)).trans (va_Q (by omega)))))) ((va_Q (by omega)).trans ((va_Q (by omega)).trans ((va_Q (by omega)).trans ((va_Q (by omega)).trans (va_Q (by omega)))))) (by decide : 0 < 20) hy (by first | assumption | omega) (((va_R (by omega)).trans ((va_R (by omega)).trans ((va_R (by omega)).trans ((va_R (by omega)).trans (va_R (by omega)))))).trans (by first | assumption | rfl)) (by first | assumption | omega) (((va_R (by omega)).trans ((va_R (by omega)).trans ((va_R (by omega)).trans ((va_R (by omega)).trans (va_R (by omega)))))).trans (by first | assumption | rfl)) (by first | assumption | omega) (by first | assumption | omega) (by first | assumption | omega) eq hqp hqs) gX8_turn_X6_takeTurn rfl (by decide +kernel) rfl ⟨Nat.le_of_ble_eq_true rfl, Nat.le_of_ble_eq_true rfl⟩ ⟨rfl, rfl⟩ ⟨Nat.zero_le _, Nat.zero_le _⟩ rfl (Nat.le_of_ble_eq_true rfl) dX8_turn_32 (fun v_ τ_ H locs hq hP hS => ?_)
    obtain ⟨rfl, rfl⟩ := hq
    exact hret hP hS dX8_turn_35 rfl ⟨(by unfold R_X8_turn <;> rw [if_neg c7] <;> first | with_reducible rfl | rfl), (by unfold T_X8_turn <;> rw [if_neg c7] <;> first | with_reducible rfl | rfl)⟩
  · skip
    refine lv_ldc (v := (-1000000003)) hx hb hown (hts (.constant RX8 198 (-1000000003)) (by decide +kernel)) dX8_turn_10 ?_
    exact hret hP hS dX8_turn_12 rfl ⟨(by unfold R_X8_turn <;> rw [if_pos c7] <;> first | with_reducible rfl | rfl), (by unfold T_X8_turn <;> rw [if_pos c7] <;> first | with_reducible rfl | rfl)⟩

def R_X8_undo (σ : Nat → Nat → Int32) (nx : Nat) (ct : Nat) : Int32 := (if (nI ct) = 0 then (-1000000003) else ((T_X3_takeBack_PA (σ (29 + 4 * 0)) (σ (29 + 4 * 0 + 1)) (σ (29 + 4 * 0 + 2)) (σ (29 + 4 * 0 + 3)) (σ 17) (σ (29 + 4 * (2 + (nx + 15) % 16))) (σ (29 + 4 * (2 + (nx + 15) % 16) + 1)) (σ (29 + 4 * (2 + (nx + 15) % 16) + 2)) (σ (29 + 4 * (2 + (nx + 15) % 16) + 3)) nx ct) 2))
def T_X8_undo (σ : Nat → Nat → Int32) (nx : Nat) (ct : Nat) : Nat → Nat → Int32 := (if (nI ct) = 0 then σ else va_up (va_up (va_up (va_up (va_up σ (29 + 4 * 0) (T_X3_takeBack_O (σ (29 + 4 * 0)) (σ (29 + 4 * 0 + 1)) (σ (29 + 4 * 0 + 2)) (σ (29 + 4 * 0 + 3)) (σ 17) (σ (29 + 4 * (2 + (nx + 15) % 16))) (σ (29 + 4 * (2 + (nx + 15) % 16) + 1)) (σ (29 + 4 * (2 + (nx + 15) % 16) + 2)) (σ (29 + 4 * (2 + (nx + 15) % 16) + 3)) nx ct)) (29 + 4 * 0 + 1) (T_X3_takeBack_V (σ (29 + 4 * 0)) (σ (29 + 4 * 0 + 1)) (σ (29 + 4 * 0 + 2)) (σ (29 + 4 * 0 + 3)) (σ 17) (σ (29 + 4 * (2 + (nx + 15) % 16))) (σ (29 + 4 * (2 + (nx + 15) % 16) + 1)) (σ (29 + 4 * (2 + (nx + 15) % 16) + 2)) (σ (29 + 4 * (2 + (nx + 15) % 16) + 3)) nx ct)) (29 + 4 * 0 + 2) (T_X3_takeBack_P (σ (29 + 4 * 0)) (σ (29 + 4 * 0 + 1)) (σ (29 + 4 * 0 + 2)) (σ (29 + 4 * 0 + 3)) (σ 17) (σ (29 + 4 * (2 + (nx + 15) % 16))) (σ (29 + 4 * (2 + (nx + 15) % 16) + 1)) (σ (29 + 4 * (2 + (nx + 15) % 16) + 2)) (σ (29 + 4 * (2 + (nx + 15) % 16) + 3)) nx ct)) (29 + 4 * 0 + 3) (T_X3_takeBack_S (σ (29 + 4 * 0)) (σ (29 + 4 * 0 + 1)) (σ (29 + 4 * 0 + 2)) (σ (29 + 4 * 0 + 3)) (σ 17) (σ (29 + 4 * (2 + (nx + 15) % 16))) (σ (29 + 4 * (2 + (nx + 15) % 16) + 1)) (σ (29 + 4 * (2 + (nx + 15) % 16) + 2)) (σ (29 + 4 * (2 + (nx + 15) % 16) + 3)) nx ct)) 17 (T_X3_takeBack_PA (σ (29 + 4 * 0)) (σ (29 + 4 * 0 + 1)) (σ (29 + 4 * 0 + 2)) (σ (29 + 4 * 0 + 3)) (σ 17) (σ (29 + 4 * (2 + (nx + 15) % 16))) (σ (29 + 4 * (2 + (nx + 15) % 16) + 1)) (σ (29 + 4 * (2 + (nx + 15) % 16) + 2)) (σ (29 + 4 * (2 + (nx + 15) % 16) + 3)) nx ct))
theorem in_X8_undo_X3 : ∀ w ∈ u_ws RX3 TX3 3, w ∈ wsX8_undo := by decide +kernel
theorem in_X8_undo_X8 : ∀ w ∈ u_ws RX8 TX8 10, w ∈ wsX8_undo := by decide +kernel
set_option maxHeartbeats 1000000 in
set_option maxRecDepth 100000 in
theorem c_X8_undo (l : Launch) (D : va_G) (cy : Nat → ClassId) (ad : Nat → Nat) (y z : Nat) (σ : Nat → Nat → Int32) (nx : Nat) (ct : Nat) (hnx : nx < 16) (enx : σ 17 1 = nI nx) (hct : ct ≤ 16) (ect : σ 17 2 = nI ct) : MI l D (tysW cy) 109 ad (cfX ad cy y z) yX8_undo wsX8_undo ({ frames := 3, cells := 0, slots := 0, locals := 84 }) σ [.ref (ad 0)] (fun v_ τ_ => (R_X8_undo σ nx ct) = v_ ∧ (T_X8_undo σ nx ct) = τ_) := by
  refine MI.go (cc := cX8_undo) (maxL := 1) .int (by decide) rfl (Nat.le_of_ble_eq_true rfl) ?_
  intro p_ e_ s_ m_ args_ bl_ mt_ c_ A_ Q_ ls hx hb hml hown hts hK hA hD hP hS hl hret
  have hl : lv_has ls 1 [(0, .ref (ad 0))] := hl
  refine lv_aload_n hx hb dX8_undo_0 rfl (lv_at hl 0 rfl) ?_
  refine rp_get (C := RX8) (T := TX8) (N := 10) hx hb hts in_X8_undo_X8 hown hK hP 0 (by decide) (kX8 _) rfl 5 (by decide) (by decide +kernel) rfl dX8_undo_1 ?_
  refine rp_get (C := RX3) (T := TX3) (N := 3) hx hb hts in_X8_undo_X3 hown hK hP 17 (by decide) (kX3 _) rfl 2 (by decide) (by decide +kernel) rfl dX8_undo_4 ?_
  rw [ect]
  refine lv_if_ne (tgt := 13) hx hb dX8_undo_7 (by decide) (fun c7 => ?_) (fun c7 => ?_)
  · skip
    have hct0 : 0 < ct := nz_ne c7
    refine lv_aload_n hx hb dX8_undo_13 rfl (lv_at hl 0 rfl) ?_
    refine rp_get (C := RX8) (T := TX8) (N := 10) hx hb hts in_X8_undo_X8 hown hK hP 0 (by decide) (kX8 _) rfl 5 (by decide) (by decide +kernel) rfl dX8_undo_14 ?_
    refine lv_aload_n hx hb dX8_undo_17 rfl (lv_at hl 0 rfl) ?_
    refine rp_get (C := RX8) (T := TX8) (N := 10) hx hb hts in_X8_undo_X8 hown hK hP 0 (by decide) (kX8 _) rfl 3 (by decide) (by decide +kernel) rfl dX8_undo_18 ?_
    refine rp_callVV (na := 1) hx hb hml hown hts hK hA hD hP hS hl.1 17 (by decide) (kX3 _) rfl [.ref (ad (29 + 4 * 0))] (c_X3_takeBack l D cy ad y z σ (σ (29 + 4 * 0)) (σ (29 + 4 * 0 + 1)) (σ (29 + 4 * 0 + 2)) (σ (29 + 4 * 0 + 3)) (σ 17) (σ (29 + 4 * (2 + (nx + 15) % 16))) (σ (29 + 4 * (2 + (nx + 15) % 16) + 1)) (σ (29 + 4 * (2 + (nx + 15) % 16) + 2)) (σ (29 + 4 * (2 + (nx + 15) % 16) + 3)) 0 nx ct rfl rfl rfl rfl rfl rfl rfl rfl rfl (by decide : 0 < 20) (by first | assumption | omega) (by first | assumption | omega) (by first | assumption | omega) (⟨hct0, hct⟩) (by first | assumption | omega)) gX8_undo_X3_takeBack rfl (by decide +kernel) rfl ⟨Nat.le_of_ble_eq_true rfl, Nat.le_of_ble_eq_true rfl⟩ ⟨rfl, rfl⟩ ⟨Nat.zero_le _, Nat.zero_le _⟩ rfl (Nat.le_of_ble_eq_true rfl) dX8_undo_21 (fun τ_ H locs hq hP hS => ?_)
    subst hq
    refine lv_aload_n hx hb dX8_undo_24 rfl (lv_at hl 0 rfl) ?_
    refine rp_get (C := RX8) (T := TX8) (N := 10) hx hb hts in_X8_undo_X8 hown hK hP 0 (by decide) (kX8 _) rfl 5 (by decide) (by decide +kernel) rfl dX8_undo_25 ?_
    refine rp_get (C := RX3) (T := TX3) (N := 3) hx hb hts in_X8_undo_X3 hown hK hP 17 (by decide) (kX3 _) rfl 2 (by decide) (by decide +kernel) rfl dX8_undo_28 ?_
    rw [show (va_up (va_up (va_up (va_up (va_up σ (29 + 4 * 0) (T_X3_takeBack_O (σ (29 + 4 * 0)) (σ (29 + 4 * 0 + 1)) (σ (29 + 4 * 0 + 2)) (σ (29 + 4 * 0 + 3)) (σ 17) (σ (29 + 4 * (2 + (nx + 15) % 16))) (σ (29 + 4 * (2 + (nx + 15) % 16) + 1)) (σ (29 + 4 * (2 + (nx + 15) % 16) + 2)) (σ (29 + 4 * (2 + (nx + 15) % 16) + 3)) nx ct)) (29 + 4 * 0 + 1) (T_X3_takeBack_V (σ (29 + 4 * 0)) (σ (29 + 4 * 0 + 1)) (σ (29 + 4 * 0 + 2)) (σ (29 + 4 * 0 + 3)) (σ 17) (σ (29 + 4 * (2 + (nx + 15) % 16))) (σ (29 + 4 * (2 + (nx + 15) % 16) + 1)) (σ (29 + 4 * (2 + (nx + 15) % 16) + 2)) (σ (29 + 4 * (2 + (nx + 15) % 16) + 3)) nx ct)) (29 + 4 * 0 + 2) (T_X3_takeBack_P (σ (29 + 4 * 0)) (σ (29 + 4 * 0 + 1)) (σ (29 + 4 * 0 + 2)) (σ (29 + 4 * 0 + 3)) (σ 17) (σ (29 + 4 * (2 + (nx + 15) % 16))) (σ (29 + 4 * (2 + (nx + 15) % 16) + 1)) (σ (29 + 4 * (2 + (nx + 15) % 16) + 2)) (σ (29 + 4 * (2 + (nx + 15) % 16) + 3)) nx ct)) (29 + 4 * 0 + 3) (T_X3_takeBack_S (σ (29 + 4 * 0)) (σ (29 + 4 * 0 + 1)) (σ (29 + 4 * 0 + 2)) (σ (29 + 4 * 0 + 3)) (σ 17) (σ (29 + 4 * (2 + (nx + 15) % 16))) (σ (29 + 4 * (2 + (nx + 15) % 16) + 1)) (σ (29 + 4 * (2 + (nx + 15) % 16) + 2)) (σ (29 + 4 * (2 + (nx + 15) % 16) + 3)) nx ct)) 17 (T_X3_takeBack_PA (σ (29 + 4 * 0)) (σ (29 + 4 * 0 + 1)) (σ (29 + 4 * 0 + 2)) (σ (29 + 4 * 0 + 3)) (σ 17) (σ (29 + 4 * (2 + (nx + 15) % 16))) (σ (29 + 4 * (2 + (nx + 15) % 16) + 1)) (σ (29 + 4 * (2 + (nx + 15) % 16) + 2)) (σ (29 + 4 * (2 + (nx + 15) % 16) + 3)) nx ct)) 17 2 = ((T_X3_takeBack_PA (σ (29 + 4 * 0)) (σ (29 + 4 * 0 + 1)) (σ (29 + 4 * 0 + 2)) (σ (29 + 4 * 0 + 3)) (σ 17) (σ (29 + 4 * (2 + (nx + 15) % 16))) (σ (29 + 4 * (2 + (nx + 15) % 16) + 1)) (σ (29 + 4 * (2 + (nx + 15) % 16) + 2)) (σ (29 + 4 * (2 + (nx + 15) % 16) + 3)) nx ct) 2) from va_S']
    exact hret hP hS dX8_undo_31 rfl ⟨(by unfold R_X8_undo <;> rw [if_neg c7] <;> first | with_reducible rfl), (by unfold T_X8_undo <;> rw [if_neg c7] <;> first | with_reducible rfl)⟩
  · skip
    refine lv_ldc (v := (-1000000003)) hx hb hown (hts (.constant RX8 198 (-1000000003)) (by decide +kernel)) dX8_undo_10 ?_
    exact hret hP hS dX8_undo_12 rfl ⟨(by unfold R_X8_undo <;> rw [if_pos c7] <;> first | with_reducible rfl), (by unfold T_X8_undo <;> rw [if_pos c7] <;> first | with_reducible rfl)⟩

def R_X8_state (σ : Nat → Nat → Int32) (y : Nat) (n : Nat) (v : Int32) (w : Int32) (x : Int32) : Int32 := (if (0 ≤ v ∧ ¬ nI (2 ^ n) ≤ v) then (if (0 ≤ w ∧ ¬ nI (2 ^ n) ≤ w) then (if x < 0 then (-1000000002) else (if x ≤ 1 then (if ((chX (gdX (σ (y + 5)) (σ (29 + 4 * 0)) n v w) (cpX (σ (y + 3)) (σ (29 + 4 * 0 + 1)) n) (2 ^ n)).1) = (-1) then ((chX (gdX (σ (y + 5)) (σ (29 + 4 * 0)) n v w) (cpX (σ (y + 3)) (σ (29 + 4 * 0 + 1)) n) (2 ^ n)).1) else (if x = 1 then ((chX (gdX (σ (y + 5)) (σ (29 + 4 * 0)) n v w) (cpX (σ (y + 3)) (σ (29 + 4 * 0 + 1)) n) (2 ^ n)).1) else (sumN (fun j => (σ (y + 3)) j - (σ (29 + 4 * 0 + 1)) j) ((chX (gdX (σ (y + 5)) (σ (29 + 4 * 0)) n v w) (cpX (σ (y + 3)) (σ (29 + 4 * 0 + 1)) n) (2 ^ n)).1) n))) else (-1000000002))) else (-1000000001)) else (-1000000001))
theorem in_X8_state_X8 : ∀ w ∈ u_ws RX8 TX8 10, w ∈ wsX8_state := by decide +kernel
set_option maxHeartbeats 1000000 in
set_option maxRecDepth 100000 in
theorem c_X8_state (l : Launch) (D : va_G) (cy : Nat → ClassId) (ad : Nat → Nat) (y z : Nat) (σ : Nat → Nat → Int32) (n : Nat) (v : Int32) (w : Int32) (x : Int32) (hy : y = 3 ∨ y = 10) (hn : n ≤ 10) (en : σ y 5 = nI n) : MI l D (tysW cy) 109 ad (cfX ad cy y z) yX8_state wsX8_state ({ frames := 4, cells := 0, slots := 0, locals := 96 }) σ [.ref (ad 0), .int v, .int w, .int x] (fun v_ τ_ => (R_X8_state σ y n v w x) = v_ ∧ σ = τ_) := by
  refine MI.go (cc := cX8_state) (maxL := 5) .int (by decide) rfl (Nat.le_of_ble_eq_true rfl) ?_
  intro p_ e_ s_ m_ args_ bl_ mt_ c_ A_ Q_ ls hx hb hml hown hts hK hA hD hP hS hl hret
  have hl : lv_has ls 5 [(0, .ref (ad 0)), (1, .int v), (2, .int w), (3, .int x)] := hl
  refine lv_aload_n hx hb dX8_state_0 rfl (lv_at hl 0 rfl) ?_
  refine rp_get (C := RX8) (T := TX8) (N := 10) hx hb hts in_X8_state_X8 hown hK hP 0 (by decide) (kX8 _) rfl 1 (by decide) (by decide +kernel) rfl dX8_state_1 ?_
  refine lv_iload_n hx hb dX8_state_4 rfl (lv_at hl 1 rfl) ?_
  refine rp_callVI (na := 1) hx hb hml hown hts hK hA hD hP hS hl.1 y (hX7 hy).1 (kX7 hy _) rfl [.int v] (c_X7_hasAll l D cy ad y z σ y v hy) gX8_state_X7_hasAll rfl (by decide +kernel) rfl ⟨Nat.le_of_ble_eq_true rfl, Nat.le_of_ble_eq_true rfl⟩ ⟨rfl, rfl⟩ ⟨Nat.zero_le _, Nat.zero_le _⟩ rfl (Nat.le_of_ble_eq_true rfl) dX8_state_5 (fun v_ τ_ H locs hq hP hS => ?_)
  obtain ⟨rfl, rfl⟩ := hq
  rw [en, shl1 hn]
  refine lv_if_eq (tgt := 22) hx hb dX8_state_8 (by decide) (fun c8 => ?_) (fun c8 => ?_)
  · skip
    have c8 := bi_eq0.mp c8
    refine lv_ldc (v := (-1000000001)) hx hb hown (hts (.constant RX8 146 (-1000000001)) (by decide +kernel)) dX8_state_22 ?_
    exact hret hP hS dX8_state_24 rfl ⟨(by unfold R_X8_state <;> rw [if_neg c8] <;> first | with_reducible rfl), rfl⟩
  · skip
    have c8 := bi_ne0.mp c8
    refine lv_aload_n hx hb dX8_state_11 rfl (lv_at hl 0 rfl) ?_
    refine rp_get (C := RX8) (T := TX8) (N := 10) hx hb hts in_X8_state_X8 hown hK hP 0 (by decide) (kX8 _) rfl 1 (by decide) (by decide +kernel) rfl dX8_state_12 ?_
    refine lv_iload_n hx hb dX8_state_15 rfl (lv_at hl 2 rfl) ?_
    refine rp_callVI (na := 1) hx hb hml hown hts hK hA hD hP hS hl.1 y (hX7 hy).1 (kX7 hy _) rfl [.int w] (c_X7_hasAll l D cy ad y z σ y w hy) gX8_state_X7_hasAll rfl (by decide +kernel) rfl ⟨Nat.le_of_ble_eq_true rfl, Nat.le_of_ble_eq_true rfl⟩ ⟨rfl, rfl⟩ ⟨Nat.zero_le _, Nat.zero_le _⟩ rfl (Nat.le_of_ble_eq_true rfl) dX8_state_16 (fun v_ τ_ H locs hq hP hS => ?_)
    obtain ⟨rfl, rfl⟩ := hq
    rw [en, shl1 hn]
    refine lv_if_ne (tgt := 25) hx hb dX8_state_19 (by decide) (fun c19 => ?_) (fun c19 => ?_)
    · skip
      have c19 := bi_ne0.mp c19
      refine lv_iload_n hx hb dX8_state_25 rfl (lv_at hl 3 rfl) ?_
      refine lv_if_lt (tgt := 34) hx hb dX8_state_26 (by decide) (fun c26 => ?_) (fun c26 => ?_)
      · skip
        refine lv_ldc (v := (-1000000002)) hx hb hown (hts (.constant RX8 71 (-1000000002)) (by decide +kernel)) dX8_state_34 ?_
        exact hret hP hS dX8_state_36 rfl ⟨(by unfold R_X8_state <;> rw [if_pos c8, if_pos c19, if_pos c26] <;> first | with_reducible rfl), rfl⟩
      · skip
        refine lv_iload_n hx hb dX8_state_29 rfl (lv_at hl 3 rfl) ?_
        refine lv_iconst (v := 1) hx hb dX8_state_30 (by decide) ?_
        refine lv_icmp_le (tgt := 37) hx hb dX8_state_31 (by decide) (fun c31 => ?_) (fun c31 => ?_)
        · skip
          refine lv_aload_n hx hb dX8_state_37 rfl (lv_at hl 0 rfl) ?_
          refine rp_get (C := RX8) (T := TX8) (N := 10) hx hb hts in_X8_state_X8 hown hK hP 0 (by decide) (kX8 _) rfl 3 (by decide) (by decide +kernel) rfl dX8_state_38 ?_
          refine lv_aload_n hx hb dX8_state_41 rfl (lv_at hl 0 rfl) ?_
          refine rp_get (C := RX8) (T := TX8) (N := 10) hx hb hts in_X8_state_X8 hown hK hP 0 (by decide) (kX8 _) rfl 1 (by decide) (by decide +kernel) rfl dX8_state_42 ?_
          refine lv_iload_n hx hb dX8_state_45 rfl (lv_at hl 1 rfl) ?_
          refine lv_iload_n hx hb dX8_state_46 rfl (lv_at hl 2 rfl) ?_
          refine rp_callVI (na := 3) hx hb hml hown hts hK hA hD hP hS hl.1 (29 + 4 * 0) (hX6 (i := 0) (by decide : 0 < 20)).1 (kX6 (i := 0) _) rfl [.ref (ad y), .int v, .int w] (c_X6_cheapestFor l D cy ad y z σ (σ (y + 3)) (σ (y + 5)) (σ (29 + 4 * 0)) (σ (29 + 4 * 0 + 1)) 0 y n v w rfl rfl rfl rfl (by decide : 0 < 20) hy (by first | assumption | omega) (by first | assumption | rfl)) gX8_state_X6_cheapestFor rfl (by decide +kernel) rfl ⟨Nat.le_of_ble_eq_true rfl, Nat.le_of_ble_eq_true rfl⟩ ⟨rfl, rfl⟩ ⟨Nat.zero_le _, Nat.zero_le _⟩ rfl (Nat.le_of_ble_eq_true rfl) dX8_state_47 (fun v_ τ_ H locs hq hP hS => ?_)
          obtain ⟨rfl, rfl⟩ := hq
          refine lv_istore (lv' := [(4, .int ((chX (gdX (σ (y + 5)) (σ (29 + 4 * 0)) n v w) (cpX (σ (y + 3)) (σ (29 + 4 * 0 + 1)) n) (2 ^ n)).1)), (0, .ref (ad 0)), (1, .int v), (2, .int w), (3, .int x)]) hx hb dX8_state_50 hl (by decide) rfl (fun ls hl => ?_)
          refine lv_iload hx hb dX8_state_52 (lv_at hl 0 rfl) ?_
          refine lv_iconst (v := (-1)) hx hb dX8_state_54 (by decide) ?_
          refine lv_icmp_eq (tgt := 63) hx hb dX8_state_55 (by decide) (fun c55 => ?_) (fun c55 => ?_)
          · skip
            refine lv_iload hx hb dX8_state_63 (lv_at hl 0 rfl) ?_
            refine lv_goto (tgt := 81) hx hb dX8_state_65 (by decide) ?_
            exact hret hP hS dX8_state_81 rfl ⟨(by unfold R_X8_state <;> rw [if_pos c8, if_pos c19, if_neg c26, if_pos c31, if_pos c55] <;> first | with_reducible rfl), rfl⟩
          · skip
            refine lv_iload_n hx hb dX8_state_58 rfl (lv_at hl 4 rfl) ?_
            refine lv_iconst (v := 1) hx hb dX8_state_59 (by decide) ?_
            refine lv_icmp_ne (tgt := 68) hx hb dX8_state_60 (by decide) (fun c60 => ?_) (fun c60 => ?_)
            · skip
              refine lv_aload_n hx hb dX8_state_68 rfl (lv_at hl 1 rfl) ?_
              refine rp_get (C := RX8) (T := TX8) (N := 10) hx hb hts in_X8_state_X8 hown hK hP 0 (by decide) (kX8 _) rfl 3 (by decide) (by decide +kernel) rfl dX8_state_69 ?_
              refine lv_aload_n hx hb dX8_state_72 rfl (lv_at hl 1 rfl) ?_
              refine rp_get (C := RX8) (T := TX8) (N := 10) hx hb hts in_X8_state_X8 hown hK hP 0 (by decide) (kX8 _) rfl 1 (by decide) (by decide +kernel) rfl dX8_state_73 ?_
              refine lv_iload hx hb dX8_state_76 (lv_at hl 0 rfl) ?_
              refine rp_callVI (na := 2) hx hb hml hown hts hK hA hD hP hS hl.1 (29 + 4 * 0) (hX6 (i := 0) (by decide : 0 < 20)).1 (kX6 (i := 0) _) rfl [.ref (ad y), .int ((chX (gdX (σ (y + 5)) (σ (29 + 4 * 0)) n v w) (cpX (σ (y + 3)) (σ (29 + 4 * 0 + 1)) n) (2 ^ n)).1)] (c_X6_pailsFor l D cy ad y z σ (σ (y + 3)) (σ (29 + 4 * 0 + 1)) 0 y n ((chX (gdX (σ (y + 5)) (σ (29 + 4 * 0)) n v w) (cpX (σ (y + 3)) (σ (29 + 4 * 0 + 1)) n) (2 ^ n)).1) rfl rfl (by decide : 0 < 20) hy (by first | assumption | omega) (by first | assumption | rfl)) gX8_state_X6_pailsFor rfl (by decide +kernel) rfl ⟨Nat.le_of_ble_eq_true rfl, Nat.le_of_ble_eq_true rfl⟩ ⟨rfl, rfl⟩ ⟨Nat.zero_le _, Nat.zero_le _⟩ rfl (Nat.le_of_ble_eq_true rfl) dX8_state_78 (fun v_ τ_ H locs hq hP hS => ?_)
              obtain ⟨rfl, rfl⟩ := hq
              exact hret hP hS dX8_state_81 rfl ⟨(by unfold R_X8_state <;> rw [if_pos c8, if_pos c19, if_neg c26, if_pos c31, if_neg c55, if_neg c60] <;> first | with_reducible rfl), rfl⟩
            · skip
              refine lv_iload hx hb dX8_state_63 (lv_at hl 0 rfl) ?_
              refine lv_goto (tgt := 81) hx hb dX8_state_65 (by decide) ?_
              exact hret hP hS dX8_state_81 rfl ⟨(by unfold R_X8_state <;> rw [if_pos c8, if_pos c19, if_neg c26, if_pos c31, if_neg c55, if_pos c60] <;> first | with_reducible rfl), rfl⟩
        · skip
          refine lv_ldc (v := (-1000000002)) hx hb hown (hts (.constant RX8 71 (-1000000002)) (by decide +kernel)) dX8_state_34 ?_
          exact hret hP hS dX8_state_36 rfl ⟨(by unfold R_X8_state <;> rw [if_pos c8, if_pos c19, if_neg c26, if_neg c31] <;> first | with_reducible rfl), rfl⟩
    · skip
      have c19 := bi_eq0.mp c19
      refine lv_ldc (v := (-1000000001)) hx hb hown (hts (.constant RX8 146 (-1000000001)) (by decide +kernel)) dX8_state_22 ?_
      exact hret hP hS dX8_state_24 rfl ⟨(by unfold R_X8_state <;> rw [if_pos c8, if_neg c19] <;> first | with_reducible rfl), rfl⟩

def R_X8_best (σ : Nat → Nat → Int32) (y : Nat) (n : Nat) (v : Int32) (w : Int32) : Int32 := (if v < 0 then (-1000000002) else (if 99 < v then (-1000000002) else (if w < 0 then (-1000000002) else (if w ≤ 1 then (if w = 1 then ((bsX (gbX (σ (y + 3)) (σ (29 + 4 * 0)) (σ (29 + 4 * 0 + 1)) n v) (wbX (σ (y + 4)) (σ (y + 5)) (σ (29 + 4 * 0)) n) (sumN (σ (y + 4)) (holdN (σ (y + 5)) ((σ (29 + 4 * 0)) 4 ||| 0) n) n) (2 ^ n - 1)).1) else ((sumN (σ (y + 4)) (holdN (σ (y + 5)) ((σ (29 + 4 * 0)) 4 ||| ((bsX (gbX (σ (y + 3)) (σ (29 + 4 * 0)) (σ (29 + 4 * 0 + 1)) n v) (wbX (σ (y + 4)) (σ (y + 5)) (σ (29 + 4 * 0)) n) (sumN (σ (y + 4)) (holdN (σ (y + 5)) ((σ (29 + 4 * 0)) 4 ||| 0) n) n) (2 ^ n - 1)).1)) n) n) + 1000)) else (-1000000002)))))
theorem in_X8_best_X8 : ∀ w ∈ u_ws RX8 TX8 10, w ∈ wsX8_best := by decide +kernel
set_option maxHeartbeats 1000000 in
set_option maxRecDepth 100000 in
theorem c_X8_best (l : Launch) (D : va_G) (cy : Nat → ClassId) (ad : Nat → Nat) (y z : Nat) (σ : Nat → Nat → Int32) (n : Nat) (v : Int32) (w : Int32) (hy : y = 3 ∨ y = 10) (hn : n ≤ 10) (en : σ y 5 = nI n) : MI l D (tysW cy) 109 ad (cfX ad cy y z) yX8_best wsX8_best ({ frames := 4, cells := 0, slots := 0, locals := 92 }) σ [.ref (ad 0), .int v, .int w] (fun v_ τ_ => (R_X8_best σ y n v w) = v_ ∧ σ = τ_) := by
  refine MI.go (cc := cX8_best) (maxL := 4) .int (by decide) rfl (Nat.le_of_ble_eq_true rfl) ?_
  intro p_ e_ s_ m_ args_ bl_ mt_ c_ A_ Q_ ls hx hb hml hown hts hK hA hD hP hS hl hret
  have hl : lv_has ls 4 [(0, .ref (ad 0)), (1, .int v), (2, .int w)] := hl
  refine lv_iload_n hx hb dX8_best_0 rfl (lv_at hl 1 rfl) ?_
  refine lv_if_lt (tgt := 19) hx hb dX8_best_1 (by decide) (fun c1 => ?_) (fun c1 => ?_)
  · skip
    refine lv_ldc (v := (-1000000002)) hx hb hown (hts (.constant RX8 71 (-1000000002)) (by decide +kernel)) dX8_best_19 ?_
    exact hret hP hS dX8_best_21 rfl ⟨(by unfold R_X8_best <;> rw [if_pos c1] <;> first | with_reducible rfl), rfl⟩
  · skip
    refine lv_iload_n hx hb dX8_best_4 rfl (lv_at hl 1 rfl) ?_
    refine lv_bipush (v := 99) hx hb dX8_best_5 (by decide) ?_
    refine lv_icmp_gt (tgt := 19) hx hb dX8_best_7 (by decide) (fun c7 => ?_) (fun c7 => ?_)
    · skip
      refine lv_ldc (v := (-1000000002)) hx hb hown (hts (.constant RX8 71 (-1000000002)) (by decide +kernel)) dX8_best_19 ?_
      exact hret hP hS dX8_best_21 rfl ⟨(by unfold R_X8_best <;> rw [if_neg c1, if_pos c7] <;> first | with_reducible rfl), rfl⟩
    · skip
      refine lv_iload_n hx hb dX8_best_10 rfl (lv_at hl 2 rfl) ?_
      refine lv_if_lt (tgt := 19) hx hb dX8_best_11 (by decide) (fun c11 => ?_) (fun c11 => ?_)
      · skip
        refine lv_ldc (v := (-1000000002)) hx hb hown (hts (.constant RX8 71 (-1000000002)) (by decide +kernel)) dX8_best_19 ?_
        exact hret hP hS dX8_best_21 rfl ⟨(by unfold R_X8_best <;> rw [if_neg c1, if_neg c7, if_pos c11] <;> first | with_reducible rfl), rfl⟩
      · skip
        refine lv_iload_n hx hb dX8_best_14 rfl (lv_at hl 2 rfl) ?_
        refine lv_iconst (v := 1) hx hb dX8_best_15 (by decide) ?_
        refine lv_icmp_le (tgt := 22) hx hb dX8_best_16 (by decide) (fun c16 => ?_) (fun c16 => ?_)
        · skip
          refine lv_aload_n hx hb dX8_best_22 rfl (lv_at hl 0 rfl) ?_
          refine rp_get (C := RX8) (T := TX8) (N := 10) hx hb hts in_X8_best_X8 hown hK hP 0 (by decide) (kX8 _) rfl 3 (by decide) (by decide +kernel) rfl dX8_best_23 ?_
          refine lv_aload_n hx hb dX8_best_26 rfl (lv_at hl 0 rfl) ?_
          refine rp_get (C := RX8) (T := TX8) (N := 10) hx hb hts in_X8_best_X8 hown hK hP 0 (by decide) (kX8 _) rfl 1 (by decide) (by decide +kernel) rfl dX8_best_27 ?_
          refine lv_iload_n hx hb dX8_best_30 rfl (lv_at hl 1 rfl) ?_
          refine rp_callVI (na := 2) hx hb hml hown hts hK hA hD hP hS hl.1 (29 + 4 * 0) (hX6 (i := 0) (by decide : 0 < 20)).1 (kX6 (i := 0) _) rfl [.ref (ad y), .int v] (c_X6_bestFor l D cy ad y z σ (σ (y + 3)) (σ (y + 4)) (σ (y + 5)) (σ (29 + 4 * 0)) (σ (29 + 4 * 0 + 1)) 0 y n v rfl rfl rfl rfl rfl (by decide : 0 < 20) hy (by first | assumption | omega) (by first | assumption | rfl)) gX8_best_X6_bestFor rfl (by decide +kernel) rfl ⟨Nat.le_of_ble_eq_true rfl, Nat.le_of_ble_eq_true rfl⟩ ⟨rfl, rfl⟩ ⟨Nat.zero_le _, Nat.zero_le _⟩ rfl (Nat.le_of_ble_eq_true rfl) dX8_best_31 (fun v_ τ_ H locs hq hP hS => ?_)
          obtain ⟨rfl, rfl⟩ := hq
          refine lv_istore_n (lv' := [(3, .int ((bsX (gbX (σ (y + 3)) (σ (29 + 4 * 0)) (σ (29 + 4 * 0 + 1)) n v) (wbX (σ (y + 4)) (σ (y + 5)) (σ (29 + 4 * 0)) n) (sumN (σ (y + 4)) (holdN (σ (y + 5)) ((σ (29 + 4 * 0)) 4 ||| 0) n) n) (2 ^ n - 1)).1)), (0, .ref (ad 0)), (1, .int v), (2, .int w)]) hx hb dX8_best_34 rfl hl (by decide) rfl (fun ls hl => ?_)
          refine lv_iload_n hx hb dX8_best_35 rfl (lv_at hl 3 rfl) ?_
          refine lv_iconst (v := 1) hx hb dX8_best_36 (by decide) ?_
          refine lv_icmp_ne (tgt := 44) hx hb dX8_best_37 (by decide) (fun c37 => ?_) (fun c37 => ?_)
          · skip
            refine lv_aload_n hx hb dX8_best_44 rfl (lv_at hl 1 rfl) ?_
            refine rp_get (C := RX8) (T := TX8) (N := 10) hx hb hts in_X8_best_X8 hown hK hP 0 (by decide) (kX8 _) rfl 3 (by decide) (by decide +kernel) rfl dX8_best_45 ?_
            refine lv_aload_n hx hb dX8_best_48 rfl (lv_at hl 1 rfl) ?_
            refine rp_get (C := RX8) (T := TX8) (N := 10) hx hb hts in_X8_best_X8 hown hK hP 0 (by decide) (kX8 _) rfl 1 (by decide) (by decide +kernel) rfl dX8_best_49 ?_
            refine lv_iload_n hx hb dX8_best_52 rfl (lv_at hl 0 rfl) ?_
            refine rp_callVI (na := 2) hx hb hml hown hts hK hA hD hP hS hl.1 (29 + 4 * 0) (hX6 (i := 0) (by decide : 0 < 20)).1 (kX6 (i := 0) _) rfl [.ref (ad y), .int ((bsX (gbX (σ (y + 3)) (σ (29 + 4 * 0)) (σ (29 + 4 * 0 + 1)) n v) (wbX (σ (y + 4)) (σ (y + 5)) (σ (29 + 4 * 0)) n) (sumN (σ (y + 4)) (holdN (σ (y + 5)) ((σ (29 + 4 * 0)) 4 ||| 0) n) n) (2 ^ n - 1)).1)] (c_X6_worthWith l D cy ad y z σ (σ (y + 4)) (σ (y + 5)) (σ (29 + 4 * 0)) 0 y n ((bsX (gbX (σ (y + 3)) (σ (29 + 4 * 0)) (σ (29 + 4 * 0 + 1)) n v) (wbX (σ (y + 4)) (σ (y + 5)) (σ (29 + 4 * 0)) n) (sumN (σ (y + 4)) (holdN (σ (y + 5)) ((σ (29 + 4 * 0)) 4 ||| 0) n) n) (2 ^ n - 1)).1) rfl rfl rfl (by decide : 0 < 20) hy (by first | assumption | omega) (by first | assumption | rfl)) gX8_best_X6_worthWith rfl (by decide +kernel) rfl ⟨Nat.le_of_ble_eq_true rfl, Nat.le_of_ble_eq_true rfl⟩ ⟨rfl, rfl⟩ ⟨Nat.zero_le _, Nat.zero_le _⟩ rfl (Nat.le_of_ble_eq_true rfl) dX8_best_53 (fun v_ τ_ H locs hq hP hS => ?_)
            obtain ⟨rfl, rfl⟩ := hq
            refine lv_sipush (v := 1000) hx hb dX8_best_56 (by decide) ?_
            refine lv_iadd hx hb dX8_best_59 ?_
            exact hret hP hS dX8_best_60 rfl ⟨(by unfold R_X8_best <;> rw [if_neg c1, if_neg c7, if_neg c11, if_pos c16, if_neg c37] <;> first | with_reducible rfl), rfl⟩
          · skip
            refine lv_iload_n hx hb dX8_best_40 rfl (lv_at hl 0 rfl) ?_
            refine lv_goto (tgt := 60) hx hb dX8_best_41 (by decide) ?_
            exact hret hP hS dX8_best_60 rfl ⟨(by unfold R_X8_best <;> rw [if_neg c1, if_neg c7, if_neg c11, if_pos c16, if_pos c37] <;> first | with_reducible rfl), rfl⟩
        · skip
          refine lv_ldc (v := (-1000000002)) hx hb hown (hts (.constant RX8 71 (-1000000002)) (by decide +kernel)) dX8_best_19 ?_
          exact hret hP hS dX8_best_21 rfl ⟨(by unfold R_X8_best <;> rw [if_neg c1, if_neg c7, if_neg c11, if_neg c16] <;> first | with_reducible rfl), rfl⟩

def R_X8_wasUnsaid (σ : Nat → Nat → Int32) (y : Nat) (n : Nat) (v : Int32) (w : Int32) (x : Int32) : Int32 := (if (0 ≤ v ∧ ¬ nI (2 ^ n) ≤ v) then (if w < 0 then (-1000000002) else (if 200 < w then (-1000000002) else (if x < 0 then (-1000000002) else (if x ≤ 2 then (if x = 0 then ((gaO (goX (σ (y + 3)) (σ (y + 5)) n v w) (upd (upd (σ 27) 0 0) 1 (-1)) (2 ^ n)) 0) else (if x = 1 then (if ((gaO (goX (σ (y + 3)) (σ (y + 5)) n v w) (upd (upd (σ 27) 0 0) 1 (-1)) (2 ^ n)) 0) = 0 then (-1) else ((gaO (goX (σ (y + 3)) (σ (y + 5)) n v w) (upd (upd (σ 27) 0 0) 1 (-1)) (2 ^ n)) 1)) else ((minN ((gaO (goX (σ (y + 3)) (σ (y + 5)) n v w) (upd (upd (σ 27) 0 0) 1 (-1)) (2 ^ n)) 0) (alX ((gaO (goX (σ (y + 3)) (σ (y + 5)) n v w) (upd (upd (σ 27) 0 0) 1 (-1)) (2 ^ n)) 0) (gaW (goX (σ (y + 3)) (σ (y + 5)) n v w) (zrN (σ 28) 10) (2 ^ n))) n).1))) else (-1000000002))))) else (-1000000001))
def T_X8_wasUnsaid (σ : Nat → Nat → Int32) (y : Nat) (n : Nat) (v : Int32) (w : Int32) (x : Int32) : Nat → Nat → Int32 := (if (0 ≤ v ∧ ¬ nI (2 ^ n) ≤ v) then (if w < 0 then σ else (if 200 < w then σ else (if x < 0 then σ else (if x ≤ 2 then (if x = 0 then va_up (va_up σ 27 (gaO (goX (σ (y + 3)) (σ (y + 5)) n v w) (upd (upd (σ 27) 0 0) 1 (-1)) (2 ^ n))) 28 (gaW (goX (σ (y + 3)) (σ (y + 5)) n v w) (zrN (σ 28) 10) (2 ^ n)) else (if x = 1 then (if ((gaO (goX (σ (y + 3)) (σ (y + 5)) n v w) (upd (upd (σ 27) 0 0) 1 (-1)) (2 ^ n)) 0) = 0 then va_up (va_up σ 27 (gaO (goX (σ (y + 3)) (σ (y + 5)) n v w) (upd (upd (σ 27) 0 0) 1 (-1)) (2 ^ n))) 28 (gaW (goX (σ (y + 3)) (σ (y + 5)) n v w) (zrN (σ 28) 10) (2 ^ n)) else va_up (va_up σ 27 (gaO (goX (σ (y + 3)) (σ (y + 5)) n v w) (upd (upd (σ 27) 0 0) 1 (-1)) (2 ^ n))) 28 (gaW (goX (σ (y + 3)) (σ (y + 5)) n v w) (zrN (σ 28) 10) (2 ^ n))) else va_up (va_up σ 27 (gaO (goX (σ (y + 3)) (σ (y + 5)) n v w) (upd (upd (σ 27) 0 0) 1 (-1)) (2 ^ n))) 28 (gaW (goX (σ (y + 3)) (σ (y + 5)) n v w) (zrN (σ 28) 10) (2 ^ n)))) else σ)))) else σ)
theorem in_X8_wasUnsaid_X5 : ∀ w ∈ u_ws RX5 TX5 3, w ∈ wsX8_wasUnsaid := by decide +kernel
theorem in_X8_wasUnsaid_X7 : ∀ w ∈ u_ws RX7 TX7 12, w ∈ wsX8_wasUnsaid := by decide +kernel
theorem in_X8_wasUnsaid_X8 : ∀ w ∈ u_ws RX8 TX8 10, w ∈ wsX8_wasUnsaid := by decide +kernel
set_option maxHeartbeats 1000000 in
set_option maxRecDepth 100000 in
theorem c_X8_wasUnsaid (l : Launch) (D : va_G) (cy : Nat → ClassId) (ad : Nat → Nat) (y z : Nat) (σ : Nat → Nat → Int32) (n : Nat) (v : Int32) (w : Int32) (x : Int32) (hy : y = 3 ∨ y = 10) (hn : n ≤ 10) (en : σ y 5 = nI n) : MI l D (tysW cy) 109 ad (cfX ad cy y z) yX8_wasUnsaid wsX8_wasUnsaid ({ frames := 3, cells := 0, slots := 0, locals := 68 }) σ [.ref (ad 0), .int v, .int w, .int x] (fun v_ τ_ => (R_X8_wasUnsaid σ y n v w x) = v_ ∧ (T_X8_wasUnsaid σ y n v w x) = τ_) := by
  refine MI.go (cc := cX8_wasUnsaid) (maxL := 4) .int (by decide) rfl (Nat.le_of_ble_eq_true rfl) ?_
  intro p_ e_ s_ m_ args_ bl_ mt_ c_ A_ Q_ ls hx hb hml hown hts hK hA hD hP hS hl hret
  have hl : lv_has ls 4 [(0, .ref (ad 0)), (1, .int v), (2, .int w), (3, .int x)] := hl
  refine lv_aload_n hx hb dX8_wasUnsaid_0 rfl (lv_at hl 0 rfl) ?_
  refine rp_get (C := RX8) (T := TX8) (N := 10) hx hb hts in_X8_wasUnsaid_X8 hown hK hP 0 (by decide) (kX8 _) rfl 1 (by decide) (by decide +kernel) rfl dX8_wasUnsaid_1 ?_
  refine lv_iload_n hx hb dX8_wasUnsaid_4 rfl (lv_at hl 1 rfl) ?_
  refine rp_callVI (na := 1) hx hb hml hown hts hK hA hD hP hS hl.1 y (hX7 hy).1 (kX7 hy _) rfl [.int v] (c_X7_hasAll l D cy ad y z σ y v hy) gX8_wasUnsaid_X7_hasAll rfl (by decide +kernel) rfl ⟨Nat.le_of_ble_eq_true rfl, Nat.le_of_ble_eq_true rfl⟩ ⟨rfl, rfl⟩ ⟨Nat.zero_le _, Nat.zero_le _⟩ rfl (Nat.le_of_ble_eq_true rfl) dX8_wasUnsaid_5 (fun v_ τ_ H locs hq hP hS => ?_)
  obtain ⟨rfl, rfl⟩ := hq
  rw [en, shl1 hn]
  refine lv_if_ne (tgt := 14) hx hb dX8_wasUnsaid_8 (by decide) (fun c8 => ?_) (fun c8 => ?_)
  · skip
    have c8 := bi_ne0.mp c8
    refine lv_iload_n hx hb dX8_wasUnsaid_14 rfl (lv_at hl 2 rfl) ?_
    refine lv_if_lt (tgt := 34) hx hb dX8_wasUnsaid_15 (by decide) (fun c15 => ?_) (fun c15 => ?_)
    · skip
      refine lv_ldc (v := (-1000000002)) hx hb hown (hts (.constant RX8 71 (-1000000002)) (by decide +kernel)) dX8_wasUnsaid_34 ?_
      exact hret hP hS dX8_wasUnsaid_36 rfl ⟨(by unfold R_X8_wasUnsaid <;> rw [if_pos c8, if_pos c15] <;> first | with_reducible rfl), (by unfold T_X8_wasUnsaid <;> rw [if_pos c8, if_pos c15] <;> first | with_reducible rfl)⟩
    · skip
      refine lv_iload_n hx hb dX8_wasUnsaid_18 rfl (lv_at hl 2 rfl) ?_
      refine lv_sipush (v := 200) hx hb dX8_wasUnsaid_19 (by decide) ?_
      refine lv_icmp_gt (tgt := 34) hx hb dX8_wasUnsaid_22 (by decide) (fun c22 => ?_) (fun c22 => ?_)
      · skip
        refine lv_ldc (v := (-1000000002)) hx hb hown (hts (.constant RX8 71 (-1000000002)) (by decide +kernel)) dX8_wasUnsaid_34 ?_
        exact hret hP hS dX8_wasUnsaid_36 rfl ⟨(by unfold R_X8_wasUnsaid <;> rw [if_pos c8, if_neg c15, if_pos c22] <;> first | with_reducible rfl), (by unfold T_X8_wasUnsaid <;> rw [if_pos c8, if_neg c15, if_pos c22] <;> first | with_reducible rfl)⟩
      · skip
        refine lv_iload_n hx hb dX8_wasUnsaid_25 rfl (lv_at hl 3 rfl) ?_
        refine lv_if_lt (tgt := 34) hx hb dX8_wasUnsaid_26 (by decide) (fun c26 => ?_) (fun c26 => ?_)
        · skip
          refine lv_ldc (v := (-1000000002)) hx hb hown (hts (.constant RX8 71 (-1000000002)) (by decide +kernel)) dX8_wasUnsaid_34 ?_
          exact hret hP hS dX8_wasUnsaid_36 rfl ⟨(by unfold R_X8_wasUnsaid <;> rw [if_pos c8, if_neg c15, if_neg c22, if_pos c26] <;> first | with_reducible rfl), (by unfold T_X8_wasUnsaid <;> rw [if_pos c8, if_neg c15, if_neg c22, if_pos c26] <;> first | with_reducible rfl)⟩
        · skip
          refine lv_iload_n hx hb dX8_wasUnsaid_29 rfl (lv_at hl 3 rfl) ?_
          refine lv_iconst (v := 2) hx hb dX8_wasUnsaid_30 (by decide) ?_
          refine lv_icmp_le (tgt := 37) hx hb dX8_wasUnsaid_31 (by decide) (fun c31 => ?_) (fun c31 => ?_)
          · skip
            refine lv_aload_n hx hb dX8_wasUnsaid_37 rfl (lv_at hl 0 rfl) ?_
            refine rp_get (C := RX8) (T := TX8) (N := 10) hx hb hts in_X8_wasUnsaid_X8 hown hK hP 0 (by decide) (kX8 _) rfl 9 (by decide) (by decide +kernel) rfl dX8_wasUnsaid_38 ?_
            refine lv_aload_n hx hb dX8_wasUnsaid_41 rfl (lv_at hl 0 rfl) ?_
            refine rp_get (C := RX8) (T := TX8) (N := 10) hx hb hts in_X8_wasUnsaid_X8 hown hK hP 0 (by decide) (kX8 _) rfl 1 (by decide) (by decide +kernel) rfl dX8_wasUnsaid_42 ?_
            refine lv_iload_n hx hb dX8_wasUnsaid_45 rfl (lv_at hl 1 rfl) ?_
            refine lv_iload_n hx hb dX8_wasUnsaid_46 rfl (lv_at hl 2 rfl) ?_
            refine rp_callVV (na := 3) hx hb hml hown hts hK hA hD hP hS hl.1 27 (by decide) (kX5 _) rfl [.ref (ad y), .int v, .int w] (c_X5_gather l D cy ad y z σ (σ (y + 3)) (σ (y + 5)) (σ 27) (σ 28) y n v w rfl rfl rfl rfl hy (by first | assumption | omega) (by first | assumption | rfl)) gX8_wasUnsaid_X5_gather rfl (by decide +kernel) rfl ⟨Nat.le_of_ble_eq_true rfl, Nat.le_of_ble_eq_true rfl⟩ ⟨rfl, rfl⟩ ⟨Nat.zero_le _, Nat.zero_le _⟩ rfl (Nat.le_of_ble_eq_true rfl) dX8_wasUnsaid_47 (fun τ_ H locs hq hP hS => ?_)
            subst hq
            refine lv_iload_n hx hb dX8_wasUnsaid_50 rfl (lv_at hl 3 rfl) ?_
            rcases Decidable.em (x = 0) with k51_0 | k51_0
            · skip
              refine lv_lookup (off := 25) (tgt := 76) hx hb dX8_wasUnsaid_51 (by decide) (by rw [k51_0]; decide) (by decide) ?_
              refine lv_aload_n hx hb dX8_wasUnsaid_76 rfl (lv_at hl 0 rfl) ?_
              refine rp_get (C := RX8) (T := TX8) (N := 10) hx hb hts in_X8_wasUnsaid_X8 hown hK hP 0 (by decide) (kX8 _) rfl 9 (by decide) (by decide +kernel) rfl dX8_wasUnsaid_77 ?_
              refine rp_get (C := RX5) (T := TX5) (N := 3) hx hb hts in_X8_wasUnsaid_X5 hown hK hP 27 (by decide) (kX5 _) rfl 0 (by decide) (by decide +kernel) rfl dX8_wasUnsaid_80 ?_
              rw [show (va_up (va_up σ 27 (gaO (goX (σ (y + 3)) (σ (y + 5)) n v w) (upd (upd (σ 27) 0 0) 1 (-1)) (2 ^ n))) 28 (gaW (goX (σ (y + 3)) (σ (y + 5)) n v w) (zrN (σ 28) 10) (2 ^ n))) 27 0 = ((gaO (goX (σ (y + 3)) (σ (y + 5)) n v w) (upd (upd (σ 27) 0 0) 1 (-1)) (2 ^ n)) 0) from ((va_R (by decide)).trans va_S')]
              exact hret hP hS dX8_wasUnsaid_83 rfl ⟨(by unfold R_X8_wasUnsaid <;> rw [if_pos c8, if_neg c15, if_neg c22, if_neg c26, if_pos c31, if_pos k51_0] <;> first | with_reducible rfl), (by unfold T_X8_wasUnsaid <;> rw [if_pos c8, if_neg c15, if_neg c22, if_neg c26, if_pos c31, if_pos k51_0] <;> first | with_reducible rfl)⟩
            rcases Decidable.em (x = 1) with k51_1 | k51_1
            · skip
              refine lv_lookup (off := 33) (tgt := 84) hx hb dX8_wasUnsaid_51 (by decide) (by rw [k51_1]; decide) (by decide) ?_
              refine lv_aload_n hx hb dX8_wasUnsaid_84 rfl (lv_at hl 0 rfl) ?_
              refine rp_get (C := RX8) (T := TX8) (N := 10) hx hb hts in_X8_wasUnsaid_X8 hown hK hP 0 (by decide) (kX8 _) rfl 9 (by decide) (by decide +kernel) rfl dX8_wasUnsaid_85 ?_
              refine rp_get (C := RX5) (T := TX5) (N := 3) hx hb hts in_X8_wasUnsaid_X5 hown hK hP 27 (by decide) (kX5 _) rfl 0 (by decide) (by decide +kernel) rfl dX8_wasUnsaid_88 ?_
              rw [show (va_up (va_up σ 27 (gaO (goX (σ (y + 3)) (σ (y + 5)) n v w) (upd (upd (σ 27) 0 0) 1 (-1)) (2 ^ n))) 28 (gaW (goX (σ (y + 3)) (σ (y + 5)) n v w) (zrN (σ 28) 10) (2 ^ n))) 27 0 = ((gaO (goX (σ (y + 3)) (σ (y + 5)) n v w) (upd (upd (σ 27) 0 0) 1 (-1)) (2 ^ n)) 0) from ((va_R (by decide)).trans va_S')]
              refine lv_if_ne (tgt := 98) hx hb dX8_wasUnsaid_91 (by decide) (fun c91 => ?_) (fun c91 => ?_)
              · skip
                refine lv_aload_n hx hb dX8_wasUnsaid_98 rfl (lv_at hl 0 rfl) ?_
                refine rp_get (C := RX8) (T := TX8) (N := 10) hx hb hts in_X8_wasUnsaid_X8 hown hK hP 0 (by decide) (kX8 _) rfl 9 (by decide) (by decide +kernel) rfl dX8_wasUnsaid_99 ?_
                refine rp_get (C := RX5) (T := TX5) (N := 3) hx hb hts in_X8_wasUnsaid_X5 hown hK hP 27 (by decide) (kX5 _) rfl 1 (by decide) (by decide +kernel) rfl dX8_wasUnsaid_102 ?_
                rw [show (va_up (va_up σ 27 (gaO (goX (σ (y + 3)) (σ (y + 5)) n v w) (upd (upd (σ 27) 0 0) 1 (-1)) (2 ^ n))) 28 (gaW (goX (σ (y + 3)) (σ (y + 5)) n v w) (zrN (σ 28) 10) (2 ^ n))) 27 1 = ((gaO (goX (σ (y + 3)) (σ (y + 5)) n v w) (upd (upd (σ 27) 0 0) 1 (-1)) (2 ^ n)) 1) from ((va_R (by decide)).trans va_S')]
                exact hret hP hS dX8_wasUnsaid_105 rfl ⟨(by unfold R_X8_wasUnsaid <;> rw [if_pos c8, if_neg c15, if_neg c22, if_neg c26, if_pos c31, if_neg k51_0, if_pos k51_1, if_neg c91] <;> first | with_reducible rfl), (by unfold T_X8_wasUnsaid <;> rw [if_pos c8, if_neg c15, if_neg c22, if_neg c26, if_pos c31, if_neg k51_0, if_pos k51_1, if_neg c91] <;> first | with_reducible rfl)⟩
              · skip
                refine lv_iconst (v := (-1)) hx hb dX8_wasUnsaid_94 (by decide) ?_
                refine lv_goto (tgt := 105) hx hb dX8_wasUnsaid_95 (by decide) ?_
                exact hret hP hS dX8_wasUnsaid_105 rfl ⟨(by unfold R_X8_wasUnsaid <;> rw [if_pos c8, if_neg c15, if_neg c22, if_neg c26, if_pos c31, if_neg k51_0, if_pos k51_1, if_pos c91] <;> first | with_reducible rfl), (by unfold T_X8_wasUnsaid <;> rw [if_pos c8, if_neg c15, if_neg c22, if_neg c26, if_pos c31, if_neg k51_0, if_pos k51_1, if_pos c91] <;> first | with_reducible rfl)⟩
            refine lv_lookup (off := 55) (tgt := 106) hx hb dX8_wasUnsaid_51 (by decide) (by show Op.lookupswitch.offset [(0, 25), (1, 33)] _ _ = _; rw [lv_osw k51_0 (by decide)]; rw [lv_osw k51_1 (by decide)]; rfl) (by decide) ?_
            refine lv_aload_n hx hb dX8_wasUnsaid_106 rfl (lv_at hl 0 rfl) ?_
            refine rp_get (C := RX8) (T := TX8) (N := 10) hx hb hts in_X8_wasUnsaid_X8 hown hK hP 0 (by decide) (kX8 _) rfl 9 (by decide) (by decide +kernel) rfl dX8_wasUnsaid_107 ?_
            refine lv_aload_n hx hb dX8_wasUnsaid_110 rfl (lv_at hl 0 rfl) ?_
            refine rp_get (C := RX8) (T := TX8) (N := 10) hx hb hts in_X8_wasUnsaid_X8 hown hK hP 0 (by decide) (kX8 _) rfl 1 (by decide) (by decide +kernel) rfl dX8_wasUnsaid_111 ?_
            refine rp_get (C := RX7) (T := TX7) (N := 12) hx hb hts in_X8_wasUnsaid_X7 hown hK hP y (hX7 hy).1 (kX7 hy _) rfl 5 (by decide) (by decide +kernel) rfl dX8_wasUnsaid_114 ?_
            rw [show (va_up (va_up σ 27 (gaO (goX (σ (y + 3)) (σ (y + 5)) n v w) (upd (upd (σ 27) 0 0) 1 (-1)) (2 ^ n))) 28 (gaW (goX (σ (y + 3)) (σ (y + 5)) n v w) (zrN (σ 28) 10) (2 ^ n))) y 5 = (σ y 5) from ((va_R (by omega)).trans (va_R (by omega)))]
            rw [en]
            refine rp_callVI (na := 1) hx hb hml hown hts hK hA hD hP hS hl.1 27 (by decide) (kX5 _) rfl [.int (nI n)] (c_X5_frog l D cy ad y z (va_up (va_up σ 27 (gaO (goX (σ (y + 3)) (σ (y + 5)) n v w) (upd (upd (σ 27) 0 0) 1 (-1)) (2 ^ n))) 28 (gaW (goX (σ (y + 3)) (σ (y + 5)) n v w) (zrN (σ 28) 10) (2 ^ n))) (gaO (goX (σ (y + 3)) (σ (y + 5)) n v w) (upd (upd (σ 27) 0 0) 1 (-1)) (2 ^ n)) (gaW (goX (σ (y + 3)) (σ (y + 5)) n v w) (zrN (σ 28) 10) (2 ^ n)) n ((va_Q (by decide)).trans va_Qs) va_Qs (by first | assumption | omega)) gX8_wasUnsaid_X5_frog rfl (by decide +kernel) rfl ⟨Nat.le_of_ble_eq_true rfl, Nat.le_of_ble_eq_true rfl⟩ ⟨rfl, rfl⟩ ⟨Nat.zero_le _, Nat.zero_le _⟩ rfl (Nat.le_of_ble_eq_true rfl) dX8_wasUnsaid_117 (fun v_ τ_ H locs hq hP hS => ?_)
            obtain ⟨rfl, rfl⟩ := hq
            exact hret hP hS dX8_wasUnsaid_120 rfl ⟨(by unfold R_X8_wasUnsaid <;> rw [if_pos c8, if_neg c15, if_neg c22, if_neg c26, if_pos c31, if_neg k51_0, if_neg k51_1] <;> first | with_reducible rfl), (by unfold T_X8_wasUnsaid <;> rw [if_pos c8, if_neg c15, if_neg c22, if_neg c26, if_pos c31, if_neg k51_0, if_neg k51_1] <;> first | with_reducible rfl)⟩
          · skip
            refine lv_ldc (v := (-1000000002)) hx hb hown (hts (.constant RX8 71 (-1000000002)) (by decide +kernel)) dX8_wasUnsaid_34 ?_
            exact hret hP hS dX8_wasUnsaid_36 rfl ⟨(by unfold R_X8_wasUnsaid <;> rw [if_pos c8, if_neg c15, if_neg c22, if_neg c26, if_neg c31] <;> first | with_reducible rfl), (by unfold T_X8_wasUnsaid <;> rw [if_pos c8, if_neg c15, if_neg c22, if_neg c26, if_neg c31] <;> first | with_reducible rfl)⟩
  · skip
    have c8 := bi_eq0.mp c8
    refine lv_ldc (v := (-1000000001)) hx hb hown (hts (.constant RX8 146 (-1000000001)) (by decide +kernel)) dX8_wasUnsaid_11 ?_
    exact hret hP hS dX8_wasUnsaid_13 rfl ⟨(by unfold R_X8_wasUnsaid <;> rw [if_neg c8] <;> first | with_reducible rfl), (by unfold T_X8_wasUnsaid <;> rw [if_neg c8] <;> first | with_reducible rfl)⟩

def R_X8_tear (σ : Nat → Nat → Int32)  : Int32 := (σ 19 0)
def T_X8_tear (σ : Nat → Nat → Int32)  : Nat → Nat → Int32 := up2 σ 19 0 0
theorem in_X8_tear_X0 : ∀ w ∈ u_ws RX0 TX0 3, w ∈ wsX8_tear := by decide +kernel
theorem in_X8_tear_X8 : ∀ w ∈ u_ws RX8 TX8 10, w ∈ wsX8_tear := by decide +kernel
set_option maxHeartbeats 1000000 in
set_option maxRecDepth 100000 in
theorem c_X8_tear (l : Launch) (D : va_G) (cy : Nat → ClassId) (ad : Nat → Nat) (y z : Nat) (σ : Nat → Nat → Int32)   : MI l D (tysW cy) 109 ad (cfX ad cy y z) yX8_tear wsX8_tear ({ frames := 0, cells := 0, slots := 0, locals := 0 }) σ [.ref (ad 0)] (fun v_ τ_ => (R_X8_tear σ) = v_ ∧ (T_X8_tear σ) = τ_) := by
  refine MI.go (cc := cX8_tear) (maxL := 2) .int (by decide) rfl (Nat.le_of_ble_eq_true rfl) ?_
  intro p_ e_ s_ m_ args_ bl_ mt_ c_ A_ Q_ ls hx hb hml hown hts hK hA hD hP hS hl hret
  have hl : lv_has ls 2 [(0, .ref (ad 0))] := hl
  refine lv_aload_n hx hb dX8_tear_0 rfl (lv_at hl 0 rfl) ?_
  refine rp_get (C := RX8) (T := TX8) (N := 10) hx hb hts in_X8_tear_X8 hown hK hP 0 (by decide) (kX8 _) rfl 6 (by decide) (by decide +kernel) rfl dX8_tear_1 ?_
  refine rp_get (C := RX0) (T := TX0) (N := 3) hx hb hts in_X8_tear_X0 hown hK hP 19 (by decide) (kX0 _) rfl 0 (by decide) (by decide +kernel) rfl dX8_tear_4 ?_
  refine lv_istore_n (lv' := [(1, .int (σ 19 0)), (0, .ref (ad 0))]) hx hb dX8_tear_7 rfl hl (by decide) rfl (fun ls hl => ?_)
  refine lv_aload_n hx hb dX8_tear_8 rfl (lv_at hl 1 rfl) ?_
  refine rp_get (C := RX8) (T := TX8) (N := 10) hx hb hts in_X8_tear_X8 hown hK hP 0 (by decide) (kX8 _) rfl 6 (by decide) (by decide +kernel) rfl dX8_tear_9 ?_
  refine lv_iconst (v := 0) hx hb dX8_tear_12 (by decide) ?_
  refine rp_put (C := RX0) (T := TX0) (N := 3) (v := 0) hx hb hts in_X8_tear_X0 tyX0 tyX0_ok nmX0 hown hK hP hD hS 19 (by decide) (kX0 _) rfl 0 (by decide) (by decide +kernel) rfl rfl rfl (Nat.le_of_ble_eq_true rfl) (kX0 _) dX8_tear_13 (fun H locs hP hS => ?_)
  refine lv_iload_n hx hb dX8_tear_16 rfl (lv_at hl 0 rfl) ?_
  exact hret hP hS dX8_tear_17 rfl ⟨(by unfold R_X8_tear <;> first | with_reducible rfl), (by unfold T_X8_tear <;> first | with_reducible rfl)⟩

def R_X8_seed (σ : Nat → Nat → Int32) (v : Int32) : Int32 := (if 0 ≤ v then (σ 22 0) else (-1000000002))
def T_X8_seed (σ : Nat → Nat → Int32) (v : Int32) : Nat → Nat → Int32 := (if 0 ≤ v then up2 σ 22 0 v else σ)
theorem in_X8_seed_X1 : ∀ w ∈ u_ws RX1 TX1 1, w ∈ wsX8_seed := by decide +kernel
theorem in_X8_seed_X8 : ∀ w ∈ u_ws RX8 TX8 10, w ∈ wsX8_seed := by decide +kernel
set_option maxHeartbeats 1000000 in
set_option maxRecDepth 100000 in
theorem c_X8_seed (l : Launch) (D : va_G) (cy : Nat → ClassId) (ad : Nat → Nat) (y z : Nat) (σ : Nat → Nat → Int32) (v : Int32)  : MI l D (tysW cy) 109 ad (cfX ad cy y z) yX8_seed wsX8_seed ({ frames := 0, cells := 0, slots := 0, locals := 0 }) σ [.ref (ad 0), .int v] (fun v_ τ_ => (R_X8_seed σ v) = v_ ∧ (T_X8_seed σ v) = τ_) := by
  refine MI.go (cc := cX8_seed) (maxL := 3) .int (by decide) rfl (Nat.le_of_ble_eq_true rfl) ?_
  intro p_ e_ s_ m_ args_ bl_ mt_ c_ A_ Q_ ls hx hb hml hown hts hK hA hD hP hS hl hret
  have hl : lv_has ls 3 [(0, .ref (ad 0)), (1, .int v)] := hl
  refine lv_iload_n hx hb dX8_seed_0 rfl (lv_at hl 1 rfl) ?_
  refine lv_if_ge (tgt := 7) hx hb dX8_seed_1 (by decide) (fun c1 => ?_) (fun c1 => ?_)
  · skip
    refine lv_aload_n hx hb dX8_seed_7 rfl (lv_at hl 0 rfl) ?_
    refine rp_get (C := RX8) (T := TX8) (N := 10) hx hb hts in_X8_seed_X8 hown hK hP 0 (by decide) (kX8 _) rfl 7 (by decide) (by decide +kernel) rfl dX8_seed_8 ?_
    refine rp_get (C := RX1) (T := TX1) (N := 1) hx hb hts in_X8_seed_X1 hown hK hP 22 (by decide) (kX1 _) rfl 0 (by decide) (by decide +kernel) rfl dX8_seed_11 ?_
    refine lv_istore_n (lv' := [(2, .int (σ 22 0)), (0, .ref (ad 0)), (1, .int v)]) hx hb dX8_seed_14 rfl hl (by decide) rfl (fun ls hl => ?_)
    refine lv_aload_n hx hb dX8_seed_15 rfl (lv_at hl 1 rfl) ?_
    refine rp_get (C := RX8) (T := TX8) (N := 10) hx hb hts in_X8_seed_X8 hown hK hP 0 (by decide) (kX8 _) rfl 7 (by decide) (by decide +kernel) rfl dX8_seed_16 ?_
    refine lv_iload_n hx hb dX8_seed_19 rfl (lv_at hl 2 rfl) ?_
    refine rp_put (C := RX1) (T := TX1) (N := 1) (v := v) hx hb hts in_X8_seed_X1 tyX1 tyX1_ok nmX1 hown hK hP hD hS 22 (by decide) (kX1 _) rfl 0 (by decide) (by decide +kernel) rfl rfl rfl (Nat.le_of_ble_eq_true rfl) (kX1 _) dX8_seed_20 (fun H locs hP hS => ?_)
    refine lv_iload_n hx hb dX8_seed_23 rfl (lv_at hl 0 rfl) ?_
    exact hret hP hS dX8_seed_24 rfl ⟨(by unfold R_X8_seed <;> rw [if_pos c1] <;> first | with_reducible rfl), (by unfold T_X8_seed <;> rw [if_pos c1] <;> first | with_reducible rfl)⟩
  · skip
    refine lv_ldc (v := (-1000000002)) hx hb hown (hts (.constant RX8 71 (-1000000002)) (by decide +kernel)) dX8_seed_4 ?_
    exact hret hP hS dX8_seed_6 rfl ⟨(by unfold R_X8_seed <;> rw [if_neg c1] <;> first | with_reducible rfl), (by unfold T_X8_seed <;> rw [if_neg c1] <;> first | with_reducible rfl)⟩

def R_X8_judge (σ : Nat → Nat → Int32) (y : Nat) (n : Nat) (t : Nat) : Int32 := (judN (holdN (σ (y + 5)) (σ (29 + 4 * 0) 4) n) (σ 20) (σ 21) t 0)
theorem in_X8_judge_X6 : ∀ w ∈ u_ws RX6 TX6 10, w ∈ wsX8_judge := by decide +kernel
theorem in_X8_judge_X8 : ∀ w ∈ u_ws RX8 TX8 10, w ∈ wsX8_judge := by decide +kernel
set_option maxHeartbeats 1000000 in
set_option maxRecDepth 100000 in
theorem c_X8_judge (l : Launch) (D : va_G) (cy : Nat → ClassId) (ad : Nat → Nat) (y z : Nat) (σ : Nat → Nat → Int32) (n : Nat) (t : Nat) (hy : y = 3 ∨ y = 10) (hn : n ≤ 10) (en : σ y 5 = nI n) (ht : t ≤ 15) (et : σ 19 0 = nI t) : MI l D (tysW cy) 109 ad (cfX ad cy y z) yX8_judge wsX8_judge ({ frames := 2, cells := 0, slots := 0, locals := 44 }) σ [.ref (ad 0)] (fun v_ τ_ => (R_X8_judge σ y n t) = v_ ∧ σ = τ_) := by
  refine MI.go (cc := cX8_judge) (maxL := 1) .int (by decide) rfl (Nat.le_of_ble_eq_true rfl) ?_
  intro p_ e_ s_ m_ args_ bl_ mt_ c_ A_ Q_ ls hx hb hml hown hts hK hA hD hP hS hl hret
  have hl : lv_has ls 1 [(0, .ref (ad 0))] := hl
  refine lv_aload_n hx hb dX8_judge_0 rfl (lv_at hl 0 rfl) ?_
  refine rp_get (C := RX8) (T := TX8) (N := 10) hx hb hts in_X8_judge_X8 hown hK hP 0 (by decide) (kX8 _) rfl 6 (by decide) (by decide +kernel) rfl dX8_judge_1 ?_
  refine lv_aload_n hx hb dX8_judge_4 rfl (lv_at hl 0 rfl) ?_
  refine rp_get (C := RX8) (T := TX8) (N := 10) hx hb hts in_X8_judge_X8 hown hK hP 0 (by decide) (kX8 _) rfl 1 (by decide) (by decide +kernel) rfl dX8_judge_5 ?_
  refine lv_aload_n hx hb dX8_judge_8 rfl (lv_at hl 0 rfl) ?_
  refine rp_get (C := RX8) (T := TX8) (N := 10) hx hb hts in_X8_judge_X8 hown hK hP 0 (by decide) (kX8 _) rfl 3 (by decide) (by decide +kernel) rfl dX8_judge_9 ?_
  refine rp_get (C := RX6) (T := TX6) (N := 10) hx hb hts in_X8_judge_X6 hown hK hP (29 + 4 * 0) (hX6 (i := 0) (by decide : 0 < 20)).1 (kX6 (i := 0) _) rfl 4 (by decide) (by decide +kernel) rfl dX8_judge_12 ?_
  refine rp_callVI (na := 1) hx hb hml hown hts hK hA hD hP hS hl.1 y (hX7 hy).1 (kX7 hy _) rfl [.int (σ (29 + 4 * 0) 4)] (c_X7_holding l D cy ad y z σ (σ (y + 5)) y n (σ (29 + 4 * 0) 4) rfl hy (by first | assumption | omega) (by first | assumption | rfl)) gX8_judge_X7_holding rfl (by decide +kernel) rfl ⟨Nat.le_of_ble_eq_true rfl, Nat.le_of_ble_eq_true rfl⟩ ⟨rfl, rfl⟩ ⟨Nat.zero_le _, Nat.zero_le _⟩ rfl (Nat.le_of_ble_eq_true rfl) dX8_judge_15 (fun v_ τ_ H locs hq hP hS => ?_)
  obtain ⟨rfl, rfl⟩ := hq
  refine rp_callVI (na := 1) hx hb hml hown hts hK hA hD hP hS hl.1 19 (by decide) (kX0 _) rfl [.int (holdN (σ (y + 5)) (σ (29 + 4 * 0) 4) n)] (c_X0_firstWrong l D cy ad y z σ (σ 19) (σ 20) (σ 21) t (holdN (σ (y + 5)) (σ (29 + 4 * 0) 4) n) rfl rfl rfl (by first | assumption | omega) (by first | assumption | omega)) gX8_judge_X0_firstWrong rfl (by decide +kernel) rfl ⟨Nat.le_of_ble_eq_true rfl, Nat.le_of_ble_eq_true rfl⟩ ⟨rfl, rfl⟩ ⟨Nat.zero_le _, Nat.zero_le _⟩ rfl (Nat.le_of_ble_eq_true rfl) dX8_judge_18 (fun v_ τ_ H locs hq hP hS => ?_)
  obtain ⟨rfl, rfl⟩ := hq
  exact hret hP hS dX8_judge_21 rfl ⟨(by unfold R_X8_judge <;> first | with_reducible rfl), rfl⟩

def R_X8_write (σ : Nat → Nat → Int32) (n : Nat) (t : Nat) (v : Int32) (w : Int32) : Int32 := (if (0 ≤ v ∧ ¬ nI n ≤ v) then (if (R_X0_add (σ 19) (σ 20) (σ 21) t v w) = 0 then (-1000000004) else ((T_X0_add_B (σ 19) (σ 20) (σ 21) t v w) 0)) else (-1000000001))
def T_X8_write (σ : Nat → Nat → Int32) (n : Nat) (t : Nat) (v : Int32) (w : Int32) : Nat → Nat → Int32 := (if (0 ≤ v ∧ ¬ nI n ≤ v) then (if (R_X0_add (σ 19) (σ 20) (σ 21) t v w) = 0 then va_up (va_up (va_up σ 19 (T_X0_add_B (σ 19) (σ 20) (σ 21) t v w)) 20 (T_X0_add_BS (σ 19) (σ 20) (σ 21) t v w)) 21 (T_X0_add_BH (σ 19) (σ 20) (σ 21) t v w) else va_up (va_up (va_up σ 19 (T_X0_add_B (σ 19) (σ 20) (σ 21) t v w)) 20 (T_X0_add_BS (σ 19) (σ 20) (σ 21) t v w)) 21 (T_X0_add_BH (σ 19) (σ 20) (σ 21) t v w)) else σ)
theorem in_X8_write_X0 : ∀ w ∈ u_ws RX0 TX0 3, w ∈ wsX8_write := by decide +kernel
theorem in_X8_write_X8 : ∀ w ∈ u_ws RX8 TX8 10, w ∈ wsX8_write := by decide +kernel
set_option maxHeartbeats 1000000 in
set_option maxRecDepth 100000 in
theorem c_X8_write (l : Launch) (D : va_G) (cy : Nat → ClassId) (ad : Nat → Nat) (y z : Nat) (σ : Nat → Nat → Int32) (n : Nat) (t : Nat) (v : Int32) (w : Int32) (hy : y = 3 ∨ y = 10) (hn : n ≤ 10) (en : σ y 5 = nI n) (ht : t ≤ 15) (et : σ 19 0 = nI t) (hw : w = 0 ∨ w = 1) : MI l D (tysW cy) 109 ad (cfX ad cy y z) yX8_write wsX8_write ({ frames := 1, cells := 0, slots := 0, locals := 22 }) σ [.ref (ad 0), .int v, .int w] (fun v_ τ_ => (R_X8_write σ n t v w) = v_ ∧ (T_X8_write σ n t v w) = τ_) := by
  refine MI.go (cc := cX8_write) (maxL := 3) .int (by decide) rfl (Nat.le_of_ble_eq_true rfl) ?_
  intro p_ e_ s_ m_ args_ bl_ mt_ c_ A_ Q_ ls hx hb hml hown hts hK hA hD hP hS hl hret
  have hl : lv_has ls 3 [(0, .ref (ad 0)), (1, .int v), (2, .int w)] := hl
  refine lv_aload_n hx hb dX8_write_0 rfl (lv_at hl 0 rfl) ?_
  refine rp_get (C := RX8) (T := TX8) (N := 10) hx hb hts in_X8_write_X8 hown hK hP 0 (by decide) (kX8 _) rfl 1 (by decide) (by decide +kernel) rfl dX8_write_1 ?_
  refine lv_iload_n hx hb dX8_write_4 rfl (lv_at hl 1 rfl) ?_
  refine rp_callVI (na := 1) hx hb hml hown hts hK hA hD hP hS hl.1 y (hX7 hy).1 (kX7 hy _) rfl [.int v] (c_X7_hasSaying l D cy ad y z σ y v hy) gX8_write_X7_hasSaying rfl (by decide +kernel) rfl ⟨Nat.le_of_ble_eq_true rfl, Nat.le_of_ble_eq_true rfl⟩ ⟨rfl, rfl⟩ ⟨Nat.zero_le _, Nat.zero_le _⟩ rfl (Nat.le_of_ble_eq_true rfl) dX8_write_5 (fun v_ τ_ H locs hq hP hS => ?_)
  obtain ⟨rfl, rfl⟩ := hq
  rw [en]
  refine lv_if_ne (tgt := 14) hx hb dX8_write_8 (by decide) (fun c8 => ?_) (fun c8 => ?_)
  · skip
    have c8 := bi_ne0.mp c8
    obtain ⟨jv, hjv, rfl⟩ := nI_rng2 c8 (by omega)
    refine lv_aload_n hx hb dX8_write_14 rfl (lv_at hl 0 rfl) ?_
    refine rp_get (C := RX8) (T := TX8) (N := 10) hx hb hts in_X8_write_X8 hown hK hP 0 (by decide) (kX8 _) rfl 6 (by decide) (by decide +kernel) rfl dX8_write_15 ?_
    refine lv_iload_n hx hb dX8_write_18 rfl (lv_at hl 1 rfl) ?_
    refine lv_iload_n hx hb dX8_write_19 rfl (lv_at hl 2 rfl) ?_
    refine rp_callVI (na := 2) hx hb hml hown hts hK hA hD hP hS hl.1 19 (by decide) (kX0 _) rfl [.int (nI jv), .int w] (c_X0_add l D cy ad y z σ (σ 19) (σ 20) (σ 21) t (nI jv) w rfl rfl rfl (by first | assumption | omega) (by first | assumption | omega) (by first | assumption | omega)) gX8_write_X0_add rfl (by decide +kernel) rfl ⟨Nat.le_of_ble_eq_true rfl, Nat.le_of_ble_eq_true rfl⟩ ⟨rfl, rfl⟩ ⟨Nat.zero_le _, Nat.zero_le _⟩ rfl (Nat.le_of_ble_eq_true rfl) dX8_write_20 (fun v_ τ_ H locs hq hP hS => ?_)
    obtain ⟨rfl, rfl⟩ := hq
    refine lv_if_eq (tgt := 36) hx hb dX8_write_23 (by decide) (fun c23 => ?_) (fun c23 => ?_)
    · skip
      refine lv_ldc (v := (-1000000004)) hx hb hown (hts (.constant RX8 80 (-1000000004)) (by decide +kernel)) dX8_write_36 ?_
      exact hret hP hS dX8_write_38 rfl ⟨(by unfold R_X8_write <;> (try rw [nI_clamp (n := jv) (by omega)]) <;> rw [if_pos c8, if_pos c23] <;> first | with_reducible rfl), (by unfold T_X8_write <;> (try rw [nI_clamp (n := jv) (by omega)]) <;> rw [if_pos c8, if_pos c23] <;> first | with_reducible rfl)⟩
    · skip
      refine lv_aload_n hx hb dX8_write_26 rfl (lv_at hl 0 rfl) ?_
      refine rp_get (C := RX8) (T := TX8) (N := 10) hx hb hts in_X8_write_X8 hown hK hP 0 (by decide) (kX8 _) rfl 6 (by decide) (by decide +kernel) rfl dX8_write_27 ?_
      refine rp_get (C := RX0) (T := TX0) (N := 3) hx hb hts in_X8_write_X0 hown hK hP 19 (by decide) (kX0 _) rfl 0 (by decide) (by decide +kernel) rfl dX8_write_30 ?_
      rw [show (va_up (va_up (va_up σ 19 (T_X0_add_B (σ 19) (σ 20) (σ 21) t (nI jv) w)) 20 (T_X0_add_BS (σ 19) (σ 20) (σ 21) t (nI jv) w)) 21 (T_X0_add_BH (σ 19) (σ 20) (σ 21) t (nI jv) w)) 19 0 = ((T_X0_add_B (σ 19) (σ 20) (σ 21) t (nI jv) w) 0) from ((va_R (by decide)).trans ((va_R (by decide)).trans va_S'))]
      refine lv_goto (tgt := 38) hx hb dX8_write_33 (by decide) ?_
      exact hret hP hS dX8_write_38 rfl ⟨(by unfold R_X8_write <;> (try rw [nI_clamp (n := jv) (by omega)]) <;> rw [if_pos c8, if_neg c23] <;> first | with_reducible rfl), (by unfold T_X8_write <;> (try rw [nI_clamp (n := jv) (by omega)]) <;> rw [if_pos c8, if_neg c23] <;> first | with_reducible rfl)⟩
  · skip
    have c8 := bi_eq0.mp c8
    refine lv_ldc (v := (-1000000001)) hx hb hown (hts (.constant RX8 146 (-1000000001)) (by decide +kernel)) dX8_write_11 ?_
    exact hret hP hS dX8_write_13 rfl ⟨(by unfold R_X8_write <;> rw [if_neg c8] <;> first | with_reducible rfl), (by unfold T_X8_write <;> rw [if_neg c8] <;> first | with_reducible rfl)⟩

def R_X8_keep (σ : Nat → Nat → Int32) (v : Int32) : Int32 := (if v < 0 then (-1000000001) else (if v < 2 then 1 else (-1000000001)))
def T_X8_keep (σ : Nat → Nat → Int32) (v : Int32) : Nat → Nat → Int32 := (if v < 0 then σ else (if v < 2 then va_up (va_up (va_up (va_up (va_up (va_up (va_up σ (29 + 4 * (18 + (v.toNatClampNeg))) (T_X2_take_O2 (σ (29 + 4 * (18 + (v.toNatClampNeg)))) (σ (29 + 4 * (18 + (v.toNatClampNeg)) + 1)) (σ (29 + 4 * (18 + (v.toNatClampNeg)) + 2)) (σ (29 + 4 * (18 + (v.toNatClampNeg)) + 3)) (σ (29 + 4 * 0)) (σ (29 + 4 * 0 + 1)) (σ (29 + 4 * 0 + 2)) (σ (29 + 4 * 0 + 3)) (σ 22) (σ 25) (σ 26) (v.toNatClampNeg))) (29 + 4 * (18 + (v.toNatClampNeg)) + 1) (T_X2_take_V2 (σ (29 + 4 * (18 + (v.toNatClampNeg)))) (σ (29 + 4 * (18 + (v.toNatClampNeg)) + 1)) (σ (29 + 4 * (18 + (v.toNatClampNeg)) + 2)) (σ (29 + 4 * (18 + (v.toNatClampNeg)) + 3)) (σ (29 + 4 * 0)) (σ (29 + 4 * 0 + 1)) (σ (29 + 4 * 0 + 2)) (σ (29 + 4 * 0 + 3)) (σ 22) (σ 25) (σ 26) (v.toNatClampNeg))) (29 + 4 * (18 + (v.toNatClampNeg)) + 2) (T_X2_take_P2 (σ (29 + 4 * (18 + (v.toNatClampNeg)))) (σ (29 + 4 * (18 + (v.toNatClampNeg)) + 1)) (σ (29 + 4 * (18 + (v.toNatClampNeg)) + 2)) (σ (29 + 4 * (18 + (v.toNatClampNeg)) + 3)) (σ (29 + 4 * 0)) (σ (29 + 4 * 0 + 1)) (σ (29 + 4 * 0 + 2)) (σ (29 + 4 * 0 + 3)) (σ 22) (σ 25) (σ 26) (v.toNatClampNeg))) (29 + 4 * (18 + (v.toNatClampNeg)) + 3) (T_X2_take_S2 (σ (29 + 4 * (18 + (v.toNatClampNeg)))) (σ (29 + 4 * (18 + (v.toNatClampNeg)) + 1)) (σ (29 + 4 * (18 + (v.toNatClampNeg)) + 2)) (σ (29 + 4 * (18 + (v.toNatClampNeg)) + 3)) (σ (29 + 4 * 0)) (σ (29 + 4 * 0 + 1)) (σ (29 + 4 * 0 + 2)) (σ (29 + 4 * 0 + 3)) (σ 22) (σ 25) (σ 26) (v.toNatClampNeg))) 25 (T_X2_take_GR (σ (29 + 4 * (18 + (v.toNatClampNeg)))) (σ (29 + 4 * (18 + (v.toNatClampNeg)) + 1)) (σ (29 + 4 * (18 + (v.toNatClampNeg)) + 2)) (σ (29 + 4 * (18 + (v.toNatClampNeg)) + 3)) (σ (29 + 4 * 0)) (σ (29 + 4 * 0 + 1)) (σ (29 + 4 * 0 + 2)) (σ (29 + 4 * 0 + 3)) (σ 22) (σ 25) (σ 26) (v.toNatClampNeg))) 26 (T_X2_take_KE (σ (29 + 4 * (18 + (v.toNatClampNeg)))) (σ (29 + 4 * (18 + (v.toNatClampNeg)) + 1)) (σ (29 + 4 * (18 + (v.toNatClampNeg)) + 2)) (σ (29 + 4 * (18 + (v.toNatClampNeg)) + 3)) (σ (29 + 4 * 0)) (σ (29 + 4 * 0 + 1)) (σ (29 + 4 * 0 + 2)) (σ (29 + 4 * 0 + 3)) (σ 22) (σ 25) (σ 26) (v.toNatClampNeg))) 17 (T_X3_forget_PA (σ 17)) else σ))
theorem in_X8_keep_X8 : ∀ w ∈ u_ws RX8 TX8 10, w ∈ wsX8_keep := by decide +kernel
set_option maxHeartbeats 1000000 in
set_option maxRecDepth 100000 in
theorem c_X8_keep (l : Launch) (D : va_G) (cy : Nat → ClassId) (ad : Nat → Nat) (y z : Nat) (σ : Nat → Nat → Int32) (v : Int32)  : MI l D (tysW cy) 109 ad (cfX ad cy y z) yX8_keep wsX8_keep ({ frames := 3, cells := 0, slots := 0, locals := 84 }) σ [.ref (ad 0), .int v] (fun v_ τ_ => (R_X8_keep σ v) = v_ ∧ (T_X8_keep σ v) = τ_) := by
  refine MI.go (cc := cX8_keep) (maxL := 2) .int (by decide) rfl (Nat.le_of_ble_eq_true rfl) ?_
  intro p_ e_ s_ m_ args_ bl_ mt_ c_ A_ Q_ ls hx hb hml hown hts hK hA hD hP hS hl hret
  have hl : lv_has ls 2 [(0, .ref (ad 0)), (1, .int v)] := hl
  refine lv_iload_n hx hb dX8_keep_0 rfl (lv_at hl 1 rfl) ?_
  refine lv_if_lt (tgt := 9) hx hb dX8_keep_1 (by decide) (fun c1 => ?_) (fun c1 => ?_)
  · skip
    refine lv_ldc (v := (-1000000001)) hx hb hown (hts (.constant RX8 146 (-1000000001)) (by decide +kernel)) dX8_keep_9 ?_
    exact hret hP hS dX8_keep_11 rfl ⟨(by unfold R_X8_keep <;> rw [if_pos c1] <;> first | with_reducible rfl), (by unfold T_X8_keep <;> rw [if_pos c1] <;> first | with_reducible rfl)⟩
  · skip
    refine lv_iload_n hx hb dX8_keep_4 rfl (lv_at hl 1 rfl) ?_
    refine lv_iconst (v := 2) hx hb dX8_keep_5 (by decide) ?_
    refine lv_icmp_lt (tgt := 12) hx hb dX8_keep_6 (by decide) (fun c6 => ?_) (fun c6 => ?_)
    · skip
      obtain ⟨jv, hjv, rfl⟩ := nI_rng (n := 2) (by decide) c1 (Int32.not_le.mpr c6)
      refine lv_aload_n hx hb dX8_keep_12 rfl (lv_at hl 0 rfl) ?_
      refine rp_get (C := RX8) (T := TX8) (N := 10) hx hb hts in_X8_keep_X8 hown hK hP 0 (by decide) (kX8 _) rfl 8 (by decide) (by decide +kernel) rfl dX8_keep_13 ?_
      refine lv_iload_n hx hb dX8_keep_16 rfl (lv_at hl 1 rfl) ?_
      refine lv_aload_n hx hb dX8_keep_17 rfl (lv_at hl 0 rfl) ?_
      refine rp_get (C := RX8) (T := TX8) (N := 10) hx hb hts in_X8_keep_X8 hown hK hP 0 (by decide) (kX8 _) rfl 3 (by decide) (by decide +kernel) rfl dX8_keep_18 ?_
      refine lv_aload_n hx hb dX8_keep_21 rfl (lv_at hl 0 rfl) ?_
      refine rp_get (C := RX8) (T := TX8) (N := 10) hx hb hts in_X8_keep_X8 hown hK hP 0 (by decide) (kX8 _) rfl 7 (by decide) (by decide +kernel) rfl dX8_keep_22 ?_
      refine rp_callVV (na := 3) hx hb hml hown hts hK hA hD hP hS hl.1 23 (by decide) (kX2 _) rfl [.int (nI jv), .ref (ad (29 + 4 * 0)), .ref (ad 22)] (c_X2_take l D cy ad y z σ (σ (29 + 4 * (18 + jv))) (σ (29 + 4 * (18 + jv) + 1)) (σ (29 + 4 * (18 + jv) + 2)) (σ (29 + 4 * (18 + jv) + 3)) (σ (29 + 4 * 0)) (σ (29 + 4 * 0 + 1)) (σ (29 + 4 * 0 + 2)) (σ (29 + 4 * 0 + 3)) (σ 22) (σ 25) (σ 26) 0 jv rfl rfl rfl rfl rfl rfl rfl rfl rfl rfl rfl (by decide : 0 < 20) (by first | assumption | omega) (by first | assumption | omega)) gX8_keep_X2_take rfl (by decide +kernel) rfl ⟨Nat.le_of_ble_eq_true rfl, Nat.le_of_ble_eq_true rfl⟩ ⟨rfl, rfl⟩ ⟨Nat.zero_le _, Nat.zero_le _⟩ rfl (Nat.le_of_ble_eq_true rfl) dX8_keep_25 (fun τ_ H locs hq hP hS => ?_)
      subst hq
      refine lv_aload_n hx hb dX8_keep_28 rfl (lv_at hl 0 rfl) ?_
      refine rp_get (C := RX8) (T := TX8) (N := 10) hx hb hts in_X8_keep_X8 hown hK hP 0 (by decide) (kX8 _) rfl 5 (by decide) (by decide +kernel) rfl dX8_keep_29 ?_
      refine rp_callVV (na := 0) hx hb hml hown hts hK hA hD hP hS hl.1 17 (by decide) (kX3 _) rfl [] (c_X3_forget l D cy ad y z (va_up (va_up (va_up (va_up (va_up (va_up σ (29 + 4 * (18 + jv)) (T_X2_take_O2 (σ (29 + 4 * (18 + jv))) (σ (29 + 4 * (18 + jv) + 1)) (σ (29 + 4 * (18 + jv) + 2)) (σ (29 + 4 * (18 + jv) + 3)) (σ (29 + 4 * 0)) (σ (29 + 4 * 0 + 1)) (σ (29 + 4 * 0 + 2)) (σ (29 + 4 * 0 + 3)) (σ 22) (σ 25) (σ 26) jv)) (29 + 4 * (18 + jv) + 1) (T_X2_take_V2 (σ (29 + 4 * (18 + jv))) (σ (29 + 4 * (18 + jv) + 1)) (σ (29 + 4 * (18 + jv) + 2)) (σ (29 + 4 * (18 + jv) + 3)) (σ (29 + 4 * 0)) (σ (29 + 4 * 0 + 1)) (σ (29 + 4 * 0 + 2)) (σ (29 + 4 * 0 + 3)) (σ 22) (σ 25) (σ 26) jv)) (29 + 4 * (18 + jv) + 2) (T_X2_take_P2 (σ (29 + 4 * (18 + jv))) (σ (29 + 4 * (18 + jv) + 1)) (σ (29 + 4 * (18 + jv) + 2)) (σ (29 + 4 * (18 + jv) + 3)) (σ (29 + 4 * 0)) (σ (29 + 4 * 0 + 1)) (σ (29 + 4 * 0 + 2)) (σ (29 + 4 * 0 + 3)) (σ 22) (σ 25) (σ 26) jv)) (29 + 4 * (18 + jv) + 3) (T_X2_take_S2 (σ (29 + 4 * (18 + jv))) (σ (29 + 4 * (18 + jv) + 1)) (σ (29 + 4 * (18 + jv) + 2)) (σ (29 + 4 * (18 + jv) + 3)) (σ (29 + 4 * 0)) (σ (29 + 4 * 0 + 1)) (σ (29 + 4 * 0 + 2)) (σ (29 + 4 * 0 + 3)) (σ 22) (σ 25) (σ 26) jv)) 25 (T_X2_take_GR (σ (29 + 4 * (18 + jv))) (σ (29 + 4 * (18 + jv) + 1)) (σ (29 + 4 * (18 + jv) + 2)) (σ (29 + 4 * (18 + jv) + 3)) (σ (29 + 4 * 0)) (σ (29 + 4 * 0 + 1)) (σ (29 + 4 * 0 + 2)) (σ (29 + 4 * 0 + 3)) (σ 22) (σ 25) (σ 26) jv)) 26 (T_X2_take_KE (σ (29 + 4 * (18 + jv))) (σ (29 + 4 * (18 + jv) + 1)) (σ (29 + 4 * (18 + jv) + 2)) (σ (29 + 4 * (18 + jv) + 3)) (σ (29 + 4 * 0)) (σ (29 + 4 * 0 + 1)) (σ (29 + 4 * 0 + 2)) (σ (29 + 4 * 0 + 3)) (σ 22) (σ 25) (σ 26) jv)) (σ 17) ((va_Q (by decide)).trans ((va_Q (by decide)).trans ((va_Q (by omega)).trans ((va_Q (by omega)).trans ((va_Q (by omega)).trans (va_Q (by omega)))))))) gX8_keep_X3_forget rfl (by decide +kernel) rfl ⟨Nat.le_of_ble_eq_true rfl, Nat.le_of_ble_eq_true rfl⟩ ⟨rfl, rfl⟩ ⟨Nat.zero_le _, Nat.zero_le _⟩ rfl (Nat.le_of_ble_eq_true rfl) dX8_keep_32 (fun τ_ H locs hq hP hS => ?_)
      subst hq
      refine lv_iconst (v := 1) hx hb dX8_keep_35 (by decide) ?_
      exact hret hP hS dX8_keep_36 rfl ⟨(by unfold R_X8_keep <;> (try rw [nI_clamp (n := jv) (by omega)]) <;> rw [if_neg c1, if_pos c6] <;> first | with_reducible rfl), (by unfold T_X8_keep <;> (try rw [nI_clamp (n := jv) (by omega)]) <;> rw [if_neg c1, if_pos c6] <;> first | with_reducible rfl)⟩
    · skip
      refine lv_ldc (v := (-1000000001)) hx hb hown (hts (.constant RX8 146 (-1000000001)) (by decide +kernel)) dX8_keep_9 ?_
      exact hret hP hS dX8_keep_11 rfl ⟨(by unfold R_X8_keep <;> rw [if_neg c1, if_neg c6] <;> first | with_reducible rfl), (by unfold T_X8_keep <;> rw [if_neg c1, if_neg c6] <;> first | with_reducible rfl)⟩

def R_X8_goBack (σ : Nat → Nat → Int32) (v : Int32) : Int32 := (if v < 0 then (-1000000001) else (if v < 2 then (if (¬ (σ 26) (v.toNatClampNeg) = 0) then 1 else (-1000000003)) else (-1000000001)))
def T_X8_goBack (σ : Nat → Nat → Int32) (v : Int32) : Nat → Nat → Int32 := (if v < 0 then σ else (if v < 2 then (if (¬ (σ 26) (v.toNatClampNeg) = 0) then va_up (va_up (va_up (va_up (va_up (va_up σ (29 + 4 * 0) (T_X2_giveBack_O (σ (29 + 4 * 0)) (σ (29 + 4 * 0 + 1)) (σ (29 + 4 * 0 + 2)) (σ (29 + 4 * 0 + 3)) (σ (29 + 4 * (18 + (v.toNatClampNeg)))) (σ (29 + 4 * (18 + (v.toNatClampNeg)) + 1)) (σ (29 + 4 * (18 + (v.toNatClampNeg)) + 2)) (σ (29 + 4 * (18 + (v.toNatClampNeg)) + 3)) (σ 22) (σ 25) (v.toNatClampNeg))) (29 + 4 * 0 + 1) (T_X2_giveBack_V (σ (29 + 4 * 0)) (σ (29 + 4 * 0 + 1)) (σ (29 + 4 * 0 + 2)) (σ (29 + 4 * 0 + 3)) (σ (29 + 4 * (18 + (v.toNatClampNeg)))) (σ (29 + 4 * (18 + (v.toNatClampNeg)) + 1)) (σ (29 + 4 * (18 + (v.toNatClampNeg)) + 2)) (σ (29 + 4 * (18 + (v.toNatClampNeg)) + 3)) (σ 22) (σ 25) (v.toNatClampNeg))) (29 + 4 * 0 + 2) (T_X2_giveBack_P (σ (29 + 4 * 0)) (σ (29 + 4 * 0 + 1)) (σ (29 + 4 * 0 + 2)) (σ (29 + 4 * 0 + 3)) (σ (29 + 4 * (18 + (v.toNatClampNeg)))) (σ (29 + 4 * (18 + (v.toNatClampNeg)) + 1)) (σ (29 + 4 * (18 + (v.toNatClampNeg)) + 2)) (σ (29 + 4 * (18 + (v.toNatClampNeg)) + 3)) (σ 22) (σ 25) (v.toNatClampNeg))) (29 + 4 * 0 + 3) (T_X2_giveBack_S (σ (29 + 4 * 0)) (σ (29 + 4 * 0 + 1)) (σ (29 + 4 * 0 + 2)) (σ (29 + 4 * 0 + 3)) (σ (29 + 4 * (18 + (v.toNatClampNeg)))) (σ (29 + 4 * (18 + (v.toNatClampNeg)) + 1)) (σ (29 + 4 * (18 + (v.toNatClampNeg)) + 2)) (σ (29 + 4 * (18 + (v.toNatClampNeg)) + 3)) (σ 22) (σ 25) (v.toNatClampNeg))) 22 (T_X2_giveBack_G (σ (29 + 4 * 0)) (σ (29 + 4 * 0 + 1)) (σ (29 + 4 * 0 + 2)) (σ (29 + 4 * 0 + 3)) (σ (29 + 4 * (18 + (v.toNatClampNeg)))) (σ (29 + 4 * (18 + (v.toNatClampNeg)) + 1)) (σ (29 + 4 * (18 + (v.toNatClampNeg)) + 2)) (σ (29 + 4 * (18 + (v.toNatClampNeg)) + 3)) (σ 22) (σ 25) (v.toNatClampNeg))) 17 (T_X3_forget_PA (σ 17)) else σ) else σ))
theorem in_X8_goBack_X8 : ∀ w ∈ u_ws RX8 TX8 10, w ∈ wsX8_goBack := by decide +kernel
set_option maxHeartbeats 1000000 in
set_option maxRecDepth 100000 in
theorem c_X8_goBack (l : Launch) (D : va_G) (cy : Nat → ClassId) (ad : Nat → Nat) (y z : Nat) (σ : Nat → Nat → Int32) (v : Int32)  : MI l D (tysW cy) 109 ad (cfX ad cy y z) yX8_goBack wsX8_goBack ({ frames := 3, cells := 0, slots := 0, locals := 84 }) σ [.ref (ad 0), .int v] (fun v_ τ_ => (R_X8_goBack σ v) = v_ ∧ (T_X8_goBack σ v) = τ_) := by
  refine MI.go (cc := cX8_goBack) (maxL := 2) .int (by decide) rfl (Nat.le_of_ble_eq_true rfl) ?_
  intro p_ e_ s_ m_ args_ bl_ mt_ c_ A_ Q_ ls hx hb hml hown hts hK hA hD hP hS hl hret
  have hl : lv_has ls 2 [(0, .ref (ad 0)), (1, .int v)] := hl
  refine lv_iload_n hx hb dX8_goBack_0 rfl (lv_at hl 1 rfl) ?_
  refine lv_if_lt (tgt := 9) hx hb dX8_goBack_1 (by decide) (fun c1 => ?_) (fun c1 => ?_)
  · skip
    refine lv_ldc (v := (-1000000001)) hx hb hown (hts (.constant RX8 146 (-1000000001)) (by decide +kernel)) dX8_goBack_9 ?_
    exact hret hP hS dX8_goBack_11 rfl ⟨(by unfold R_X8_goBack <;> rw [if_pos c1] <;> first | with_reducible rfl), (by unfold T_X8_goBack <;> rw [if_pos c1] <;> first | with_reducible rfl)⟩
  · skip
    refine lv_iload_n hx hb dX8_goBack_4 rfl (lv_at hl 1 rfl) ?_
    refine lv_iconst (v := 2) hx hb dX8_goBack_5 (by decide) ?_
    refine lv_icmp_lt (tgt := 12) hx hb dX8_goBack_6 (by decide) (fun c6 => ?_) (fun c6 => ?_)
    · skip
      obtain ⟨jv, hjv, rfl⟩ := nI_rng (n := 2) (by decide) c1 (Int32.not_le.mpr c6)
      refine lv_aload_n hx hb dX8_goBack_12 rfl (lv_at hl 0 rfl) ?_
      refine rp_get (C := RX8) (T := TX8) (N := 10) hx hb hts in_X8_goBack_X8 hown hK hP 0 (by decide) (kX8 _) rfl 8 (by decide) (by decide +kernel) rfl dX8_goBack_13 ?_
      refine lv_iload_n hx hb dX8_goBack_16 rfl (lv_at hl 1 rfl) ?_
      refine rp_callVI (na := 1) hx hb hml hown hts hK hA hD hP hS hl.1 23 (by decide) (kX2 _) rfl [.int (nI jv)] (c_X2_isKept l D cy ad y z σ (σ 26) jv rfl (by first | assumption | omega)) gX8_goBack_X2_isKept rfl (by decide +kernel) rfl ⟨Nat.le_of_ble_eq_true rfl, Nat.le_of_ble_eq_true rfl⟩ ⟨rfl, rfl⟩ ⟨Nat.zero_le _, Nat.zero_le _⟩ rfl (Nat.le_of_ble_eq_true rfl) dX8_goBack_17 (fun v_ τ_ H locs hq hP hS => ?_)
      obtain ⟨rfl, rfl⟩ := hq
      refine lv_if_ne (tgt := 26) hx hb dX8_goBack_20 (by decide) (fun c20 => ?_) (fun c20 => ?_)
      · skip
        have c20 := bi_ne0.mp c20
        refine lv_aload_n hx hb dX8_goBack_26 rfl (lv_at hl 0 rfl) ?_
        refine rp_get (C := RX8) (T := TX8) (N := 10) hx hb hts in_X8_goBack_X8 hown hK hP 0 (by decide) (kX8 _) rfl 8 (by decide) (by decide +kernel) rfl dX8_goBack_27 ?_
        refine lv_iload_n hx hb dX8_goBack_30 rfl (lv_at hl 1 rfl) ?_
        refine lv_aload_n hx hb dX8_goBack_31 rfl (lv_at hl 0 rfl) ?_
        refine rp_get (C := RX8) (T := TX8) (N := 10) hx hb hts in_X8_goBack_X8 hown hK hP 0 (by decide) (kX8 _) rfl 3 (by decide) (by decide +kernel) rfl dX8_goBack_32 ?_
        refine lv_aload_n hx hb dX8_goBack_35 rfl (lv_at hl 0 rfl) ?_
        refine rp_get (C := RX8) (T := TX8) (N := 10) hx hb hts in_X8_goBack_X8 hown hK hP 0 (by decide) (kX8 _) rfl 7 (by decide) (by decide +kernel) rfl dX8_goBack_36 ?_
        refine rp_callVV (na := 3) hx hb hml hown hts hK hA hD hP hS hl.1 23 (by decide) (kX2 _) rfl [.int (nI jv), .ref (ad (29 + 4 * 0)), .ref (ad 22)] (c_X2_giveBack l D cy ad y z σ (σ (29 + 4 * 0)) (σ (29 + 4 * 0 + 1)) (σ (29 + 4 * 0 + 2)) (σ (29 + 4 * 0 + 3)) (σ (29 + 4 * (18 + jv))) (σ (29 + 4 * (18 + jv) + 1)) (σ (29 + 4 * (18 + jv) + 2)) (σ (29 + 4 * (18 + jv) + 3)) (σ 22) (σ 25) (σ 26) 0 jv rfl rfl rfl rfl rfl rfl rfl rfl rfl rfl rfl (by decide : 0 < 20) (by first | assumption | omega) (by first | assumption | omega) (by first | assumption | omega)) gX8_goBack_X2_giveBack rfl (by decide +kernel) rfl ⟨Nat.le_of_ble_eq_true rfl, Nat.le_of_ble_eq_true rfl⟩ ⟨rfl, rfl⟩ ⟨Nat.zero_le _, Nat.zero_le _⟩ rfl (Nat.le_of_ble_eq_true rfl) dX8_goBack_39 (fun τ_ H locs hq hP hS => ?_)
        subst hq
        refine lv_aload_n hx hb dX8_goBack_42 rfl (lv_at hl 0 rfl) ?_
        refine rp_get (C := RX8) (T := TX8) (N := 10) hx hb hts in_X8_goBack_X8 hown hK hP 0 (by decide) (kX8 _) rfl 5 (by decide) (by decide +kernel) rfl dX8_goBack_43 ?_
        refine rp_callVV (na := 0) hx hb hml hown hts hK hA hD hP hS hl.1 17 (by decide) (kX3 _) rfl [] (c_X3_forget l D cy ad y z (va_up (va_up (va_up (va_up (va_up σ (29 + 4 * 0) (T_X2_giveBack_O (σ (29 + 4 * 0)) (σ (29 + 4 * 0 + 1)) (σ (29 + 4 * 0 + 2)) (σ (29 + 4 * 0 + 3)) (σ (29 + 4 * (18 + jv))) (σ (29 + 4 * (18 + jv) + 1)) (σ (29 + 4 * (18 + jv) + 2)) (σ (29 + 4 * (18 + jv) + 3)) (σ 22) (σ 25) jv)) (29 + 4 * 0 + 1) (T_X2_giveBack_V (σ (29 + 4 * 0)) (σ (29 + 4 * 0 + 1)) (σ (29 + 4 * 0 + 2)) (σ (29 + 4 * 0 + 3)) (σ (29 + 4 * (18 + jv))) (σ (29 + 4 * (18 + jv) + 1)) (σ (29 + 4 * (18 + jv) + 2)) (σ (29 + 4 * (18 + jv) + 3)) (σ 22) (σ 25) jv)) (29 + 4 * 0 + 2) (T_X2_giveBack_P (σ (29 + 4 * 0)) (σ (29 + 4 * 0 + 1)) (σ (29 + 4 * 0 + 2)) (σ (29 + 4 * 0 + 3)) (σ (29 + 4 * (18 + jv))) (σ (29 + 4 * (18 + jv) + 1)) (σ (29 + 4 * (18 + jv) + 2)) (σ (29 + 4 * (18 + jv) + 3)) (σ 22) (σ 25) jv)) (29 + 4 * 0 + 3) (T_X2_giveBack_S (σ (29 + 4 * 0)) (σ (29 + 4 * 0 + 1)) (σ (29 + 4 * 0 + 2)) (σ (29 + 4 * 0 + 3)) (σ (29 + 4 * (18 + jv))) (σ (29 + 4 * (18 + jv) + 1)) (σ (29 + 4 * (18 + jv) + 2)) (σ (29 + 4 * (18 + jv) + 3)) (σ 22) (σ 25) jv)) 22 (T_X2_giveBack_G (σ (29 + 4 * 0)) (σ (29 + 4 * 0 + 1)) (σ (29 + 4 * 0 + 2)) (σ (29 + 4 * 0 + 3)) (σ (29 + 4 * (18 + jv))) (σ (29 + 4 * (18 + jv) + 1)) (σ (29 + 4 * (18 + jv) + 2)) (σ (29 + 4 * (18 + jv) + 3)) (σ 22) (σ 25) jv)) (σ 17) ((va_Q (by decide)).trans ((va_Q (by omega)).trans ((va_Q (by omega)).trans ((va_Q (by omega)).trans (va_Q (by omega))))))) gX8_goBack_X3_forget rfl (by decide +kernel) rfl ⟨Nat.le_of_ble_eq_true rfl, Nat.le_of_ble_eq_true rfl⟩ ⟨rfl, rfl⟩ ⟨Nat.zero_le _, Nat.zero_le _⟩ rfl (Nat.le_of_ble_eq_true rfl) dX8_goBack_46 (fun τ_ H locs hq hP hS => ?_)
        subst hq
        refine lv_iconst (v := 1) hx hb dX8_goBack_49 (by decide) ?_
        exact hret hP hS dX8_goBack_50 rfl ⟨(by unfold R_X8_goBack <;> (try rw [nI_clamp (n := jv) (by omega)]) <;> rw [if_neg c1, if_pos c6, if_pos c20] <;> first | with_reducible rfl), (by unfold T_X8_goBack <;> (try rw [nI_clamp (n := jv) (by omega)]) <;> rw [if_neg c1, if_pos c6, if_pos c20] <;> first | with_reducible rfl)⟩
      · skip
        have c20 := bi_eq0.mp c20
        refine lv_ldc (v := (-1000000003)) hx hb hown (hts (.constant RX8 198 (-1000000003)) (by decide +kernel)) dX8_goBack_23 ?_
        exact hret hP hS dX8_goBack_25 rfl ⟨(by unfold R_X8_goBack <;> (try rw [nI_clamp (n := jv) (by omega)]) <;> rw [if_neg c1, if_pos c6, if_neg c20] <;> first | with_reducible rfl), (by unfold T_X8_goBack <;> (try rw [nI_clamp (n := jv) (by omega)]) <;> rw [if_neg c1, if_pos c6, if_neg c20] <;> first | with_reducible rfl)⟩
    · skip
      refine lv_ldc (v := (-1000000001)) hx hb hown (hts (.constant RX8 146 (-1000000001)) (by decide +kernel)) dX8_goBack_9 ?_
      exact hret hP hS dX8_goBack_11 rfl ⟨(by unfold R_X8_goBack <;> rw [if_neg c1, if_neg c6] <;> first | with_reducible rfl), (by unfold T_X8_goBack <;> rw [if_neg c1, if_neg c6] <;> first | with_reducible rfl)⟩

theorem in_X8_drought_X6 : ∀ w ∈ u_ws RX6 TX6 10, w ∈ wsX8_drought := by decide +kernel
theorem in_X8_drought_X7 : ∀ w ∈ u_ws RX7 TX7 12, w ∈ wsX8_drought := by decide +kernel
theorem in_X8_drought_X8 : ∀ w ∈ u_ws RX8 TX8 10, w ∈ wsX8_drought := by decide +kernel
set_option maxHeartbeats 1000000 in
set_option maxRecDepth 100000 in
theorem c_X8_drought (l : Launch) (D : va_G) (cy : Nat → ClassId) (ad : Nat → Nat) (y z : Nat) (σ : Nat → Nat → Int32) (v : Int32) (hy : y = 3 ∨ y = 10) : MI l D (tysW cy) 109 ad (cfX ad cy y z) yX8_drought wsX8_drought ({ frames := 0, cells := 0, slots := 0, locals := 0 }) σ [.ref (ad 0), .int v] (fun v_ τ_ => (if v < 0 then (-1000000002) else if v ≤ 99 then (if σ y 0 = 0 then (-1000000003) else drX v (σ y 2) (σ (29 + 4 * 0) 0) 100 0) else (-1000000002)) = v_ ∧ σ = τ_) := by
  refine MI.go (cc := cX8_drought) (maxL := 3) .int (by decide) rfl (Nat.le_of_ble_eq_true rfl) ?_
  intro p_ e_ s_ m_ args_ bl_ mt_ c_ A_ Q_ ls hx hb hml hown hts hK hA hD hP hS hl hret
  have hl : lv_has ls 3 [(0, .ref (ad 0)), (1, .int v)] := hl
  refine lv_iload_n hx hb dX8_drought_0 rfl (lv_at hl 1 rfl) ?_
  refine lv_if_lt (tgt := 10) hx hb dX8_drought_1 (by decide) (fun c1 => ?_) (fun c1 => ?_)
  · skip
    refine lv_ldc (v := (-1000000002)) hx hb hown (hts (.constant RX8 71 (-1000000002)) (by decide +kernel)) dX8_drought_10 ?_
    exact hret hP hS dX8_drought_12 rfl ⟨(by rw [if_pos c1]), rfl⟩
  · skip
    refine lv_iload_n hx hb dX8_drought_4 rfl (lv_at hl 1 rfl) ?_
    refine lv_bipush (v := 99) hx hb dX8_drought_5 (by decide) ?_
    refine lv_icmp_le (tgt := 13) hx hb dX8_drought_7 (by decide) (fun c7 => ?_) (fun c7 => ?_)
    · skip
      refine lv_aload_n hx hb dX8_drought_13 rfl (lv_at hl 0 rfl) ?_
      refine rp_get (C := RX8) (T := TX8) (N := 10) hx hb hts in_X8_drought_X8 hown hK hP 0 (by decide) (kX8 _) rfl 1 (by decide) (by decide +kernel) rfl dX8_drought_14 ?_
      refine rp_get (C := RX7) (T := TX7) (N := 12) hx hb hts in_X8_drought_X7 hown hK hP y (hX7 hy).1 (kX7 hy _) rfl 0 (by decide) (by decide +kernel) rfl dX8_drought_17 ?_
      refine lv_if_ne (tgt := 26) hx hb dX8_drought_20 (by decide) (fun c20 => ?_) (fun c20 => ?_)
      · skip
        refine lv_iconst (v := 0) hx hb dX8_drought_26 (by decide) ?_
        refine lv_istore_n (lv' := [(2, .int 0), (0, .ref (ad 0)), (1, .int v)]) hx hb dX8_drought_27 rfl hl (by decide) rfl (fun ls hl => ?_)
        have L28 : ∀ (fu28 : Nat) (c : Nat), (c ≤ 100) → (drX v (σ y 2) (σ (29 + 4 * 0) 0) (100 - c) c = drX v (σ y 2) (σ (29 + 4 * 0) 0) 100 0) → 100 - c < fu28 → ∀ (x2 : Int32) (τ : Nat → Nat → Int32) (H : Heap) (locs : List Loc) (ls : Array Slot), (nI c) = x2 → σ = τ → va_P D classes (rw_ 109 ad (cfX ad cy y z) τ) H → va_S A_ s_.heap H locs → lv_has ls 3 [(2, .int x2), (0, .ref (ad 0)), (1, .int v)] → W p_ l e_ ({ frames := 0, cells := 0, slots := 0, locals := 0 }) s_ m_ args_ bl_ mt_ c_ H locs 0 0 Q_ (F0 m_ 28 ls []) := by
          intro fu28
          induction fu28 with
          | zero => intro c hc hF hf; exact absurd hf (Nat.not_lt_zero _)
          | succ fu28 ih28 =>
            intro c hc hF hf28 x2 τ H locs ls ex2 eτ hP hS hl
            subst ex2
            subst eτ
            refine lv_iload_n hx hb dX8_drought_28 rfl (lv_at hl 0 rfl) ?_
            refine lv_bipush (v := 99) hx hb dX8_drought_29 (by decide) ?_
            refine lv_icmp_gt (tgt := 63) hx hb dX8_drought_31 (by decide) (fun c31 => ?_) (fun c31 => ?_)
            · skip
              have ec : c = 100 := cl_gt (n := 99) hc (by omega) c31
              refine lv_iconst (v := (-1)) hx hb dX8_drought_63 (by decide) ?_
              exact hret hP hS dX8_drought_64 rfl ⟨(by rw [if_neg c1, if_pos c7, if_neg c20, ← hF, ec]; rfl), rfl⟩
            · skip
              have hc2 : c ≤ 99 := cl_ngt (n := 99) (by omega) (by omega) c31
              refine lv_aload_n hx hb dX8_drought_34 rfl (lv_at hl 1 rfl) ?_
              refine rp_get (C := RX8) (T := TX8) (N := 10) hx hb hts in_X8_drought_X8 hown hK hP 0 (by decide) (kX8 _) rfl 3 (by decide) (by decide +kernel) rfl dX8_drought_35 ?_
              refine rp_get (C := RX6) (T := TX6) (N := 10) hx hb hts in_X8_drought_X6 hown hK hP (29 + 4 * 0) (hX6 (i := 0) (by decide : 0 < 20)).1 (kX6 (i := 0) _) rfl 0 (by decide) (by decide +kernel) rfl dX8_drought_38 ?_
              refine lv_iload_n hx hb dX8_drought_41 rfl (lv_at hl 0 rfl) ?_
              refine lv_aload_n hx hb dX8_drought_42 rfl (lv_at hl 1 rfl) ?_
              refine rp_get (C := RX8) (T := TX8) (N := 10) hx hb hts in_X8_drought_X8 hown hK hP 0 (by decide) (kX8 _) rfl 1 (by decide) (by decide +kernel) rfl dX8_drought_43 ?_
              refine rp_get (C := RX7) (T := TX7) (N := 12) hx hb hts in_X8_drought_X7 hown hK hP y (hX7 hy).1 (kX7 hy _) rfl 2 (by decide) (by decide +kernel) rfl dX8_drought_46 ?_
              refine lv_imul hx hb dX8_drought_49 ?_
              refine lv_iadd hx hb dX8_drought_50 ?_
              refine lv_iload_n hx hb dX8_drought_51 rfl (lv_at hl 2 rfl) ?_
              refine lv_icmp_lt (tgt := 57) hx hb dX8_drought_52 (by decide) (fun c52 => ?_) (fun c52 => ?_)
              · skip
                refine lv_iinc (v := ((nI c) + 1)) (lv' := [(2, .int ((nI c) + 1)), (0, .ref (ad 0)), (1, .int v)]) hx hb dX8_drought_57 hl (k := 0) rfl rfl (by decide) rfl (fun ls hl => ?_)
                refine lv_goto (tgt := 28) hx hb dX8_drought_60 (by decide) ?_
                exact ih28 (c + 1) (by omega) (by rw [← hF, show 100 - c = (100 - (c + 1)) + 1 by omega, drX, if_pos c52]) (by omega) _ _ _ _ _ ((nI_1 c).symm) rfl hP hS (lv_sub hl [0, 1, 2] rfl)
              · skip
                refine lv_iload_n hx hb dX8_drought_55 rfl (lv_at hl 0 rfl) ?_
                exact hret hP hS dX8_drought_56 rfl ⟨(by rw [if_neg c1, if_pos c7, if_neg c20, ← hF, show 100 - c = (99 - c) + 1 by omega, drX, if_neg c52]), rfl⟩
        exact L28 ((100 - 0) + 1) 0 (by omega) rfl (Nat.lt_succ_self _) _ _ _ _ _ (by first | rfl | simp [*]) rfl hP hS (lv_sub hl [0, 1, 2] rfl)
      · skip
        refine lv_ldc (v := (-1000000003)) hx hb hown (hts (.constant RX8 198 (-1000000003)) (by decide +kernel)) dX8_drought_23 ?_
        exact hret hP hS dX8_drought_25 rfl ⟨(by rw [if_neg c1, if_pos c7, if_pos c20]), rfl⟩
    · skip
      refine lv_ldc (v := (-1000000002)) hx hb hown (hts (.constant RX8 71 (-1000000002)) (by decide +kernel)) dX8_drought_10 ?_
      exact hret hP hS dX8_drought_12 rfl ⟨(by rw [if_neg c1, if_neg c7]), rfl⟩

def R_X8_rainy (σ : Nat → Nat → Int32) (v : Int32) (w : Int32) : Int32 := (if v < 0 then (-1000000002) else (if 60 < v then (-1000000002) else (if w < 0 then (-1000000002) else (if w ≤ 100 then ((oddN w.toInt64 (v.toNatClampNeg))).toInt32 else (-1000000002)))))
set_option maxHeartbeats 1000000 in
set_option maxRecDepth 100000 in
theorem c_X8_rainy (l : Launch) (D : va_G) (cy : Nat → ClassId) (ad : Nat → Nat) (y z : Nat) (σ : Nat → Nat → Int32) (v : Int32) (w : Int32)  : MI l D (tysW cy) 109 ad (cfX ad cy y z) yX8_rainy wsX8_rainy ({ frames := 0, cells := 0, slots := 0, locals := 0 }) σ [.ref (ad 0), .int v, .int w] (fun v_ τ_ => (R_X8_rainy σ v w) = v_ ∧ σ = τ_) := by
  refine MI.go (cc := cX8_rainy) (maxL := 6) .int (by decide) rfl (Nat.le_of_ble_eq_true rfl) ?_
  intro p_ e_ s_ m_ args_ bl_ mt_ c_ A_ Q_ ls hx hb hml hown hts hK hA hD hP hS hl hret
  have hl : lv_has ls 6 [(0, .ref (ad 0)), (1, .int v), (2, .int w)] := hl
  refine lv_iload_n hx hb dX8_rainy_0 rfl (lv_at hl 1 rfl) ?_
  refine lv_if_lt (tgt := 20) hx hb dX8_rainy_1 (by decide) (fun c1 => ?_) (fun c1 => ?_)
  · skip
    refine lv_ldc (v := (-1000000002)) hx hb hown (hts (.constant RX8 71 (-1000000002)) (by decide +kernel)) dX8_rainy_20 ?_
    exact hret hP hS dX8_rainy_22 rfl ⟨(by unfold R_X8_rainy <;> rw [if_pos c1] <;> first | with_reducible rfl | (rw [nI_clamp (by omega), ec])), rfl⟩
  · skip
    refine lv_iload_n hx hb dX8_rainy_4 rfl (lv_at hl 1 rfl) ?_
    refine lv_bipush (v := 60) hx hb dX8_rainy_5 (by decide) ?_
    refine lv_icmp_gt (tgt := 20) hx hb dX8_rainy_7 (by decide) (fun c7 => ?_) (fun c7 => ?_)
    · skip
      refine lv_ldc (v := (-1000000002)) hx hb hown (hts (.constant RX8 71 (-1000000002)) (by decide +kernel)) dX8_rainy_20 ?_
      exact hret hP hS dX8_rainy_22 rfl ⟨(by unfold R_X8_rainy <;> rw [if_neg c1, if_pos c7] <;> first | with_reducible rfl | (rw [nI_clamp (by omega), ec])), rfl⟩
    · skip
      obtain ⟨jv, hjv, rfl⟩ := nI_rng3 (n := 60) (by omega) ⟨Int32.not_lt.mp c1, Int32.not_lt.mp c7⟩
      refine lv_iload_n hx hb dX8_rainy_10 rfl (lv_at hl 2 rfl) ?_
      refine lv_if_lt (tgt := 20) hx hb dX8_rainy_11 (by decide) (fun c11 => ?_) (fun c11 => ?_)
      · skip
        refine lv_ldc (v := (-1000000002)) hx hb hown (hts (.constant RX8 71 (-1000000002)) (by decide +kernel)) dX8_rainy_20 ?_
        exact hret hP hS dX8_rainy_22 rfl ⟨(by unfold R_X8_rainy <;> (try rw [nI_clamp (n := jv) (by omega)]) <;> rw [if_neg c1, if_neg c7, if_pos c11] <;> first | with_reducible rfl | (rw [nI_clamp (by omega), ec])), rfl⟩
      · skip
        refine lv_iload_n hx hb dX8_rainy_14 rfl (lv_at hl 2 rfl) ?_
        refine lv_bipush (v := 100) hx hb dX8_rainy_15 (by decide) ?_
        refine lv_icmp_le (tgt := 23) hx hb dX8_rainy_17 (by decide) (fun c17 => ?_) (fun c17 => ?_)
        · skip
          refine lv_ldc2 (v := 1000000000) hx hb hown (hts (.constantLong RX8 267 (1000000000)) (by decide +kernel)) dX8_rainy_23 ?_
          refine lv_lstore_n (lv' := [(3, .long 1000000000), (0, .ref (ad 0)), (1, .int (nI jv)), (2, .int w)]) hx hb dX8_rainy_26 rfl hl (by decide) rfl (fun ls hl => ?_)
          refine lv_iconst (v := 0) hx hb dX8_rainy_27 (by decide) ?_
          refine lv_istore (lv' := [(5, .int 0), (3, .long 1000000000), (0, .ref (ad 0)), (1, .int (nI jv)), (2, .int w)]) hx hb dX8_rainy_28 hl (by decide) rfl (fun ls hl => ?_)
          have L30 : ∀ (fu30 : Nat) (c : Nat), (c ≤ jv) → jv - c < fu30 → ∀ (x5 : Int32) (x3 : Int64) (τ : Nat → Nat → Int32) (H : Heap) (locs : List Loc) (ls : Array Slot), (nI c) = x5 → (oddN w.toInt64 c) = x3 → σ = τ → va_P D classes (rw_ 109 ad (cfX ad cy y z) τ) H → va_S A_ s_.heap H locs → lv_has ls 6 [(5, .int x5), (3, .long x3), (0, .ref (ad 0)), (1, .int (nI jv)), (2, .int w)] → W p_ l e_ ({ frames := 0, cells := 0, slots := 0, locals := 0 }) s_ m_ args_ bl_ mt_ c_ H locs 0 0 Q_ (F0 m_ 30 ls []) := by
            intro fu30
            induction fu30 with
            | zero => intro c hc hf; exact absurd hf (Nat.not_lt_zero _)
            | succ fu30 ih30 =>
              intro c hc hf30 x5 x3 τ H locs ls ex5 ex3 eτ hP hS hl
              subst ex5
              subst ex3
              subst eτ
              refine lv_iload hx hb dX8_rainy_30 (lv_at hl 0 rfl) ?_
              refine lv_iload_n hx hb dX8_rainy_32 rfl (lv_at hl 3 rfl) ?_
              refine lv_icmp_ge (tgt := 51) hx hb dX8_rainy_33 (by decide) (fun c33 => ?_) (fun c33 => ?_)
              · skip
                have ec := cl_ex hc (by omega) c33
                refine lv_lload_n hx hb dX8_rainy_51 rfl (lv_at hl 1 rfl) ?_
                refine lv_l2i (v := ((oddN w.toInt64 c)).toInt32) hx hb dX8_rainy_52 rfl ?_
                exact hret hP hS dX8_rainy_53 rfl ⟨(by unfold R_X8_rainy <;> (try rw [nI_clamp (n := jv) (by omega)]) <;> rw [if_neg c1, if_neg c7, if_neg c11, if_pos c17] <;> first | with_reducible rfl | (rw [ec]) | (rw [nI_clamp (by omega), ec])), rfl⟩
              · skip
                have hc2 := cl_in (by omega) (by omega) c33
                refine lv_lload_n hx hb dX8_rainy_36 rfl (lv_at hl 1 rfl) ?_
                refine lv_iload_n hx hb dX8_rainy_37 rfl (lv_at hl 4 rfl) ?_
                refine lv_i2l (v := (w).toInt64) hx hb dX8_rainy_38 rfl ?_
                refine lv_lmul hx hb dX8_rainy_39 ?_
                refine lv_ldc2 (v := 100) hx hb hown (hts (.constantLong RX8 269 (100)) (by decide +kernel)) dX8_rainy_40 ?_
                refine lv_ldiv hx hb dX8_rainy_43 (by first | decide | assumption) ?_
                refine lv_lstore_n (lv' := [(3, .long (((oddN w.toInt64 c) * (w).toInt64) / 100)), (5, .int (nI c)), (0, .ref (ad 0)), (1, .int (nI jv)), (2, .int w)]) hx hb dX8_rainy_44 rfl hl (by decide) rfl (fun ls hl => ?_)
                refine lv_iinc (v := ((nI c) + 1)) (lv' := [(5, .int ((nI c) + 1)), (3, .long (((oddN w.toInt64 c) * (w).toInt64) / 100)), (0, .ref (ad 0)), (1, .int (nI jv)), (2, .int w)]) hx hb dX8_rainy_45 hl (k := 1) rfl rfl (by decide) rfl (fun ls hl => ?_)
                refine lv_goto (tgt := 30) hx hb dX8_rainy_48 (by decide) ?_
                exact ih30 (c + 1) (by omega) (by omega) _ _ _ _ _ _ ((nI_1 c).symm) rfl rfl hP hS (lv_sub hl [0, 1, 2, 3, 4] rfl)
          exact L30 ((jv - 0) + 1) 0 (Nat.zero_le _) (Nat.lt_succ_self _) _ _ _ _ _ _ (by first | rfl | simp [*]) (by first | rfl | simp [*]) rfl hP hS (lv_sub hl [0, 1, 2, 3, 4] rfl)
        · skip
          refine lv_ldc (v := (-1000000002)) hx hb hown (hts (.constant RX8 71 (-1000000002)) (by decide +kernel)) dX8_rainy_20 ?_
          exact hret hP hS dX8_rainy_22 rfl ⟨(by unfold R_X8_rainy <;> (try rw [nI_clamp (n := jv) (by omega)]) <;> rw [if_neg c1, if_neg c7, if_neg c11, if_neg c17] <;> first | with_reducible rfl | (rw [nI_clamp (by omega), ec])), rfl⟩

def R_X8_night (σ : Nat → Nat → Int32) (y : Nat) (nx : Nat) (ct : Nat) (v : Int32) : Int32 := (if (R_X8_refusalOfNights σ y v) = 0 then ((itN (fun O => T_X6_passNight_O O (σ y 2)) (v.toNatClampNeg) (σ (29 + 4 * 0))) 0) else (R_X8_refusalOfNights σ y v))
def T_X8_night (σ : Nat → Nat → Int32) (y : Nat) (nx : Nat) (ct : Nat) (v : Int32) : Nat → Nat → Int32 := (if (R_X8_refusalOfNights σ y v) = 0 then va_up (va_up (va_up (va_up (va_up (va_up σ (29 + 4 * (2 + nx)) (T_X3_remember_O2 (σ (29 + 4 * (2 + nx))) (σ (29 + 4 * (2 + nx) + 1)) (σ (29 + 4 * (2 + nx) + 2)) (σ (29 + 4 * (2 + nx) + 3)) (σ 17) (σ (29 + 4 * 0)) (σ (29 + 4 * 0 + 1)) (σ (29 + 4 * 0 + 2)) (σ (29 + 4 * 0 + 3)) nx ct)) (29 + 4 * (2 + nx) + 1) (T_X3_remember_V2 (σ (29 + 4 * (2 + nx))) (σ (29 + 4 * (2 + nx) + 1)) (σ (29 + 4 * (2 + nx) + 2)) (σ (29 + 4 * (2 + nx) + 3)) (σ 17) (σ (29 + 4 * 0)) (σ (29 + 4 * 0 + 1)) (σ (29 + 4 * 0 + 2)) (σ (29 + 4 * 0 + 3)) nx ct)) (29 + 4 * (2 + nx) + 2) (T_X3_remember_P2 (σ (29 + 4 * (2 + nx))) (σ (29 + 4 * (2 + nx) + 1)) (σ (29 + 4 * (2 + nx) + 2)) (σ (29 + 4 * (2 + nx) + 3)) (σ 17) (σ (29 + 4 * 0)) (σ (29 + 4 * 0 + 1)) (σ (29 + 4 * 0 + 2)) (σ (29 + 4 * 0 + 3)) nx ct)) (29 + 4 * (2 + nx) + 3) (T_X3_remember_S2 (σ (29 + 4 * (2 + nx))) (σ (29 + 4 * (2 + nx) + 1)) (σ (29 + 4 * (2 + nx) + 2)) (σ (29 + 4 * (2 + nx) + 3)) (σ 17) (σ (29 + 4 * 0)) (σ (29 + 4 * 0 + 1)) (σ (29 + 4 * 0 + 2)) (σ (29 + 4 * 0 + 3)) nx ct)) 17 (T_X3_remember_PA (σ (29 + 4 * (2 + nx))) (σ (29 + 4 * (2 + nx) + 1)) (σ (29 + 4 * (2 + nx) + 2)) (σ (29 + 4 * (2 + nx) + 3)) (σ 17) (σ (29 + 4 * 0)) (σ (29 + 4 * 0 + 1)) (σ (29 + 4 * 0 + 2)) (σ (29 + 4 * 0 + 3)) nx ct)) (29 + 4 * 0) (itN (fun O => T_X6_passNight_O O (σ y 2)) (v.toNatClampNeg) (σ (29 + 4 * 0))) else σ)
theorem in_X8_night_X6 : ∀ w ∈ u_ws RX6 TX6 10, w ∈ wsX8_night := by decide +kernel
theorem in_X8_night_X7 : ∀ w ∈ u_ws RX7 TX7 12, w ∈ wsX8_night := by decide +kernel
theorem in_X8_night_X8 : ∀ w ∈ u_ws RX8 TX8 10, w ∈ wsX8_night := by decide +kernel
set_option maxHeartbeats 1000000 in
set_option maxRecDepth 100000 in
theorem c_X8_night (l : Launch) (D : va_G) (cy : Nat → ClassId) (ad : Nat → Nat) (y z : Nat) (σ : Nat → Nat → Int32) (nx : Nat) (ct : Nat) (v : Int32) (hy : y = 3 ∨ y = 10) (hnx : nx < 16) (enx : σ 17 1 = nI nx) (hct : ct ≤ 16) (ect : σ 17 2 = nI ct) : MI l D (tysW cy) 109 ad (cfX ad cy y z) yX8_night wsX8_night ({ frames := 3, cells := 0, slots := 0, locals := 83 }) σ [.ref (ad 0), .int v] (fun v_ τ_ => (R_X8_night σ y nx ct v) = v_ ∧ (T_X8_night σ y nx ct v) = τ_) := by
  refine MI.go (cc := cX8_night) (maxL := 4) .int (by decide) rfl (Nat.le_of_ble_eq_true rfl) ?_
  intro p_ e_ s_ m_ args_ bl_ mt_ c_ A_ Q_ ls hx hb hml hown hts hK hA hD hP hS hl hret
  have hl : lv_has ls 4 [(0, .ref (ad 0)), (1, .int v)] := hl
  refine lv_aload_n hx hb dX8_night_0 rfl (lv_at hl 0 rfl) ?_
  refine lv_iload_n hx hb dX8_night_1 rfl (lv_at hl 1 rfl) ?_
  refine rp_callVI (na := 1) hx hb hml hown hts hK hA hD hP hS hl.1 0 (by decide) (kX8 _) rfl [.int v] (c_X8_refusalOfNights l D cy ad y z σ v (by first | assumption | omega)) gX8_night_X8_refusalOfNights rfl (by decide +kernel) rfl ⟨Nat.le_of_ble_eq_true rfl, Nat.le_of_ble_eq_true rfl⟩ ⟨rfl, rfl⟩ ⟨Nat.zero_le _, Nat.zero_le _⟩ rfl (Nat.le_of_ble_eq_true rfl) dX8_night_2 (fun v_ τ_ H locs hq hP hS => ?_)
  obtain ⟨rfl, rfl⟩ := hq
  refine lv_istore_n (lv' := [(2, .int (R_X8_refusalOfNights σ y v)), (0, .ref (ad 0)), (1, .int v)]) hx hb dX8_night_5 rfl hl (by decide) rfl (fun ls hl => ?_)
  refine lv_iload_n hx hb dX8_night_6 rfl (lv_at hl 0 rfl) ?_
  refine lv_if_eq (tgt := 12) hx hb dX8_night_7 (by decide) (fun c7 => ?_) (fun c7 => ?_)
  · skip
    have cNR := rfX c7
    obtain ⟨jv, hjv, rfl⟩ := nI_60x cNR
    refine lv_aload_n hx hb dX8_night_12 rfl (lv_at hl 1 rfl) ?_
    refine rp_get (C := RX8) (T := TX8) (N := 10) hx hb hts in_X8_night_X8 hown hK hP 0 (by decide) (kX8 _) rfl 5 (by decide) (by decide +kernel) rfl dX8_night_13 ?_
    refine lv_aload_n hx hb dX8_night_16 rfl (lv_at hl 1 rfl) ?_
    refine rp_get (C := RX8) (T := TX8) (N := 10) hx hb hts in_X8_night_X8 hown hK hP 0 (by decide) (kX8 _) rfl 3 (by decide) (by decide +kernel) rfl dX8_night_17 ?_
    refine rp_callVV (na := 1) hx hb hml hown hts hK hA hD hP hS hl.1 17 (by decide) (kX3 _) rfl [.ref (ad (29 + 4 * 0))] (c_X3_remember l D cy ad y z σ (σ (29 + 4 * (2 + nx))) (σ (29 + 4 * (2 + nx) + 1)) (σ (29 + 4 * (2 + nx) + 2)) (σ (29 + 4 * (2 + nx) + 3)) (σ 17) (σ (29 + 4 * 0)) (σ (29 + 4 * 0 + 1)) (σ (29 + 4 * 0 + 2)) (σ (29 + 4 * 0 + 3)) 0 nx ct rfl rfl rfl rfl rfl rfl rfl rfl rfl (by decide : 0 < 20) (by first | assumption | omega) (by first | assumption | omega) (by first | assumption | omega) (by first | assumption | omega) (by first | assumption | omega)) gX8_night_X3_remember rfl (by decide +kernel) rfl ⟨Nat.le_of_ble_eq_true rfl, Nat.le_of_ble_eq_true rfl⟩ ⟨rfl, rfl⟩ ⟨Nat.zero_le _, Nat.zero_le _⟩ rfl (Nat.le_of_ble_eq_true rfl) dX8_night_20 (fun τ_ H locs hq hP hS => ?_)
    subst hq
    refine lv_iconst (v := 0) hx hb dX8_night_23 (by decide) ?_
    refine lv_istore_n (lv' := [(3, .int 0), (2, .int (R_X8_refusalOfNights σ y (nI jv))), (0, .ref (ad 0)), (1, .int (nI jv))]) hx hb dX8_night_24 rfl hl (by decide) rfl (fun ls hl => ?_)
    have L25 : ∀ (fu25 : Nat) (c : Nat), (c ≤ jv) → jv - c < fu25 → ∀ (x3 : Int32) (τ : Nat → Nat → Int32) (H : Heap) (locs : List Loc) (ls : Array Slot), (nI c) = x3 → (va_up (va_up (va_up (va_up (va_up (va_up σ (29 + 4 * (2 + nx)) (T_X3_remember_O2 (σ (29 + 4 * (2 + nx))) (σ (29 + 4 * (2 + nx) + 1)) (σ (29 + 4 * (2 + nx) + 2)) (σ (29 + 4 * (2 + nx) + 3)) (σ 17) (σ (29 + 4 * 0)) (σ (29 + 4 * 0 + 1)) (σ (29 + 4 * 0 + 2)) (σ (29 + 4 * 0 + 3)) nx ct)) (29 + 4 * (2 + nx) + 1) (T_X3_remember_V2 (σ (29 + 4 * (2 + nx))) (σ (29 + 4 * (2 + nx) + 1)) (σ (29 + 4 * (2 + nx) + 2)) (σ (29 + 4 * (2 + nx) + 3)) (σ 17) (σ (29 + 4 * 0)) (σ (29 + 4 * 0 + 1)) (σ (29 + 4 * 0 + 2)) (σ (29 + 4 * 0 + 3)) nx ct)) (29 + 4 * (2 + nx) + 2) (T_X3_remember_P2 (σ (29 + 4 * (2 + nx))) (σ (29 + 4 * (2 + nx) + 1)) (σ (29 + 4 * (2 + nx) + 2)) (σ (29 + 4 * (2 + nx) + 3)) (σ 17) (σ (29 + 4 * 0)) (σ (29 + 4 * 0 + 1)) (σ (29 + 4 * 0 + 2)) (σ (29 + 4 * 0 + 3)) nx ct)) (29 + 4 * (2 + nx) + 3) (T_X3_remember_S2 (σ (29 + 4 * (2 + nx))) (σ (29 + 4 * (2 + nx) + 1)) (σ (29 + 4 * (2 + nx) + 2)) (σ (29 + 4 * (2 + nx) + 3)) (σ 17) (σ (29 + 4 * 0)) (σ (29 + 4 * 0 + 1)) (σ (29 + 4 * 0 + 2)) (σ (29 + 4 * 0 + 3)) nx ct)) 17 (T_X3_remember_PA (σ (29 + 4 * (2 + nx))) (σ (29 + 4 * (2 + nx) + 1)) (σ (29 + 4 * (2 + nx) + 2)) (σ (29 + 4 * (2 + nx) + 3)) (σ 17) (σ (29 + 4 * 0)) (σ (29 + 4 * 0 + 1)) (σ (29 + 4 * 0 + 2)) (σ (29 + 4 * 0 + 3)) nx ct)) (29 + 4 * 0) (itN (fun O => T_X6_passNight_O O (σ y 2)) c (σ (29 + 4 * 0)))) = τ → va_P D classes (rw_ 109 ad (cfX ad cy y z) τ) H → va_S A_ s_.heap H locs → lv_has ls 4 [(3, .int x3), (2, .int (R_X8_refusalOfNights σ y (nI jv))), (0, .ref (ad 0)), (1, .int (nI jv))] → W p_ l e_ ({ frames := 3, cells := 0, slots := 0, locals := 83 }) s_ m_ args_ bl_ mt_ c_ H locs 0 0 Q_ (F0 m_ 25 ls []) := by
      intro fu25
      induction fu25 with
      | zero => intro c hc hf; exact absurd hf (Nat.not_lt_zero _)
      | succ fu25 ih25 =>
        intro c hc hf25 x3 τ H locs ls ex3 eτ hP hS hl
        subst ex3
        subst eτ
        refine lv_iload_n hx hb dX8_night_25 rfl (lv_at hl 0 rfl) ?_
        refine lv_iload_n hx hb dX8_night_26 rfl (lv_at hl 3 rfl) ?_
        refine lv_icmp_ge (tgt := 50) hx hb dX8_night_27 (by decide) (fun c27 => ?_) (fun c27 => ?_)
        · skip
          have ec := cl_ex hc (by omega) c27
          refine lv_aload_n hx hb dX8_night_50 rfl (lv_at hl 2 rfl) ?_
          refine rp_get (C := RX8) (T := TX8) (N := 10) hx hb hts in_X8_night_X8 hown hK hP 0 (by decide) (kX8 _) rfl 3 (by decide) (by decide +kernel) rfl dX8_night_51 ?_
          refine rp_get (C := RX6) (T := TX6) (N := 10) hx hb hts in_X8_night_X6 hown hK hP (29 + 4 * 0) (hX6 (i := 0) (by decide : 0 < 20)).1 (kX6 (i := 0) _) rfl 0 (by decide) (by decide +kernel) rfl dX8_night_54 ?_
          rw [show (va_up (va_up (va_up (va_up (va_up (va_up σ (29 + 4 * (2 + nx)) (T_X3_remember_O2 (σ (29 + 4 * (2 + nx))) (σ (29 + 4 * (2 + nx) + 1)) (σ (29 + 4 * (2 + nx) + 2)) (σ (29 + 4 * (2 + nx) + 3)) (σ 17) (σ (29 + 4 * 0)) (σ (29 + 4 * 0 + 1)) (σ (29 + 4 * 0 + 2)) (σ (29 + 4 * 0 + 3)) nx ct)) (29 + 4 * (2 + nx) + 1) (T_X3_remember_V2 (σ (29 + 4 * (2 + nx))) (σ (29 + 4 * (2 + nx) + 1)) (σ (29 + 4 * (2 + nx) + 2)) (σ (29 + 4 * (2 + nx) + 3)) (σ 17) (σ (29 + 4 * 0)) (σ (29 + 4 * 0 + 1)) (σ (29 + 4 * 0 + 2)) (σ (29 + 4 * 0 + 3)) nx ct)) (29 + 4 * (2 + nx) + 2) (T_X3_remember_P2 (σ (29 + 4 * (2 + nx))) (σ (29 + 4 * (2 + nx) + 1)) (σ (29 + 4 * (2 + nx) + 2)) (σ (29 + 4 * (2 + nx) + 3)) (σ 17) (σ (29 + 4 * 0)) (σ (29 + 4 * 0 + 1)) (σ (29 + 4 * 0 + 2)) (σ (29 + 4 * 0 + 3)) nx ct)) (29 + 4 * (2 + nx) + 3) (T_X3_remember_S2 (σ (29 + 4 * (2 + nx))) (σ (29 + 4 * (2 + nx) + 1)) (σ (29 + 4 * (2 + nx) + 2)) (σ (29 + 4 * (2 + nx) + 3)) (σ 17) (σ (29 + 4 * 0)) (σ (29 + 4 * 0 + 1)) (σ (29 + 4 * 0 + 2)) (σ (29 + 4 * 0 + 3)) nx ct)) 17 (T_X3_remember_PA (σ (29 + 4 * (2 + nx))) (σ (29 + 4 * (2 + nx) + 1)) (σ (29 + 4 * (2 + nx) + 2)) (σ (29 + 4 * (2 + nx) + 3)) (σ 17) (σ (29 + 4 * 0)) (σ (29 + 4 * 0 + 1)) (σ (29 + 4 * 0 + 2)) (σ (29 + 4 * 0 + 3)) nx ct)) (29 + 4 * 0) (itN (fun O => T_X6_passNight_O O (σ y 2)) c (σ (29 + 4 * 0)))) (29 + 4 * 0) 0 = ((itN (fun O => T_X6_passNight_O O (σ y 2)) c (σ (29 + 4 * 0))) 0) from va_S']
          exact hret hP hS dX8_night_57 rfl ⟨(by unfold R_X8_night <;> (try rw [nI_clamp (n := jv) (by omega)]) <;> rw [if_pos c7] <;> first | with_reducible rfl | (rw [ec]) | (rw [nI_clamp (by omega), ec])), (by unfold T_X8_night <;> (try rw [nI_clamp (n := jv) (by omega)]) <;> rw [if_pos c7] <;> first | with_reducible rfl | (rw [ec]) | (rw [nI_clamp (by omega), ec]))⟩
        · skip
          have hc2 := cl_in (by omega) (by omega) c27
          refine lv_aload_n hx hb dX8_night_30 rfl (lv_at hl 2 rfl) ?_
          refine rp_get (C := RX8) (T := TX8) (N := 10) hx hb hts in_X8_night_X8 hown hK hP 0 (by decide) (kX8 _) rfl 3 (by decide) (by decide +kernel) rfl dX8_night_31 ?_
          refine lv_aload_n hx hb dX8_night_34 rfl (lv_at hl 2 rfl) ?_
          refine rp_get (C := RX8) (T := TX8) (N := 10) hx hb hts in_X8_night_X8 hown hK hP 0 (by decide) (kX8 _) rfl 1 (by decide) (by decide +kernel) rfl dX8_night_35 ?_
          refine rp_get (C := RX7) (T := TX7) (N := 12) hx hb hts in_X8_night_X7 hown hK hP y (hX7 hy).1 (kX7 hy _) rfl 2 (by decide) (by decide +kernel) rfl dX8_night_38 ?_
          rw [show (va_up (va_up (va_up (va_up (va_up (va_up σ (29 + 4 * (2 + nx)) (T_X3_remember_O2 (σ (29 + 4 * (2 + nx))) (σ (29 + 4 * (2 + nx) + 1)) (σ (29 + 4 * (2 + nx) + 2)) (σ (29 + 4 * (2 + nx) + 3)) (σ 17) (σ (29 + 4 * 0)) (σ (29 + 4 * 0 + 1)) (σ (29 + 4 * 0 + 2)) (σ (29 + 4 * 0 + 3)) nx ct)) (29 + 4 * (2 + nx) + 1) (T_X3_remember_V2 (σ (29 + 4 * (2 + nx))) (σ (29 + 4 * (2 + nx) + 1)) (σ (29 + 4 * (2 + nx) + 2)) (σ (29 + 4 * (2 + nx) + 3)) (σ 17) (σ (29 + 4 * 0)) (σ (29 + 4 * 0 + 1)) (σ (29 + 4 * 0 + 2)) (σ (29 + 4 * 0 + 3)) nx ct)) (29 + 4 * (2 + nx) + 2) (T_X3_remember_P2 (σ (29 + 4 * (2 + nx))) (σ (29 + 4 * (2 + nx) + 1)) (σ (29 + 4 * (2 + nx) + 2)) (σ (29 + 4 * (2 + nx) + 3)) (σ 17) (σ (29 + 4 * 0)) (σ (29 + 4 * 0 + 1)) (σ (29 + 4 * 0 + 2)) (σ (29 + 4 * 0 + 3)) nx ct)) (29 + 4 * (2 + nx) + 3) (T_X3_remember_S2 (σ (29 + 4 * (2 + nx))) (σ (29 + 4 * (2 + nx) + 1)) (σ (29 + 4 * (2 + nx) + 2)) (σ (29 + 4 * (2 + nx) + 3)) (σ 17) (σ (29 + 4 * 0)) (σ (29 + 4 * 0 + 1)) (σ (29 + 4 * 0 + 2)) (σ (29 + 4 * 0 + 3)) nx ct)) 17 (T_X3_remember_PA (σ (29 + 4 * (2 + nx))) (σ (29 + 4 * (2 + nx) + 1)) (σ (29 + 4 * (2 + nx) + 2)) (σ (29 + 4 * (2 + nx) + 3)) (σ 17) (σ (29 + 4 * 0)) (σ (29 + 4 * 0 + 1)) (σ (29 + 4 * 0 + 2)) (σ (29 + 4 * 0 + 3)) nx ct)) (29 + 4 * 0) (itN (fun O => T_X6_passNight_O O (σ y 2)) c (σ (29 + 4 * 0)))) y 2 = (σ y 2) from ((va_R (by omega)).trans ((va_R (by omega)).trans ((va_R (by omega)).trans ((va_R (by omega)).trans ((va_R (by omega)).trans (va_R (by omega)))))))]
          refine rp_callVV (na := 1) hx hb hml hown hts hK hA hD hP hS hl.1 (29 + 4 * 0) (hX6 (i := 0) (by decide : 0 < 20)).1 (kX6 (i := 0) _) rfl [.int (σ y 2)] (c_X6_passNight l D cy ad y z (va_up (va_up (va_up (va_up (va_up (va_up σ (29 + 4 * (2 + nx)) (T_X3_remember_O2 (σ (29 + 4 * (2 + nx))) (σ (29 + 4 * (2 + nx) + 1)) (σ (29 + 4 * (2 + nx) + 2)) (σ (29 + 4 * (2 + nx) + 3)) (σ 17) (σ (29 + 4 * 0)) (σ (29 + 4 * 0 + 1)) (σ (29 + 4 * 0 + 2)) (σ (29 + 4 * 0 + 3)) nx ct)) (29 + 4 * (2 + nx) + 1) (T_X3_remember_V2 (σ (29 + 4 * (2 + nx))) (σ (29 + 4 * (2 + nx) + 1)) (σ (29 + 4 * (2 + nx) + 2)) (σ (29 + 4 * (2 + nx) + 3)) (σ 17) (σ (29 + 4 * 0)) (σ (29 + 4 * 0 + 1)) (σ (29 + 4 * 0 + 2)) (σ (29 + 4 * 0 + 3)) nx ct)) (29 + 4 * (2 + nx) + 2) (T_X3_remember_P2 (σ (29 + 4 * (2 + nx))) (σ (29 + 4 * (2 + nx) + 1)) (σ (29 + 4 * (2 + nx) + 2)) (σ (29 + 4 * (2 + nx) + 3)) (σ 17) (σ (29 + 4 * 0)) (σ (29 + 4 * 0 + 1)) (σ (29 + 4 * 0 + 2)) (σ (29 + 4 * 0 + 3)) nx ct)) (29 + 4 * (2 + nx) + 3) (T_X3_remember_S2 (σ (29 + 4 * (2 + nx))) (σ (29 + 4 * (2 + nx) + 1)) (σ (29 + 4 * (2 + nx) + 2)) (σ (29 + 4 * (2 + nx) + 3)) (σ 17) (σ (29 + 4 * 0)) (σ (29 + 4 * 0 + 1)) (σ (29 + 4 * 0 + 2)) (σ (29 + 4 * 0 + 3)) nx ct)) 17 (T_X3_remember_PA (σ (29 + 4 * (2 + nx))) (σ (29 + 4 * (2 + nx) + 1)) (σ (29 + 4 * (2 + nx) + 2)) (σ (29 + 4 * (2 + nx) + 3)) (σ 17) (σ (29 + 4 * 0)) (σ (29 + 4 * 0 + 1)) (σ (29 + 4 * 0 + 2)) (σ (29 + 4 * 0 + 3)) nx ct)) (29 + 4 * 0) (itN (fun O => T_X6_passNight_O O (σ y 2)) c (σ (29 + 4 * 0)))) (itN (fun O => T_X6_passNight_O O (σ y 2)) c (σ (29 + 4 * 0))) 0 (σ y 2) va_Qs (by decide : 0 < 20)) gX8_night_X6_passNight rfl (by decide +kernel) rfl ⟨Nat.le_of_ble_eq_true rfl, Nat.le_of_ble_eq_true rfl⟩ ⟨rfl, rfl⟩ ⟨Nat.zero_le _, Nat.zero_le _⟩ rfl (Nat.le_of_ble_eq_true rfl) dX8_night_41 (fun τ_ H locs hq hP hS => ?_)
          subst hq
          refine lv_iinc (v := ((nI c) + 1)) (lv' := [(3, .int ((nI c) + 1)), (2, .int (R_X8_refusalOfNights σ y (nI jv))), (0, .ref (ad 0)), (1, .int (nI jv))]) hx hb dX8_night_44 hl (k := 0) rfl rfl (by decide) rfl (fun ls hl => ?_)
          refine lv_goto (tgt := 25) hx hb dX8_night_47 (by decide) ?_
          exact ih25 (c + 1) (by omega) (by omega) _ _ _ _ _ ((nI_1 c).symm) (by rw [bx_uu]; rfl) hP hS (lv_sub hl [0, 1, 2, 3] rfl)
    exact L25 ((jv - 0) + 1) 0 (Nat.zero_le _) (Nat.lt_succ_self _) _ _ _ _ _ (by first | rfl | simp [*]) (va_selfR _ _ ((va_Q (by omega)).trans ((va_Q (by omega)).trans ((va_Q (by omega)).trans ((va_Q (by omega)).trans (va_Q (by omega))))))) hP hS (lv_sub hl [0, 1, 2, 3] rfl)
  · skip
    refine lv_iload_n hx hb dX8_night_10 rfl (lv_at hl 0 rfl) ?_
    exact hret hP hS dX8_night_11 rfl ⟨(by unfold R_X8_night <;> rw [if_neg c7] <;> first | with_reducible rfl | (rw [nI_clamp (by omega), ec])), (by unfold T_X8_night <;> rw [if_neg c7] <;> first | with_reducible rfl | (rw [nI_clamp (by omega), ec]))⟩
