theorem in_X4_readNumber_X4 : ∀ w ∈ u_ws RX4 TX4 6, w ∈ wsX4_readNumber := by decide +kernel
set_option maxHeartbeats 1000000 in
set_option maxRecDepth 100000 in
theorem c_X4_readNumber (l : Launch) (D : va_G) (cy : Nat → ClassId) (ad : Nat → Nat) (y z : Nat) (σ : Nat → Nat → Int32) (tx : Nat → Int32) (len : Nat) (a : Nat) (K : Int32) (P : Int32) (na : Int32) (lo : Int32) (hi : Int32) (r_tx : σ 2 = tx) (hlen : len ≤ 240) (elen : σ 1 1 = nI len) (ha : a ≤ len) (ea : σ 1 4 = nI a) (eK : σ 1 3 = K) (eP : σ 1 2 = P) (ena : σ 1 5 = na) : MI l D (tysW cy) 109 ad (cfX ad cy y z) yX4_readNumber wsX4_readNumber ({ frames := 2, cells := 0, slots := 0, locals := 41 }) σ [.ref (ad 1), .int lo, .int hi] (fun v_ τ_ => (rnV tx len a K lo hi) = v_ ∧ (up2 (up2 (up2 (up2 σ 1 4 (nI (rnA tx len a K))) 1 5 (rnN tx len a K na)) 1 3 (rnK tx len a K lo hi)) 1 2 (rnP tx len a K P lo hi)) = τ_) := by
  refine MI.go (cc := cX4_readNumber) (maxL := 5) .int (by decide) rfl (Nat.le_of_ble_eq_true rfl) ?_
  intro p_ e_ s_ m_ args_ bl_ mt_ c_ A_ Q_ ls hx hb hml hown hts hK hA hD hP hS hl hret
  have hl : lv_has ls 5 [(0, .ref (ad 1)), (1, .int lo), (2, .int hi)] := hl
  subst r_tx
  have hsk := skB_le (tx := σ 2) ha
  have hed := edD_le (tx := σ 2) hsk.2
  have hP : va_P D classes (rw_ 109 ad (cfX ad cy y z) (va_up σ 1 (σ 1))) s_.heap := by rw [va_selfR _ 1 (rfl)]; exact hP
  refine lv_aload_n hx hb dX4_readNumber_0 rfl (lv_at hl 0 rfl) ?_
  refine rp_get (C := RX4) (T := TX4) (N := 6) hx hb hts in_X4_readNumber_X4 hown hK hP 1 (by decide) (kX4 _) rfl 3 (by decide) (by decide +kernel) rfl dX4_readNumber_1 ?_
  rw [show (va_up σ 1 (σ 1)) 1 3 = (σ 1 3) from va_S']
  rw [eK]
  refine lv_if_eq (tgt := 9) hx hb dX4_readNumber_4 (by decide) (fun c4 => ?_) (fun c4 => ?_)
  · skip
    refine lv_aload_n hx hb dX4_readNumber_9 rfl (lv_at hl 0 rfl) ?_
    refine rp_callVV (na := 0) hx hb hml hown hts hK hA hD hP hS hl.1 1 (by decide) (kX4 _) rfl [] (c_X4_skipBlanks l D cy ad y z (va_up σ 1 (σ 1)) (σ 2) len a (va_Q (by decide)) (by first | assumption | omega) (va_S'.trans elen) (by first | assumption | omega) (va_S'.trans ea)) gX4_readNumber_X4_skipBlanks rfl (by decide +kernel) rfl ⟨Nat.le_of_ble_eq_true rfl, Nat.le_of_ble_eq_true rfl⟩ ⟨rfl, rfl⟩ ⟨Nat.zero_le _, Nat.zero_le _⟩ rfl (Nat.le_of_ble_eq_true rfl) dX4_readNumber_10 (fun τ_ H locs hq hP hS => ?_)
    subst hq
    rw [show up2 (va_up σ 1 (σ 1)) 1 4 (nI (skB (σ 2) len a)) = va_up σ 1 (upd (σ 1) 4 (nI (skB (σ 2) len a))) from (vu_up _ _ _ _ _)] at hP
    refine lv_aload_n hx hb dX4_readNumber_13 rfl (lv_at hl 0 rfl) ?_
    refine lv_aload_n hx hb dX4_readNumber_14 rfl (lv_at hl 0 rfl) ?_
    refine rp_get (C := RX4) (T := TX4) (N := 6) hx hb hts in_X4_readNumber_X4 hown hK hP 1 (by decide) (kX4 _) rfl 4 (by decide) (by decide +kernel) rfl dX4_readNumber_15 ?_
    rw [show (va_up σ 1 (upd (σ 1) 4 (nI (skB (σ 2) len a)))) 1 4 = (nI (skB (σ 2) len a)) from (va_S'.trans pk_us)]
    refine rp_put (C := RX4) (T := TX4) (N := 6) (v := (nI (skB (σ 2) len a))) hx hb hts in_X4_readNumber_X4 tyX4 tyX4_ok nmX4 hown hK hP hD hS 1 (by decide) (kX4 _) rfl 5 (by decide) (by decide +kernel) rfl rfl rfl (Nat.le_of_ble_eq_true rfl) (kX4 _) dX4_readNumber_18 (fun H locs hP hS => ?_)
    rw [show up2 (va_up σ 1 (upd (σ 1) 4 (nI (skB (σ 2) len a)))) 1 5 (nI (skB (σ 2) len a)) = va_up σ 1 (upd (upd (σ 1) 4 (nI (skB (σ 2) len a))) 5 (nI (skB (σ 2) len a))) from (vu_up _ _ _ _ _)] at hP
    refine lv_iconst (v := 0) hx hb dX4_readNumber_21 (by decide) ?_
    refine lv_istore_n (lv' := [(3, .int 0), (0, .ref (ad 1)), (1, .int lo), (2, .int hi)]) hx hb dX4_readNumber_22 rfl hl (by decide) rfl (fun ls hl => ?_)
    have L23 : ∀ (fu23 : Nat) (d : Nat), ((skB (σ 2) len a) + d ≤ len) → (edD (σ 2) len ((skB (σ 2) len a) + d) = (edD (σ 2) len (skB (σ 2) len a))) → len - ((skB (σ 2) len a) + d) < fu23 → ∀ (x3 : Int32) (τ : Nat → Nat → Int32) (H : Heap) (locs : List Loc) (ls : Array Slot), (vX (σ 2) (skB (σ 2) len a) d) = x3 → (va_up σ 1 (upd (upd (σ 1) 5 (nI (skB (σ 2) len a))) 4 (nI ((skB (σ 2) len a) + d)))) = τ → va_P D classes (rw_ 109 ad (cfX ad cy y z) τ) H → va_S A_ s_.heap H locs → lv_has ls 5 [(3, .int x3), (0, .ref (ad 1)), (1, .int lo), (2, .int hi)] → W p_ l e_ ({ frames := 2, cells := 0, slots := 0, locals := 41 }) s_ m_ args_ bl_ mt_ c_ H locs 0 0 Q_ (F0 m_ 23 ls []) := by
      intro fu23
      induction fu23 with
      | zero => intro d hd hF hf; exact absurd hf (Nat.not_lt_zero _)
      | succ fu23 ih23 =>
        intro d hd hF hf23 x3 τ H locs ls ex3 eτ hP hS hl
        subst ex3
        subst eτ
        refine lv_aload_n hx hb dX4_readNumber_23 rfl (lv_at hl 1 rfl) ?_
        refine rp_get (C := RX4) (T := TX4) (N := 6) hx hb hts in_X4_readNumber_X4 hown hK hP 1 (by decide) (kX4 _) rfl 4 (by decide) (by decide +kernel) rfl dX4_readNumber_24 ?_
        rw [show (va_up σ 1 (upd (upd (σ 1) 5 (nI (skB (σ 2) len a))) 4 (nI ((skB (σ 2) len a) + d)))) 1 4 = (nI ((skB (σ 2) len a) + d)) from (va_S'.trans pk_us)]
        refine lv_aload_n hx hb dX4_readNumber_27 rfl (lv_at hl 1 rfl) ?_
        refine rp_get (C := RX4) (T := TX4) (N := 6) hx hb hts in_X4_readNumber_X4 hown hK hP 1 (by decide) (kX4 _) rfl 1 (by decide) (by decide +kernel) rfl dX4_readNumber_28 ?_
        rw [show (va_up σ 1 (upd (upd (σ 1) 5 (nI (skB (σ 2) len a))) 4 (nI ((skB (σ 2) len a) + d)))) 1 1 = (σ 1 1) from (va_S'.trans ((pk_un (by decide)).trans (pk_un (by decide))))]
        rw [elen]
        refine lv_icmp_ge (tgt := 91) hx hb dX4_readNumber_31 (by decide) (fun c31 => ?_) (fun c31 => ?_)
        · skip
          have hd2 : len ≤ (skB (σ 2) len a) + d := (nI_leI (by omega) (by omega)).mp c31
          have ed : d = ((edD (σ 2) len (skB (σ 2) len a)) - (skB (σ 2) len a)) := by rw [← hF, edD_f (fun q => absurd q.1 (by omega))]; omega
          refine lv_aload_n hx hb dX4_readNumber_91 rfl (lv_at hl 1 rfl) ?_
          refine rp_get (C := RX4) (T := TX4) (N := 6) hx hb hts in_X4_readNumber_X4 hown hK hP 1 (by decide) (kX4 _) rfl 4 (by decide) (by decide +kernel) rfl dX4_readNumber_92 ?_
          rw [show (va_up σ 1 (upd (upd (σ 1) 5 (nI (skB (σ 2) len a))) 4 (nI ((skB (σ 2) len a) + d)))) 1 4 = (nI ((skB (σ 2) len a) + d)) from (va_S'.trans pk_us)]
          refine lv_aload_n hx hb dX4_readNumber_95 rfl (lv_at hl 1 rfl) ?_
          refine rp_get (C := RX4) (T := TX4) (N := 6) hx hb hts in_X4_readNumber_X4 hown hK hP 1 (by decide) (kX4 _) rfl 5 (by decide) (by decide +kernel) rfl dX4_readNumber_96 ?_
          rw [show (va_up σ 1 (upd (upd (σ 1) 5 (nI (skB (σ 2) len a))) 4 (nI ((skB (σ 2) len a) + d)))) 1 5 = (nI (skB (σ 2) len a)) from (va_S'.trans ((pk_un (by decide)).trans pk_us))]
          refine lv_isub hx hb dX4_readNumber_99 ?_
          rw [nI_sba]
          refine lv_istore (lv' := [(4, .int (nI d)), (3, .int (vX (σ 2) (skB (σ 2) len a) d)), (0, .ref (ad 1)), (1, .int lo), (2, .int hi)]) hx hb dX4_readNumber_100 hl (by decide) rfl (fun ls hl => ?_)
          refine lv_iload hx hb dX4_readNumber_102 (lv_at hl 0 rfl) ?_
          refine lv_if_ne (tgt := 119) hx hb dX4_readNumber_104 (by decide) (fun c104 => ?_) (fun c104 => ?_)
          · skip
            have hd0 : d ≠ 0 := fun q => c104 (by rw [q]; rfl)
            refine lv_iload hx hb dX4_readNumber_119 (lv_at hl 0 rfl) ?_
            refine lv_iconst (v := 3) hx hb dX4_readNumber_121 (by decide) ?_
            refine lv_icmp_gt (tgt := 135) hx hb dX4_readNumber_122 (by decide) (fun c122 => ?_) (fun c122 => ?_)
            · skip
              have h4 : 3 < d := (nI_ltI (a := 3) (by decide) (by omega)).mp c122
              refine lv_aload_n hx hb dX4_readNumber_135 rfl (lv_at hl 2 rfl) ?_
              refine lv_iconst (v := 2) hx hb dX4_readNumber_136 (by decide) ?_
              refine lv_aload_n hx hb dX4_readNumber_137 rfl (lv_at hl 2 rfl) ?_
              refine rp_get (C := RX4) (T := TX4) (N := 6) hx hb hts in_X4_readNumber_X4 hown hK hP 1 (by decide) (kX4 _) rfl 5 (by decide) (by decide +kernel) rfl dX4_readNumber_138 ?_
              rw [show (va_up σ 1 (upd (upd (σ 1) 5 (nI (skB (σ 2) len a))) 4 (nI ((skB (σ 2) len a) + d)))) 1 5 = (nI (skB (σ 2) len a)) from (va_S'.trans ((pk_un (by decide)).trans pk_us))]
              refine rp_callVV (na := 2) hx hb hml hown hts hK hA hD hP hS hl.1 1 (by decide) (kX4 _) rfl [.int 2, .int (nI (skB (σ 2) len a))] (c_X4_blame l D cy ad y z (va_up σ 1 (upd (upd (σ 1) 5 (nI (skB (σ 2) len a))) 4 (nI ((skB (σ 2) len a) + d)))) 2 (nI (skB (σ 2) len a)) ) gX4_readNumber_X4_blame rfl (by decide +kernel) rfl ⟨Nat.le_of_ble_eq_true rfl, Nat.le_of_ble_eq_true rfl⟩ ⟨rfl, rfl⟩ ⟨Nat.zero_le _, Nat.zero_le _⟩ rfl (Nat.le_of_ble_eq_true rfl) dX4_readNumber_141 (fun τ_ H locs hq hP hS => ?_)
              subst hq
              rw [show up2 (va_up σ 1 (upd (upd (σ 1) 5 (nI (skB (σ 2) len a))) 4 (nI ((skB (σ 2) len a) + d)))) 1 3 2 = va_up σ 1 (upd (upd (upd (σ 1) 5 (nI (skB (σ 2) len a))) 4 (nI ((skB (σ 2) len a) + d))) 3 2) from (vu_up _ _ _ _ _)] at hP
              rw [show up2 (va_up σ 1 (upd (upd (upd (σ 1) 5 (nI (skB (σ 2) len a))) 4 (nI ((skB (σ 2) len a) + d))) 3 2)) 1 2 (nI (skB (σ 2) len a)) = va_up σ 1 (upd (upd (upd (upd (σ 1) 5 (nI (skB (σ 2) len a))) 4 (nI ((skB (σ 2) len a) + d))) 3 2) 2 (nI (skB (σ 2) len a))) from (vu_up _ _ _ _ _)] at hP
              refine lv_aload_n hx hb dX4_readNumber_144 rfl (lv_at hl 2 rfl) ?_
              refine rp_get (C := RX4) (T := TX4) (N := 6) hx hb hts in_X4_readNumber_X4 hown hK hP 1 (by decide) (kX4 _) rfl 3 (by decide) (by decide +kernel) rfl dX4_readNumber_145 ?_
              rw [show (va_up σ 1 (upd (upd (upd (upd (σ 1) 5 (nI (skB (σ 2) len a))) 4 (nI ((skB (σ 2) len a) + d))) 3 2) 2 (nI (skB (σ 2) len a)))) 1 3 = 2 from (va_S'.trans ((pk_un (by decide)).trans pk_us))]
              refine lv_if_ne (tgt := 155) hx hb dX4_readNumber_148 (by decide) (fun c148 => ?_) (fun c148 => ?_)
              · skip
                refine lv_iconst (v := (-1)) hx hb dX4_readNumber_155 (by decide) ?_
                exact hret hP hS dX4_readNumber_156 rfl ⟨(rnV_n c4 (rnF_2 (by omega) (by omega)) (by decide)), (rn_n c4 (rnF_2 (by omega) (by omega)) (by decide) (by omega) eK eP)⟩
              · skip
                exact absurd c148 (by decide)
            · skip
              have h4 : d ≤ 3 := cl_ngt (n := 3) (by omega) (by decide) c122
              refine lv_iload_n hx hb dX4_readNumber_125 rfl (lv_at hl 1 rfl) ?_
              refine lv_iload_n hx hb dX4_readNumber_126 rfl (lv_at hl 3 rfl) ?_
              refine lv_icmp_lt (tgt := 135) hx hb dX4_readNumber_127 (by decide) (fun c127 => ?_) (fun c127 => ?_)
              · skip
                refine lv_aload_n hx hb dX4_readNumber_135 rfl (lv_at hl 2 rfl) ?_
                refine lv_iconst (v := 2) hx hb dX4_readNumber_136 (by decide) ?_
                refine lv_aload_n hx hb dX4_readNumber_137 rfl (lv_at hl 2 rfl) ?_
                refine rp_get (C := RX4) (T := TX4) (N := 6) hx hb hts in_X4_readNumber_X4 hown hK hP 1 (by decide) (kX4 _) rfl 5 (by decide) (by decide +kernel) rfl dX4_readNumber_138 ?_
                rw [show (va_up σ 1 (upd (upd (σ 1) 5 (nI (skB (σ 2) len a))) 4 (nI ((skB (σ 2) len a) + d)))) 1 5 = (nI (skB (σ 2) len a)) from (va_S'.trans ((pk_un (by decide)).trans pk_us))]
                refine rp_callVV (na := 2) hx hb hml hown hts hK hA hD hP hS hl.1 1 (by decide) (kX4 _) rfl [.int 2, .int (nI (skB (σ 2) len a))] (c_X4_blame l D cy ad y z (va_up σ 1 (upd (upd (σ 1) 5 (nI (skB (σ 2) len a))) 4 (nI ((skB (σ 2) len a) + d)))) 2 (nI (skB (σ 2) len a)) ) gX4_readNumber_X4_blame rfl (by decide +kernel) rfl ⟨Nat.le_of_ble_eq_true rfl, Nat.le_of_ble_eq_true rfl⟩ ⟨rfl, rfl⟩ ⟨Nat.zero_le _, Nat.zero_le _⟩ rfl (Nat.le_of_ble_eq_true rfl) dX4_readNumber_141 (fun τ_ H locs hq hP hS => ?_)
                subst hq
                rw [show up2 (va_up σ 1 (upd (upd (σ 1) 5 (nI (skB (σ 2) len a))) 4 (nI ((skB (σ 2) len a) + d)))) 1 3 2 = va_up σ 1 (upd (upd (upd (σ 1) 5 (nI (skB (σ 2) len a))) 4 (nI ((skB (σ 2) len a) + d))) 3 2) from (vu_up _ _ _ _ _)] at hP
                rw [show up2 (va_up σ 1 (upd (upd (upd (σ 1) 5 (nI (skB (σ 2) len a))) 4 (nI ((skB (σ 2) len a) + d))) 3 2)) 1 2 (nI (skB (σ 2) len a)) = va_up σ 1 (upd (upd (upd (upd (σ 1) 5 (nI (skB (σ 2) len a))) 4 (nI ((skB (σ 2) len a) + d))) 3 2) 2 (nI (skB (σ 2) len a))) from (vu_up _ _ _ _ _)] at hP
                refine lv_aload_n hx hb dX4_readNumber_144 rfl (lv_at hl 2 rfl) ?_
                refine rp_get (C := RX4) (T := TX4) (N := 6) hx hb hts in_X4_readNumber_X4 hown hK hP 1 (by decide) (kX4 _) rfl 3 (by decide) (by decide +kernel) rfl dX4_readNumber_145 ?_
                rw [show (va_up σ 1 (upd (upd (upd (upd (σ 1) 5 (nI (skB (σ 2) len a))) 4 (nI ((skB (σ 2) len a) + d))) 3 2) 2 (nI (skB (σ 2) len a)))) 1 3 = 2 from (va_S'.trans ((pk_un (by decide)).trans pk_us))]
                refine lv_if_ne (tgt := 155) hx hb dX4_readNumber_148 (by decide) (fun c148 => ?_) (fun c148 => ?_)
                · skip
                  refine lv_iconst (v := (-1)) hx hb dX4_readNumber_155 (by decide) ?_
                  exact hret hP hS dX4_readNumber_156 rfl ⟨(rnV_n c4 (rnF_3 (by omega) (by omega) (by rw [← ed]; exact c127)) (by decide)), (rn_n c4 (rnF_3 (by omega) (by omega) (by rw [← ed]; exact c127)) (by decide) (by omega) eK eP)⟩
                · skip
                  exact absurd c148 (by decide)
              · skip
                refine lv_iload_n hx hb dX4_readNumber_130 rfl (lv_at hl 1 rfl) ?_
                refine lv_iload_n hx hb dX4_readNumber_131 rfl (lv_at hl 4 rfl) ?_
                refine lv_icmp_le (tgt := 144) hx hb dX4_readNumber_132 (by decide) (fun c132 => ?_) (fun c132 => ?_)
                · skip
                  refine lv_aload_n hx hb dX4_readNumber_144 rfl (lv_at hl 2 rfl) ?_
                  refine rp_get (C := RX4) (T := TX4) (N := 6) hx hb hts in_X4_readNumber_X4 hown hK hP 1 (by decide) (kX4 _) rfl 3 (by decide) (by decide +kernel) rfl dX4_readNumber_145 ?_
                  rw [show (va_up σ 1 (upd (upd (σ 1) 5 (nI (skB (σ 2) len a))) 4 (nI ((skB (σ 2) len a) + d)))) 1 3 = (σ 1 3) from (va_S'.trans ((pk_un (by decide)).trans (pk_un (by decide))))]
                  rw [eK]
                  refine lv_if_ne (tgt := 155) hx hb dX4_readNumber_148 (by decide) (fun c148 => ?_) (fun c148 => ?_)
                  · skip
                    exact absurd c4 c148
                  · skip
                    refine lv_iload_n hx hb dX4_readNumber_151 rfl (lv_at hl 1 rfl) ?_
                    refine lv_goto (tgt := 156) hx hb dX4_readNumber_152 (by decide) ?_
                    exact hret hP hS dX4_readNumber_156 rfl ⟨(rnV_0 c4 (rnF_0 (by omega) (by omega) (by rw [← ed]; exact c127) (by rw [← ed]; exact c132)) ed), (rn_0 c4 (rnF_0 (by omega) (by omega) (by rw [← ed]; exact c127) (by rw [← ed]; exact c132)) (by omega) eK eP)⟩
                · skip
                  refine lv_aload_n hx hb dX4_readNumber_135 rfl (lv_at hl 2 rfl) ?_
                  refine lv_iconst (v := 2) hx hb dX4_readNumber_136 (by decide) ?_
                  refine lv_aload_n hx hb dX4_readNumber_137 rfl (lv_at hl 2 rfl) ?_
                  refine rp_get (C := RX4) (T := TX4) (N := 6) hx hb hts in_X4_readNumber_X4 hown hK hP 1 (by decide) (kX4 _) rfl 5 (by decide) (by decide +kernel) rfl dX4_readNumber_138 ?_
                  rw [show (va_up σ 1 (upd (upd (σ 1) 5 (nI (skB (σ 2) len a))) 4 (nI ((skB (σ 2) len a) + d)))) 1 5 = (nI (skB (σ 2) len a)) from (va_S'.trans ((pk_un (by decide)).trans pk_us))]
                  refine rp_callVV (na := 2) hx hb hml hown hts hK hA hD hP hS hl.1 1 (by decide) (kX4 _) rfl [.int 2, .int (nI (skB (σ 2) len a))] (c_X4_blame l D cy ad y z (va_up σ 1 (upd (upd (σ 1) 5 (nI (skB (σ 2) len a))) 4 (nI ((skB (σ 2) len a) + d)))) 2 (nI (skB (σ 2) len a)) ) gX4_readNumber_X4_blame rfl (by decide +kernel) rfl ⟨Nat.le_of_ble_eq_true rfl, Nat.le_of_ble_eq_true rfl⟩ ⟨rfl, rfl⟩ ⟨Nat.zero_le _, Nat.zero_le _⟩ rfl (Nat.le_of_ble_eq_true rfl) dX4_readNumber_141 (fun τ_ H locs hq hP hS => ?_)
                  subst hq
                  rw [show up2 (va_up σ 1 (upd (upd (σ 1) 5 (nI (skB (σ 2) len a))) 4 (nI ((skB (σ 2) len a) + d)))) 1 3 2 = va_up σ 1 (upd (upd (upd (σ 1) 5 (nI (skB (σ 2) len a))) 4 (nI ((skB (σ 2) len a) + d))) 3 2) from (vu_up _ _ _ _ _)] at hP
                  rw [show up2 (va_up σ 1 (upd (upd (upd (σ 1) 5 (nI (skB (σ 2) len a))) 4 (nI ((skB (σ 2) len a) + d))) 3 2)) 1 2 (nI (skB (σ 2) len a)) = va_up σ 1 (upd (upd (upd (upd (σ 1) 5 (nI (skB (σ 2) len a))) 4 (nI ((skB (σ 2) len a) + d))) 3 2) 2 (nI (skB (σ 2) len a))) from (vu_up _ _ _ _ _)] at hP
                  refine lv_aload_n hx hb dX4_readNumber_144 rfl (lv_at hl 2 rfl) ?_
                  refine rp_get (C := RX4) (T := TX4) (N := 6) hx hb hts in_X4_readNumber_X4 hown hK hP 1 (by decide) (kX4 _) rfl 3 (by decide) (by decide +kernel) rfl dX4_readNumber_145 ?_
                  rw [show (va_up σ 1 (upd (upd (upd (upd (σ 1) 5 (nI (skB (σ 2) len a))) 4 (nI ((skB (σ 2) len a) + d))) 3 2) 2 (nI (skB (σ 2) len a)))) 1 3 = 2 from (va_S'.trans ((pk_un (by decide)).trans pk_us))]
                  refine lv_if_ne (tgt := 155) hx hb dX4_readNumber_148 (by decide) (fun c148 => ?_) (fun c148 => ?_)
                  · skip
                    refine lv_iconst (v := (-1)) hx hb dX4_readNumber_155 (by decide) ?_
                    exact hret hP hS dX4_readNumber_156 rfl ⟨(rnV_n c4 (rnF_4 (by omega) (by omega) (by rw [← ed]; exact c127) (by rw [← ed]; exact c132)) (by decide)), (rn_n c4 (rnF_4 (by omega) (by omega) (by rw [← ed]; exact c127) (by rw [← ed]; exact c132)) (by decide) (by omega) eK eP)⟩
                  · skip
                    exact absurd c148 (by decide)
          · skip
            have hd0 : d = 0 := eq_of_nI (N := 0) (by omega) (by decide) c104
            refine lv_aload_n hx hb dX4_readNumber_107 rfl (lv_at hl 2 rfl) ?_
            refine lv_iconst (v := 1) hx hb dX4_readNumber_108 (by decide) ?_
            refine lv_aload_n hx hb dX4_readNumber_109 rfl (lv_at hl 2 rfl) ?_
            refine rp_get (C := RX4) (T := TX4) (N := 6) hx hb hts in_X4_readNumber_X4 hown hK hP 1 (by decide) (kX4 _) rfl 4 (by decide) (by decide +kernel) rfl dX4_readNumber_110 ?_
            rw [show (va_up σ 1 (upd (upd (σ 1) 5 (nI (skB (σ 2) len a))) 4 (nI ((skB (σ 2) len a) + d)))) 1 4 = (nI ((skB (σ 2) len a) + d)) from (va_S'.trans pk_us)]
            refine rp_callVV (na := 2) hx hb hml hown hts hK hA hD hP hS hl.1 1 (by decide) (kX4 _) rfl [.int 1, .int (nI ((skB (σ 2) len a) + d))] (c_X4_blame l D cy ad y z (va_up σ 1 (upd (upd (σ 1) 5 (nI (skB (σ 2) len a))) 4 (nI ((skB (σ 2) len a) + d)))) 1 (nI ((skB (σ 2) len a) + d)) ) gX4_readNumber_X4_blame rfl (by decide +kernel) rfl ⟨Nat.le_of_ble_eq_true rfl, Nat.le_of_ble_eq_true rfl⟩ ⟨rfl, rfl⟩ ⟨Nat.zero_le _, Nat.zero_le _⟩ rfl (Nat.le_of_ble_eq_true rfl) dX4_readNumber_113 (fun τ_ H locs hq hP hS => ?_)
            subst hq
            rw [show up2 (va_up σ 1 (upd (upd (σ 1) 5 (nI (skB (σ 2) len a))) 4 (nI ((skB (σ 2) len a) + d)))) 1 3 1 = va_up σ 1 (upd (upd (upd (σ 1) 5 (nI (skB (σ 2) len a))) 4 (nI ((skB (σ 2) len a) + d))) 3 1) from (vu_up _ _ _ _ _)] at hP
            rw [show up2 (va_up σ 1 (upd (upd (upd (σ 1) 5 (nI (skB (σ 2) len a))) 4 (nI ((skB (σ 2) len a) + d))) 3 1)) 1 2 (nI ((skB (σ 2) len a) + d)) = va_up σ 1 (upd (upd (upd (upd (σ 1) 5 (nI (skB (σ 2) len a))) 4 (nI ((skB (σ 2) len a) + d))) 3 1) 2 (nI ((skB (σ 2) len a) + d))) from (vu_up _ _ _ _ _)] at hP
            refine lv_goto (tgt := 144) hx hb dX4_readNumber_116 (by decide) ?_
            refine lv_aload_n hx hb dX4_readNumber_144 rfl (lv_at hl 2 rfl) ?_
            refine rp_get (C := RX4) (T := TX4) (N := 6) hx hb hts in_X4_readNumber_X4 hown hK hP 1 (by decide) (kX4 _) rfl 3 (by decide) (by decide +kernel) rfl dX4_readNumber_145 ?_
            rw [show (va_up σ 1 (upd (upd (upd (upd (σ 1) 5 (nI (skB (σ 2) len a))) 4 (nI ((skB (σ 2) len a) + d))) 3 1) 2 (nI ((skB (σ 2) len a) + d)))) 1 3 = 1 from (va_S'.trans ((pk_un (by decide)).trans pk_us))]
            refine lv_if_ne (tgt := 155) hx hb dX4_readNumber_148 (by decide) (fun c148 => ?_) (fun c148 => ?_)
            · skip
              refine lv_iconst (v := (-1)) hx hb dX4_readNumber_155 (by decide) ?_
              exact hret hP hS dX4_readNumber_156 rfl ⟨(rnV_n c4 (rnF_1 (by omega)) (by decide)), (rn_n1 c4 (rnF_1 (by omega)) (by decide) (by omega) hd0 eK eP)⟩
            · skip
              exact absurd c148 (by decide)
        · skip
          have hd2 : (skB (σ 2) len a) + d < len := cl_in (by omega) (by omega) c31
          refine lv_aload_n hx hb dX4_readNumber_34 rfl (lv_at hl 1 rfl) ?_
          refine lv_aload_n hx hb dX4_readNumber_35 rfl (lv_at hl 1 rfl) ?_
          refine rp_get (C := RX4) (T := TX4) (N := 6) hx hb hts in_X4_readNumber_X4 hown hK hP 1 (by decide) (kX4 _) rfl 4 (by decide) (by decide +kernel) rfl dX4_readNumber_36 ?_
          rw [show (va_up σ 1 (upd (upd (σ 1) 5 (nI (skB (σ 2) len a))) 4 (nI ((skB (σ 2) len a) + d)))) 1 4 = (nI ((skB (σ 2) len a) + d)) from (va_S'.trans pk_us)]
          refine rp_callVI (na := 1) hx hb hml hown hts hK hA hD hP hS hl.1 1 (by decide) (kX4 _) rfl [.int (nI ((skB (σ 2) len a) + d))] (c_X4_letterAt l D cy ad y z (va_up σ 1 (upd (upd (σ 1) 5 (nI (skB (σ 2) len a))) 4 (nI ((skB (σ 2) len a) + d)))) (σ 2) len ((skB (σ 2) len a) + d) (va_Q (by decide)) (by first | assumption | omega) ((va_S'.trans ((pk_un (by decide)).trans (pk_un (by decide)))).trans elen) (by omega)) gX4_readNumber_X4_letterAt rfl (by decide +kernel) rfl ⟨Nat.le_of_ble_eq_true rfl, Nat.le_of_ble_eq_true rfl⟩ ⟨rfl, rfl⟩ ⟨Nat.zero_le _, Nat.zero_le _⟩ rfl (Nat.le_of_ble_eq_true rfl) dX4_readNumber_39 (fun v_ τ_ H locs hq hP hS => ?_)
          obtain ⟨rfl, rfl⟩ := hq
          refine rp_callSI (na := 1) hx hb hml hown hts hK hA hD hP hS hl.1 [.int (ltr (σ 2) len ((skB (σ 2) len a) + d))] (c_X4_isFigure l D cy ad y z (va_up σ 1 (upd (upd (σ 1) 5 (nI (skB (σ 2) len a))) 4 (nI ((skB (σ 2) len a) + d)))) (ltr (σ 2) len ((skB (σ 2) len a) + d)) ) gX4_readNumber_X4_isFigure rfl (by decide +kernel) rfl ⟨Nat.le_of_ble_eq_true rfl, Nat.le_of_ble_eq_true rfl⟩ ⟨rfl, rfl⟩ ⟨Nat.zero_le _, Nat.zero_le _⟩ rfl (Nat.le_of_ble_eq_true rfl) dX4_readNumber_42 (fun v_ τ_ H locs hq hP hS => ?_)
          obtain ⟨rfl, rfl⟩ := hq
          refine lv_if_eq (tgt := 91) hx hb dX4_readNumber_45 (by decide) (fun c45 => ?_) (fun c45 => ?_)
          · skip
            have c45 := bi_eq0.mp c45
            have ed : d = ((edD (σ 2) len (skB (σ 2) len a)) - (skB (σ 2) len a)) := by rw [← hF, edD_f (fun q => c45 (by rw [ltr, if_pos hd2]; exact q.2))]; omega
            refine lv_aload_n hx hb dX4_readNumber_91 rfl (lv_at hl 1 rfl) ?_
            refine rp_get (C := RX4) (T := TX4) (N := 6) hx hb hts in_X4_readNumber_X4 hown hK hP 1 (by decide) (kX4 _) rfl 4 (by decide) (by decide +kernel) rfl dX4_readNumber_92 ?_
            rw [show (va_up σ 1 (upd (upd (σ 1) 5 (nI (skB (σ 2) len a))) 4 (nI ((skB (σ 2) len a) + d)))) 1 4 = (nI ((skB (σ 2) len a) + d)) from (va_S'.trans pk_us)]
            refine lv_aload_n hx hb dX4_readNumber_95 rfl (lv_at hl 1 rfl) ?_
            refine rp_get (C := RX4) (T := TX4) (N := 6) hx hb hts in_X4_readNumber_X4 hown hK hP 1 (by decide) (kX4 _) rfl 5 (by decide) (by decide +kernel) rfl dX4_readNumber_96 ?_
            rw [show (va_up σ 1 (upd (upd (σ 1) 5 (nI (skB (σ 2) len a))) 4 (nI ((skB (σ 2) len a) + d)))) 1 5 = (nI (skB (σ 2) len a)) from (va_S'.trans ((pk_un (by decide)).trans pk_us))]
            refine lv_isub hx hb dX4_readNumber_99 ?_
            rw [nI_sba]
            refine lv_istore (lv' := [(4, .int (nI d)), (3, .int (vX (σ 2) (skB (σ 2) len a) d)), (0, .ref (ad 1)), (1, .int lo), (2, .int hi)]) hx hb dX4_readNumber_100 hl (by decide) rfl (fun ls hl => ?_)
            refine lv_iload hx hb dX4_readNumber_102 (lv_at hl 0 rfl) ?_
            refine lv_if_ne (tgt := 119) hx hb dX4_readNumber_104 (by decide) (fun c104 => ?_) (fun c104 => ?_)
            · skip
              have hd0 : d ≠ 0 := fun q => c104 (by rw [q]; rfl)
              refine lv_iload hx hb dX4_readNumber_119 (lv_at hl 0 rfl) ?_
              refine lv_iconst (v := 3) hx hb dX4_readNumber_121 (by decide) ?_
              refine lv_icmp_gt (tgt := 135) hx hb dX4_readNumber_122 (by decide) (fun c122 => ?_) (fun c122 => ?_)
              · skip
                have h4 : 3 < d := (nI_ltI (a := 3) (by decide) (by omega)).mp c122
                refine lv_aload_n hx hb dX4_readNumber_135 rfl (lv_at hl 2 rfl) ?_
                refine lv_iconst (v := 2) hx hb dX4_readNumber_136 (by decide) ?_
                refine lv_aload_n hx hb dX4_readNumber_137 rfl (lv_at hl 2 rfl) ?_
                refine rp_get (C := RX4) (T := TX4) (N := 6) hx hb hts in_X4_readNumber_X4 hown hK hP 1 (by decide) (kX4 _) rfl 5 (by decide) (by decide +kernel) rfl dX4_readNumber_138 ?_
                rw [show (va_up σ 1 (upd (upd (σ 1) 5 (nI (skB (σ 2) len a))) 4 (nI ((skB (σ 2) len a) + d)))) 1 5 = (nI (skB (σ 2) len a)) from (va_S'.trans ((pk_un (by decide)).trans pk_us))]
                refine rp_callVV (na := 2) hx hb hml hown hts hK hA hD hP hS hl.1 1 (by decide) (kX4 _) rfl [.int 2, .int (nI (skB (σ 2) len a))] (c_X4_blame l D cy ad y z (va_up σ 1 (upd (upd (σ 1) 5 (nI (skB (σ 2) len a))) 4 (nI ((skB (σ 2) len a) + d)))) 2 (nI (skB (σ 2) len a)) ) gX4_readNumber_X4_blame rfl (by decide +kernel) rfl ⟨Nat.le_of_ble_eq_true rfl, Nat.le_of_ble_eq_true rfl⟩ ⟨rfl, rfl⟩ ⟨Nat.zero_le _, Nat.zero_le _⟩ rfl (Nat.le_of_ble_eq_true rfl) dX4_readNumber_141 (fun τ_ H locs hq hP hS => ?_)
                subst hq
                rw [show up2 (va_up σ 1 (upd (upd (σ 1) 5 (nI (skB (σ 2) len a))) 4 (nI ((skB (σ 2) len a) + d)))) 1 3 2 = va_up σ 1 (upd (upd (upd (σ 1) 5 (nI (skB (σ 2) len a))) 4 (nI ((skB (σ 2) len a) + d))) 3 2) from (vu_up _ _ _ _ _)] at hP
                rw [show up2 (va_up σ 1 (upd (upd (upd (σ 1) 5 (nI (skB (σ 2) len a))) 4 (nI ((skB (σ 2) len a) + d))) 3 2)) 1 2 (nI (skB (σ 2) len a)) = va_up σ 1 (upd (upd (upd (upd (σ 1) 5 (nI (skB (σ 2) len a))) 4 (nI ((skB (σ 2) len a) + d))) 3 2) 2 (nI (skB (σ 2) len a))) from (vu_up _ _ _ _ _)] at hP
                refine lv_aload_n hx hb dX4_readNumber_144 rfl (lv_at hl 2 rfl) ?_
                refine rp_get (C := RX4) (T := TX4) (N := 6) hx hb hts in_X4_readNumber_X4 hown hK hP 1 (by decide) (kX4 _) rfl 3 (by decide) (by decide +kernel) rfl dX4_readNumber_145 ?_
                rw [show (va_up σ 1 (upd (upd (upd (upd (σ 1) 5 (nI (skB (σ 2) len a))) 4 (nI ((skB (σ 2) len a) + d))) 3 2) 2 (nI (skB (σ 2) len a)))) 1 3 = 2 from (va_S'.trans ((pk_un (by decide)).trans pk_us))]
                refine lv_if_ne (tgt := 155) hx hb dX4_readNumber_148 (by decide) (fun c148 => ?_) (fun c148 => ?_)
                · skip
                  refine lv_iconst (v := (-1)) hx hb dX4_readNumber_155 (by decide) ?_
                  exact hret hP hS dX4_readNumber_156 rfl ⟨(rnV_n c4 (rnF_2 (by omega) (by omega)) (by decide)), (rn_n c4 (rnF_2 (by omega) (by omega)) (by decide) (by omega) eK eP)⟩
                · skip
                  exact absurd c148 (by decide)
              · skip
                have h4 : d ≤ 3 := cl_ngt (n := 3) (by omega) (by decide) c122
                refine lv_iload_n hx hb dX4_readNumber_125 rfl (lv_at hl 1 rfl) ?_
                refine lv_iload_n hx hb dX4_readNumber_126 rfl (lv_at hl 3 rfl) ?_
                refine lv_icmp_lt (tgt := 135) hx hb dX4_readNumber_127 (by decide) (fun c127 => ?_) (fun c127 => ?_)
                · skip
                  refine lv_aload_n hx hb dX4_readNumber_135 rfl (lv_at hl 2 rfl) ?_
                  refine lv_iconst (v := 2) hx hb dX4_readNumber_136 (by decide) ?_
                  refine lv_aload_n hx hb dX4_readNumber_137 rfl (lv_at hl 2 rfl) ?_
                  refine rp_get (C := RX4) (T := TX4) (N := 6) hx hb hts in_X4_readNumber_X4 hown hK hP 1 (by decide) (kX4 _) rfl 5 (by decide) (by decide +kernel) rfl dX4_readNumber_138 ?_
                  rw [show (va_up σ 1 (upd (upd (σ 1) 5 (nI (skB (σ 2) len a))) 4 (nI ((skB (σ 2) len a) + d)))) 1 5 = (nI (skB (σ 2) len a)) from (va_S'.trans ((pk_un (by decide)).trans pk_us))]
                  refine rp_callVV (na := 2) hx hb hml hown hts hK hA hD hP hS hl.1 1 (by decide) (kX4 _) rfl [.int 2, .int (nI (skB (σ 2) len a))] (c_X4_blame l D cy ad y z (va_up σ 1 (upd (upd (σ 1) 5 (nI (skB (σ 2) len a))) 4 (nI ((skB (σ 2) len a) + d)))) 2 (nI (skB (σ 2) len a)) ) gX4_readNumber_X4_blame rfl (by decide +kernel) rfl ⟨Nat.le_of_ble_eq_true rfl, Nat.le_of_ble_eq_true rfl⟩ ⟨rfl, rfl⟩ ⟨Nat.zero_le _, Nat.zero_le _⟩ rfl (Nat.le_of_ble_eq_true rfl) dX4_readNumber_141 (fun τ_ H locs hq hP hS => ?_)
                  subst hq
                  rw [show up2 (va_up σ 1 (upd (upd (σ 1) 5 (nI (skB (σ 2) len a))) 4 (nI ((skB (σ 2) len a) + d)))) 1 3 2 = va_up σ 1 (upd (upd (upd (σ 1) 5 (nI (skB (σ 2) len a))) 4 (nI ((skB (σ 2) len a) + d))) 3 2) from (vu_up _ _ _ _ _)] at hP
                  rw [show up2 (va_up σ 1 (upd (upd (upd (σ 1) 5 (nI (skB (σ 2) len a))) 4 (nI ((skB (σ 2) len a) + d))) 3 2)) 1 2 (nI (skB (σ 2) len a)) = va_up σ 1 (upd (upd (upd (upd (σ 1) 5 (nI (skB (σ 2) len a))) 4 (nI ((skB (σ 2) len a) + d))) 3 2) 2 (nI (skB (σ 2) len a))) from (vu_up _ _ _ _ _)] at hP
                  refine lv_aload_n hx hb dX4_readNumber_144 rfl (lv_at hl 2 rfl) ?_
                  refine rp_get (C := RX4) (T := TX4) (N := 6) hx hb hts in_X4_readNumber_X4 hown hK hP 1 (by decide) (kX4 _) rfl 3 (by decide) (by decide +kernel) rfl dX4_readNumber_145 ?_
                  rw [show (va_up σ 1 (upd (upd (upd (upd (σ 1) 5 (nI (skB (σ 2) len a))) 4 (nI ((skB (σ 2) len a) + d))) 3 2) 2 (nI (skB (σ 2) len a)))) 1 3 = 2 from (va_S'.trans ((pk_un (by decide)).trans pk_us))]
                  refine lv_if_ne (tgt := 155) hx hb dX4_readNumber_148 (by decide) (fun c148 => ?_) (fun c148 => ?_)
                  · skip
                    refine lv_iconst (v := (-1)) hx hb dX4_readNumber_155 (by decide) ?_
                    exact hret hP hS dX4_readNumber_156 rfl ⟨(rnV_n c4 (rnF_3 (by omega) (by omega) (by rw [← ed]; exact c127)) (by decide)), (rn_n c4 (rnF_3 (by omega) (by omega) (by rw [← ed]; exact c127)) (by decide) (by omega) eK eP)⟩
                  · skip
                    exact absurd c148 (by decide)
                · skip
                  refine lv_iload_n hx hb dX4_readNumber_130 rfl (lv_at hl 1 rfl) ?_
                  refine lv_iload_n hx hb dX4_readNumber_131 rfl (lv_at hl 4 rfl) ?_
                  refine lv_icmp_le (tgt := 144) hx hb dX4_readNumber_132 (by decide) (fun c132 => ?_) (fun c132 => ?_)
                  · skip
                    refine lv_aload_n hx hb dX4_readNumber_144 rfl (lv_at hl 2 rfl) ?_
                    refine rp_get (C := RX4) (T := TX4) (N := 6) hx hb hts in_X4_readNumber_X4 hown hK hP 1 (by decide) (kX4 _) rfl 3 (by decide) (by decide +kernel) rfl dX4_readNumber_145 ?_
                    rw [show (va_up σ 1 (upd (upd (σ 1) 5 (nI (skB (σ 2) len a))) 4 (nI ((skB (σ 2) len a) + d)))) 1 3 = (σ 1 3) from (va_S'.trans ((pk_un (by decide)).trans (pk_un (by decide))))]
                    rw [eK]
                    refine lv_if_ne (tgt := 155) hx hb dX4_readNumber_148 (by decide) (fun c148 => ?_) (fun c148 => ?_)
                    · skip
                      exact absurd c4 c148
                    · skip
                      refine lv_iload_n hx hb dX4_readNumber_151 rfl (lv_at hl 1 rfl) ?_
                      refine lv_goto (tgt := 156) hx hb dX4_readNumber_152 (by decide) ?_
                      exact hret hP hS dX4_readNumber_156 rfl ⟨(rnV_0 c4 (rnF_0 (by omega) (by omega) (by rw [← ed]; exact c127) (by rw [← ed]; exact c132)) ed), (rn_0 c4 (rnF_0 (by omega) (by omega) (by rw [← ed]; exact c127) (by rw [← ed]; exact c132)) (by omega) eK eP)⟩
                  · skip
                    refine lv_aload_n hx hb dX4_readNumber_135 rfl (lv_at hl 2 rfl) ?_
                    refine lv_iconst (v := 2) hx hb dX4_readNumber_136 (by decide) ?_
                    refine lv_aload_n hx hb dX4_readNumber_137 rfl (lv_at hl 2 rfl) ?_
                    refine rp_get (C := RX4) (T := TX4) (N := 6) hx hb hts in_X4_readNumber_X4 hown hK hP 1 (by decide) (kX4 _) rfl 5 (by decide) (by decide +kernel) rfl dX4_readNumber_138 ?_
                    rw [show (va_up σ 1 (upd (upd (σ 1) 5 (nI (skB (σ 2) len a))) 4 (nI ((skB (σ 2) len a) + d)))) 1 5 = (nI (skB (σ 2) len a)) from (va_S'.trans ((pk_un (by decide)).trans pk_us))]
                    refine rp_callVV (na := 2) hx hb hml hown hts hK hA hD hP hS hl.1 1 (by decide) (kX4 _) rfl [.int 2, .int (nI (skB (σ 2) len a))] (c_X4_blame l D cy ad y z (va_up σ 1 (upd (upd (σ 1) 5 (nI (skB (σ 2) len a))) 4 (nI ((skB (σ 2) len a) + d)))) 2 (nI (skB (σ 2) len a)) ) gX4_readNumber_X4_blame rfl (by decide +kernel) rfl ⟨Nat.le_of_ble_eq_true rfl, Nat.le_of_ble_eq_true rfl⟩ ⟨rfl, rfl⟩ ⟨Nat.zero_le _, Nat.zero_le _⟩ rfl (Nat.le_of_ble_eq_true rfl) dX4_readNumber_141 (fun τ_ H locs hq hP hS => ?_)
                    subst hq
                    rw [show up2 (va_up σ 1 (upd (upd (σ 1) 5 (nI (skB (σ 2) len a))) 4 (nI ((skB (σ 2) len a) + d)))) 1 3 2 = va_up σ 1 (upd (upd (upd (σ 1) 5 (nI (skB (σ 2) len a))) 4 (nI ((skB (σ 2) len a) + d))) 3 2) from (vu_up _ _ _ _ _)] at hP
                    rw [show up2 (va_up σ 1 (upd (upd (upd (σ 1) 5 (nI (skB (σ 2) len a))) 4 (nI ((skB (σ 2) len a) + d))) 3 2)) 1 2 (nI (skB (σ 2) len a)) = va_up σ 1 (upd (upd (upd (upd (σ 1) 5 (nI (skB (σ 2) len a))) 4 (nI ((skB (σ 2) len a) + d))) 3 2) 2 (nI (skB (σ 2) len a))) from (vu_up _ _ _ _ _)] at hP
                    refine lv_aload_n hx hb dX4_readNumber_144 rfl (lv_at hl 2 rfl) ?_
                    refine rp_get (C := RX4) (T := TX4) (N := 6) hx hb hts in_X4_readNumber_X4 hown hK hP 1 (by decide) (kX4 _) rfl 3 (by decide) (by decide +kernel) rfl dX4_readNumber_145 ?_
                    rw [show (va_up σ 1 (upd (upd (upd (upd (σ 1) 5 (nI (skB (σ 2) len a))) 4 (nI ((skB (σ 2) len a) + d))) 3 2) 2 (nI (skB (σ 2) len a)))) 1 3 = 2 from (va_S'.trans ((pk_un (by decide)).trans pk_us))]
                    refine lv_if_ne (tgt := 155) hx hb dX4_readNumber_148 (by decide) (fun c148 => ?_) (fun c148 => ?_)
                    · skip
                      refine lv_iconst (v := (-1)) hx hb dX4_readNumber_155 (by decide) ?_
                      exact hret hP hS dX4_readNumber_156 rfl ⟨(rnV_n c4 (rnF_4 (by omega) (by omega) (by rw [← ed]; exact c127) (by rw [← ed]; exact c132)) (by decide)), (rn_n c4 (rnF_4 (by omega) (by omega) (by rw [← ed]; exact c127) (by rw [← ed]; exact c132)) (by decide) (by omega) eK eP)⟩
                    · skip
                      exact absurd c148 (by decide)
            · skip
              have hd0 : d = 0 := eq_of_nI (N := 0) (by omega) (by decide) c104
              refine lv_aload_n hx hb dX4_readNumber_107 rfl (lv_at hl 2 rfl) ?_
              refine lv_iconst (v := 1) hx hb dX4_readNumber_108 (by decide) ?_
              refine lv_aload_n hx hb dX4_readNumber_109 rfl (lv_at hl 2 rfl) ?_
              refine rp_get (C := RX4) (T := TX4) (N := 6) hx hb hts in_X4_readNumber_X4 hown hK hP 1 (by decide) (kX4 _) rfl 4 (by decide) (by decide +kernel) rfl dX4_readNumber_110 ?_
              rw [show (va_up σ 1 (upd (upd (σ 1) 5 (nI (skB (σ 2) len a))) 4 (nI ((skB (σ 2) len a) + d)))) 1 4 = (nI ((skB (σ 2) len a) + d)) from (va_S'.trans pk_us)]
              refine rp_callVV (na := 2) hx hb hml hown hts hK hA hD hP hS hl.1 1 (by decide) (kX4 _) rfl [.int 1, .int (nI ((skB (σ 2) len a) + d))] (c_X4_blame l D cy ad y z (va_up σ 1 (upd (upd (σ 1) 5 (nI (skB (σ 2) len a))) 4 (nI ((skB (σ 2) len a) + d)))) 1 (nI ((skB (σ 2) len a) + d)) ) gX4_readNumber_X4_blame rfl (by decide +kernel) rfl ⟨Nat.le_of_ble_eq_true rfl, Nat.le_of_ble_eq_true rfl⟩ ⟨rfl, rfl⟩ ⟨Nat.zero_le _, Nat.zero_le _⟩ rfl (Nat.le_of_ble_eq_true rfl) dX4_readNumber_113 (fun τ_ H locs hq hP hS => ?_)
              subst hq
              rw [show up2 (va_up σ 1 (upd (upd (σ 1) 5 (nI (skB (σ 2) len a))) 4 (nI ((skB (σ 2) len a) + d)))) 1 3 1 = va_up σ 1 (upd (upd (upd (σ 1) 5 (nI (skB (σ 2) len a))) 4 (nI ((skB (σ 2) len a) + d))) 3 1) from (vu_up _ _ _ _ _)] at hP
              rw [show up2 (va_up σ 1 (upd (upd (upd (σ 1) 5 (nI (skB (σ 2) len a))) 4 (nI ((skB (σ 2) len a) + d))) 3 1)) 1 2 (nI ((skB (σ 2) len a) + d)) = va_up σ 1 (upd (upd (upd (upd (σ 1) 5 (nI (skB (σ 2) len a))) 4 (nI ((skB (σ 2) len a) + d))) 3 1) 2 (nI ((skB (σ 2) len a) + d))) from (vu_up _ _ _ _ _)] at hP
              refine lv_goto (tgt := 144) hx hb dX4_readNumber_116 (by decide) ?_
              refine lv_aload_n hx hb dX4_readNumber_144 rfl (lv_at hl 2 rfl) ?_
              refine rp_get (C := RX4) (T := TX4) (N := 6) hx hb hts in_X4_readNumber_X4 hown hK hP 1 (by decide) (kX4 _) rfl 3 (by decide) (by decide +kernel) rfl dX4_readNumber_145 ?_
              rw [show (va_up σ 1 (upd (upd (upd (upd (σ 1) 5 (nI (skB (σ 2) len a))) 4 (nI ((skB (σ 2) len a) + d))) 3 1) 2 (nI ((skB (σ 2) len a) + d)))) 1 3 = 1 from (va_S'.trans ((pk_un (by decide)).trans pk_us))]
              refine lv_if_ne (tgt := 155) hx hb dX4_readNumber_148 (by decide) (fun c148 => ?_) (fun c148 => ?_)
              · skip
                refine lv_iconst (v := (-1)) hx hb dX4_readNumber_155 (by decide) ?_
                exact hret hP hS dX4_readNumber_156 rfl ⟨(rnV_n c4 (rnF_1 (by omega)) (by decide)), (rn_n1 c4 (rnF_1 (by omega)) (by decide) (by omega) hd0 eK eP)⟩
              · skip
                exact absurd c148 (by decide)
          · skip
            have c45 := bi_ne0.mp c45
            refine lv_aload_n hx hb dX4_readNumber_48 rfl (lv_at hl 1 rfl) ?_
            refine rp_get (C := RX4) (T := TX4) (N := 6) hx hb hts in_X4_readNumber_X4 hown hK hP 1 (by decide) (kX4 _) rfl 4 (by decide) (by decide +kernel) rfl dX4_readNumber_49 ?_
            rw [show (va_up σ 1 (upd (upd (σ 1) 5 (nI (skB (σ 2) len a))) 4 (nI ((skB (σ 2) len a) + d)))) 1 4 = (nI ((skB (σ 2) len a) + d)) from (va_S'.trans pk_us)]
            refine lv_aload_n hx hb dX4_readNumber_52 rfl (lv_at hl 1 rfl) ?_
            refine rp_get (C := RX4) (T := TX4) (N := 6) hx hb hts in_X4_readNumber_X4 hown hK hP 1 (by decide) (kX4 _) rfl 5 (by decide) (by decide +kernel) rfl dX4_readNumber_53 ?_
            rw [show (va_up σ 1 (upd (upd (σ 1) 5 (nI (skB (σ 2) len a))) 4 (nI ((skB (σ 2) len a) + d)))) 1 5 = (nI (skB (σ 2) len a)) from (va_S'.trans ((pk_un (by decide)).trans pk_us))]
            refine lv_isub hx hb dX4_readNumber_56 ?_
            rw [nI_sba]
            refine lv_iconst (v := 3) hx hb dX4_readNumber_57 (by decide) ?_
            refine lv_icmp_ge (tgt := 78) hx hb dX4_readNumber_58 (by decide) (fun c58 => ?_) (fun c58 => ?_)
            · skip
              have h3 : 3 ≤ d := (nI_leI (a := 3) (by decide) (by omega)).mp c58
              refine lv_aload_n hx hb dX4_readNumber_78 rfl (lv_at hl 1 rfl) ?_
              refine lv_dup hx hb dX4_readNumber_79 rfl ?_
              refine rp_get (C := RX4) (T := TX4) (N := 6) hx hb hts in_X4_readNumber_X4 hown hK hP 1 (by decide) (kX4 _) rfl 4 (by decide) (by decide +kernel) rfl dX4_readNumber_80 ?_
              rw [show (va_up σ 1 (upd (upd (σ 1) 5 (nI (skB (σ 2) len a))) 4 (nI ((skB (σ 2) len a) + d)))) 1 4 = (nI ((skB (σ 2) len a) + d)) from (va_S'.trans pk_us)]
              refine lv_iconst (v := 1) hx hb dX4_readNumber_83 (by decide) ?_
              refine lv_iadd hx hb dX4_readNumber_84 ?_
              refine rp_put (C := RX4) (T := TX4) (N := 6) (v := ((nI ((skB (σ 2) len a) + d)) + 1)) hx hb hts in_X4_readNumber_X4 tyX4 tyX4_ok nmX4 hown hK hP hD hS 1 (by decide) (kX4 _) rfl 4 (by decide) (by decide +kernel) rfl rfl rfl (Nat.le_of_ble_eq_true rfl) (kX4 _) dX4_readNumber_85 (fun H locs hP hS => ?_)
              rw [show up2 (va_up σ 1 (upd (upd (σ 1) 5 (nI (skB (σ 2) len a))) 4 (nI ((skB (σ 2) len a) + d)))) 1 4 ((nI ((skB (σ 2) len a) + d)) + 1) = va_up σ 1 (upd (upd (upd (σ 1) 5 (nI (skB (σ 2) len a))) 4 (nI ((skB (σ 2) len a) + d))) 4 ((nI ((skB (σ 2) len a) + d)) + 1)) from (vu_up _ _ _ _ _)] at hP
              refine lv_goto (tgt := 23) hx hb dX4_readNumber_88 (by decide) ?_
              exact ih23 (d + 1) (by omega) (by rw [← hF]; exact edD_t hd2 (lt_F hd2 c45)) (by omega) _ _ _ _ _ (if_neg (by omega)) (by rw [upd_u, nI_1]; rfl) hP hS (lv_sub hl [0, 1, 2, 3] rfl)
            · skip
              have h3 : d < 3 := cl_in (n := 3) (by omega) (by decide) c58
              refine lv_iload_n hx hb dX4_readNumber_61 rfl (lv_at hl 0 rfl) ?_
              refine lv_bipush (v := 10) hx hb dX4_readNumber_62 (by decide) ?_
              refine lv_imul hx hb dX4_readNumber_64 ?_
              refine lv_aload_n hx hb dX4_readNumber_65 rfl (lv_at hl 1 rfl) ?_
              refine lv_aload_n hx hb dX4_readNumber_66 rfl (lv_at hl 1 rfl) ?_
              refine rp_get (C := RX4) (T := TX4) (N := 6) hx hb hts in_X4_readNumber_X4 hown hK hP 1 (by decide) (kX4 _) rfl 4 (by decide) (by decide +kernel) rfl dX4_readNumber_67 ?_
              rw [show (va_up σ 1 (upd (upd (σ 1) 5 (nI (skB (σ 2) len a))) 4 (nI ((skB (σ 2) len a) + d)))) 1 4 = (nI ((skB (σ 2) len a) + d)) from (va_S'.trans pk_us)]
              refine rp_callVI (na := 1) hx hb hml hown hts hK hA hD hP hS hl.1 1 (by decide) (kX4 _) rfl [.int (nI ((skB (σ 2) len a) + d))] (c_X4_letterAt l D cy ad y z (va_up σ 1 (upd (upd (σ 1) 5 (nI (skB (σ 2) len a))) 4 (nI ((skB (σ 2) len a) + d)))) (σ 2) len ((skB (σ 2) len a) + d) (va_Q (by decide)) (by first | assumption | omega) ((va_S'.trans ((pk_un (by decide)).trans (pk_un (by decide)))).trans elen) (by omega)) gX4_readNumber_X4_letterAt rfl (by decide +kernel) rfl ⟨Nat.le_of_ble_eq_true rfl, Nat.le_of_ble_eq_true rfl⟩ ⟨rfl, rfl⟩ ⟨Nat.zero_le _, Nat.zero_le _⟩ rfl (Nat.le_of_ble_eq_true rfl) dX4_readNumber_70 (fun v_ τ_ H locs hq hP hS => ?_)
              obtain ⟨rfl, rfl⟩ := hq
              refine lv_iadd hx hb dX4_readNumber_73 ?_
              refine lv_bipush (v := 48) hx hb dX4_readNumber_74 (by decide) ?_
              refine lv_isub hx hb dX4_readNumber_76 ?_
              refine lv_istore_n (lv' := [(3, .int ((((vX (σ 2) (skB (σ 2) len a) d) * 10) + (ltr (σ 2) len ((skB (σ 2) len a) + d))) - 48)), (0, .ref (ad 1)), (1, .int lo), (2, .int hi)]) hx hb dX4_readNumber_77 rfl hl (by decide) rfl (fun ls hl => ?_)
              refine lv_aload_n hx hb dX4_readNumber_78 rfl (lv_at hl 1 rfl) ?_
              refine lv_dup hx hb dX4_readNumber_79 rfl ?_
              refine rp_get (C := RX4) (T := TX4) (N := 6) hx hb hts in_X4_readNumber_X4 hown hK hP 1 (by decide) (kX4 _) rfl 4 (by decide) (by decide +kernel) rfl dX4_readNumber_80 ?_
              rw [show (va_up σ 1 (upd (upd (σ 1) 5 (nI (skB (σ 2) len a))) 4 (nI ((skB (σ 2) len a) + d)))) 1 4 = (nI ((skB (σ 2) len a) + d)) from (va_S'.trans pk_us)]
              refine lv_iconst (v := 1) hx hb dX4_readNumber_83 (by decide) ?_
              refine lv_iadd hx hb dX4_readNumber_84 ?_
              refine rp_put (C := RX4) (T := TX4) (N := 6) (v := ((nI ((skB (σ 2) len a) + d)) + 1)) hx hb hts in_X4_readNumber_X4 tyX4 tyX4_ok nmX4 hown hK hP hD hS 1 (by decide) (kX4 _) rfl 4 (by decide) (by decide +kernel) rfl rfl rfl (Nat.le_of_ble_eq_true rfl) (kX4 _) dX4_readNumber_85 (fun H locs hP hS => ?_)
              rw [show up2 (va_up σ 1 (upd (upd (σ 1) 5 (nI (skB (σ 2) len a))) 4 (nI ((skB (σ 2) len a) + d)))) 1 4 ((nI ((skB (σ 2) len a) + d)) + 1) = va_up σ 1 (upd (upd (upd (σ 1) 5 (nI (skB (σ 2) len a))) 4 (nI ((skB (σ 2) len a) + d))) 4 ((nI ((skB (σ 2) len a) + d)) + 1)) from (vu_up _ _ _ _ _)] at hP
              refine lv_goto (tgt := 23) hx hb dX4_readNumber_88 (by decide) ?_
              exact ih23 (d + 1) (by omega) (by rw [← hF]; exact edD_t hd2 (lt_F hd2 c45)) (by omega) _ _ _ _ _ (vX_t (by omega) hd2) (by rw [upd_u, nI_1]; rfl) hP hS (lv_sub hl [0, 1, 2, 3] rfl)
    exact L23 ((len - ((skB (σ 2) len a) + 0)) + 1) 0 (by omega) rfl (Nat.lt_succ_self _) _ _ _ _ _ rfl (by rw [Nat.add_zero, upd_sw _ (by decide)]) hP hS (lv_sub hl [0, 1, 2, 3] rfl)
  · skip
    refine lv_iconst (v := (-1)) hx hb dX4_readNumber_7 (by decide) ?_
    exact hret hP hS dX4_readNumber_8 rfl ⟨(if_neg c4), (rn_a c4 ea eK eP ena)⟩
