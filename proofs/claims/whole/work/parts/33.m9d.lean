theorem in_X9_draw_X9 : ∀ w ∈ u_ws RX9 TX9 38, w ∈ wsX9_draw := by decide +kernel
set_option maxHeartbeats 1000000 in
set_option maxRecDepth 100000 in
theorem c_X9_draw (l : Launch) (D : va_G) (cy : Nat → ClassId) (ad : Nat → Nat) (σ : Nat → Nat → Int32) (sd : Nat) (m : Nat) (hsd : sd < 2 ^ 31) (esd : σ 0 12 = nI sd) (hm : 0 < m) (hm2 : m < 2 ^ 31) : MI l D (tysW cy) 19 ad (cfM ad cy) yX9_draw wsX9_draw ({ frames := 0, cells := 0, slots := 0, locals := 0 }) σ [.ref (ad 0), .int (nI m)] (fun v_ τ_ => (nI (lcg sd / 65536 % m)) = v_ ∧ (up2 σ 0 12 (nI (lcg sd))) = τ_) := by
  refine MI.go (cc := cX9_draw) (maxL := 2) .int (by decide) rfl (Nat.le_of_ble_eq_true rfl) ?_
  intro p_ e_ s_ m_ args_ bl_ mt_ c_ A_ Q_ ls hx hb hml hown hts hK hA hD hP hS hl hret
  have hl : lv_has ls 2 [(0, .ref (ad 0)), (1, .int (nI m))] := hl
  refine lv_aload_n hx hb dX9_draw_0 rfl (lv_at hl 0 rfl) ?_
  refine lv_aload_n hx hb dX9_draw_1 rfl (lv_at hl 0 rfl) ?_
  refine rp_get (C := RX9) (T := TX9) (N := 38) hx hb hts in_X9_draw_X9 hown hK hP 0 (by decide) (kX9 _) rfl 12 (by decide) (by decide +kernel) rfl dX9_draw_2 ?_
  rw [esd]
  refine lv_i2l (v := ((nI sd)).toInt64) hx hb dX9_draw_5 rfl ?_
  refine lv_ldc2 (v := 1103515245) hx hb hown (hts (.constantLong RX9 262 (1103515245)) (by decide +kernel)) dX9_draw_6 ?_
  refine lv_lmul hx hb dX9_draw_9 ?_
  refine lv_ldc2 (v := 12345) hx hb hown (hts (.constantLong RX9 264 (12345)) (by decide +kernel)) dX9_draw_10 ?_
  refine lv_ladd hx hb dX9_draw_13 ?_
  refine lv_ldc2 (v := 2147483648) hx hb hown (hts (.constantLong RX9 266 (2147483648)) (by decide +kernel)) dX9_draw_14 ?_
  refine lv_lrem hx hb dX9_draw_17 (by first | decide | assumption) ?_
  refine lv_l2i (v := ((((((nI sd)).toInt64 * 1103515245) + 12345) - ((((nI sd)).toInt64 * 1103515245) + 12345) / 2147483648 * 2147483648)).toInt32) hx hb dX9_draw_18 rfl ?_
  rw [lcg_M hsd]
  refine rp_put (C := RX9) (T := TX9) (N := 38) (v := (nI (lcg sd))) hx hb hts in_X9_draw_X9 tyX9 tyX9_ok nmX9 hown hK hP hD hS 0 (by decide) (kX9 _) rfl 12 (by decide) (by decide +kernel) rfl rfl rfl (Nat.le_of_ble_eq_true rfl) (kX9 _) dX9_draw_19 (fun H locs hP hS => ?_)
  refine lv_aload_n hx hb dX9_draw_22 rfl (lv_at hl 0 rfl) ?_
  refine rp_get (C := RX9) (T := TX9) (N := 38) hx hb hts in_X9_draw_X9 hown hK hP 0 (by decide) (kX9 _) rfl 12 (by decide) (by decide +kernel) rfl dX9_draw_23 ?_
  rw [show (up2 σ 0 12 (nI (lcg sd))) 0 12 = (nI (lcg sd)) from up2_S]
  refine lv_ldcw (v := 65536) hx hb hown (hts (.constant RX9 268 (65536)) (by decide +kernel)) dX9_draw_26 ?_
  refine lv_idiv hx hb dX9_draw_29 (by first | decide | assumption) ?_
  refine lv_iload_n hx hb dX9_draw_30 rfl (lv_at hl 1 rfl) ?_
  refine lv_irem hx hb dX9_draw_31 (nI_ne0 hm hm2) ?_
  rw [dr_M hm hm2]
  exact hret hP hS dX9_draw_32 rfl ⟨rfl, rfl⟩

def R_X9_night (σ : Nat → Nat → Int32) (u : Nat) (v : Int32) : Int32 := (if (R_X9_nightsRefused σ v) = 0 then ((itN (fun N => T_X9_pass N (σ 0 2)) (v.toNatClampNeg) (σ 6)) 12) else (R_X9_nightsRefused σ v))
def T_X9_night (σ : Nat → Nat → Int32) (u : Nat) (v : Int32) : Nat → Nat → Int32 := (if (R_X9_nightsRefused σ v) = 0 then va_up (remT σ u) 6 (itN (fun N => T_X9_pass N (σ 0 2)) (v.toNatClampNeg) (σ 6)) else σ)
theorem in_X9_night_X9 : ∀ w ∈ u_ws RX9 TX9 38, w ∈ wsX9_night := by decide +kernel
set_option maxHeartbeats 1000000 in
set_option maxRecDepth 100000 in
theorem c_X9_night (l : Launch) (D : va_G) (cy : Nat → ClassId) (ad : Nat → Nat) (σ : Nat → Nat → Int32) (u : Nat) (v : Int32) (hu : u ≤ 16) (eu : σ 0 31 = nI u) : MI l D (tysW cy) 19 ad (cfM ad cy) yX9_night wsX9_night ({ frames := 2, cells := 0, slots := 0, locals := 46 }) σ [.ref (ad 0), .int v] (fun v_ τ_ => (R_X9_night σ u v) = v_ ∧ (T_X9_night σ u v) = τ_) := by
  refine MI.go (cc := cX9_night) (maxL := 4) .int (by decide) rfl (Nat.le_of_ble_eq_true rfl) ?_
  intro p_ e_ s_ m_ args_ bl_ mt_ c_ A_ Q_ ls hx hb hml hown hts hK hA hD hP hS hl hret
  have hl : lv_has ls 4 [(0, .ref (ad 0)), (1, .int v)] := hl
  refine lv_aload_n hx hb dX9_night_0 rfl (lv_at hl 0 rfl) ?_
  refine lv_iload_n hx hb dX9_night_1 rfl (lv_at hl 1 rfl) ?_
  refine rp_callVI (na := 1) hx hb hml hown hts hK hA hD hP hS hl.1 0 (by decide) (kX9 _) rfl [.int v] (c_X9_nightsRefused l D cy ad σ v ) gX9_night_X9_nightsRefused rfl (by decide +kernel) rfl ⟨Nat.le_of_ble_eq_true rfl, Nat.le_of_ble_eq_true rfl⟩ ⟨rfl, rfl⟩ ⟨Nat.zero_le _, Nat.zero_le _⟩ rfl (Nat.le_of_ble_eq_true rfl) dX9_night_2 (fun v_ τ_ H locs hq hP hS => ?_)
  obtain ⟨rfl, rfl⟩ := hq
  refine lv_istore_n (lv' := [(2, .int (R_X9_nightsRefused σ v)), (0, .ref (ad 0)), (1, .int v)]) hx hb dX9_night_5 rfl hl (by decide) rfl (fun ls hl => ?_)
  refine lv_iload_n hx hb dX9_night_6 rfl (lv_at hl 0 rfl) ?_
  refine lv_if_eq (tgt := 12) hx hb dX9_night_7 (by decide) (fun c7 => ?_) (fun c7 => ?_)
  · skip
    have cNR := nr_v c7
    obtain ⟨jv, hjv, rfl⟩ := nI_60 cNR
    refine lv_aload_n hx hb dX9_night_12 rfl (lv_at hl 1 rfl) ?_
    refine rp_callVV (na := 0) hx hb hml hown hts hK hA hD hP hS hl.1 0 (by decide) (kX9 _) rfl [] (c_X9_remember l D cy ad σ u (by first | assumption | omega) (by first | assumption | rfl)) gX9_night_X9_remember rfl (by decide +kernel) rfl ⟨Nat.le_of_ble_eq_true rfl, Nat.le_of_ble_eq_true rfl⟩ ⟨rfl, rfl⟩ ⟨Nat.zero_le _, Nat.zero_le _⟩ rfl (Nat.le_of_ble_eq_true rfl) dX9_night_13 (fun τ_ H locs hq hP hS => ?_)
    subst hq
    refine lv_iconst (v := 0) hx hb dX9_night_16 (by decide) ?_
    refine lv_istore_n (lv' := [(3, .int 0), (2, .int (R_X9_nightsRefused σ (nI jv))), (0, .ref (ad 0)), (1, .int (nI jv))]) hx hb dX9_night_17 rfl hl (by decide) rfl (fun ls hl => ?_)
    have L18 : ∀ (fu18 : Nat) (i : Nat), (i ≤ jv) → jv - i < fu18 → ∀ (x3 : Int32) (τ : Nat → Nat → Int32) (H : Heap) (locs : List Loc) (ls : Array Slot), (nI i) = x3 → (va_up (remT σ u) 6 (itN (fun N => T_X9_pass N (σ 0 2)) i (σ 6))) = τ → va_P D classes (rw_ 19 ad (cfM ad cy) τ) H → va_S A_ s_.heap H locs → lv_has ls 4 [(3, .int x3), (2, .int (R_X9_nightsRefused σ (nI jv))), (0, .ref (ad 0)), (1, .int (nI jv))] → W p_ l e_ ({ frames := 2, cells := 0, slots := 0, locals := 46 }) s_ m_ args_ bl_ mt_ c_ H locs 0 0 Q_ (F0 m_ 18 ls []) := by
      intro fu18
      induction fu18 with
      | zero => intro i hi hf; exact absurd hf (Nat.not_lt_zero _)
      | succ fu18 ih18 =>
        intro i hi hf18 x3 τ H locs ls ex3 eτ hP hS hl
        subst ex3
        subst eτ
        refine lv_iload_n hx hb dX9_night_18 rfl (lv_at hl 0 rfl) ?_
        refine lv_iload_n hx hb dX9_night_19 rfl (lv_at hl 3 rfl) ?_
        refine lv_icmp_ge (tgt := 33) hx hb dX9_night_20 (by decide) (fun c20 => ?_) (fun c20 => ?_)
        · skip
          have ei := cl_ex hi (by omega) c20
          refine lv_aload_n hx hb dX9_night_33 rfl (lv_at hl 2 rfl) ?_
          refine rp_get (C := RX9) (T := TX9) (N := 38) hx hb hts in_X9_night_X9 hown hK hP 0 (by decide) (kX9 _) rfl 11 (by decide) (by decide +kernel) rfl dX9_night_34 ?_
          refine lv_bipush (v := 12) hx hb dX9_night_37 (by decide) ?_
          refine rp_iald hx hb hK hP 6 (by decide) (kX9_11 _) 0 rfl 12 rfl (by decide) (by decide) dX9_night_39 ?_
          rw [show (va_up (remT σ u) 6 (itN (fun N => T_X9_pass N (σ 0 2)) i (σ 6))) 6 12 = ((itN (fun N => T_X9_pass N (σ 0 2)) i (σ 6)) 12) from va_S']
          exact hret hP hS dX9_night_40 rfl ⟨(by unfold R_X9_night <;> (try rw [nI_clamp (n := jv) (by omega)]) <;> rw [if_pos c7] <;> first | with_reducible rfl | (rw [ei]) | (rw [nI_clamp (by omega), ei])), (by unfold T_X9_night <;> (try rw [nI_clamp (n := jv) (by omega)]) <;> rw [if_pos c7] <;> first | with_reducible rfl | (rw [ei]) | (rw [nI_clamp (by omega), ei]))⟩
        · skip
          have hi2 := cl_in (by omega) (by omega) c20
          refine lv_aload_n hx hb dX9_night_23 rfl (lv_at hl 2 rfl) ?_
          refine rp_callVV (na := 0) hx hb hml hown hts hK hA hD hP hS hl.1 0 (by decide) (kX9 _) rfl [] (c_X9_pass l D cy ad (va_up (remT σ u) 6 (itN (fun N => T_X9_pass N (σ 0 2)) i (σ 6))) (itN (fun N => T_X9_pass N (σ 0 2)) i (σ 6)) (σ 0 2) va_Qs ((va_R (by decide)).trans (remT_0 _ _ (by decide)))) gX9_night_X9_pass rfl (by decide +kernel) rfl ⟨Nat.le_of_ble_eq_true rfl, Nat.le_of_ble_eq_true rfl⟩ ⟨rfl, rfl⟩ ⟨Nat.zero_le _, Nat.zero_le _⟩ rfl (Nat.le_of_ble_eq_true rfl) dX9_night_24 (fun τ_ H locs hq hP hS => ?_)
          subst hq
          refine lv_iinc (v := ((nI i) + 1)) (lv' := [(3, .int ((nI i) + 1)), (2, .int (R_X9_nightsRefused σ (nI jv))), (0, .ref (ad 0)), (1, .int (nI jv))]) hx hb dX9_night_27 hl (k := 0) rfl rfl (by decide) rfl (fun ls hl => ?_)
          refine lv_goto (tgt := 18) hx hb dX9_night_30 (by decide) ?_
          exact ih18 (i + 1) (by omega) (by omega) _ _ _ _ _ ((nI_1 i).symm) (by rw [bx_uu]; rfl) hP hS (lv_sub hl [0, 1, 2, 3] rfl)
    exact L18 ((jv - 0) + 1) 0 (Nat.zero_le _) (Nat.lt_succ_self _) _ _ _ _ _ (by first | rfl | simp [*]) (va_selfR _ _ (remT_r _ _ (by decide) (by decide))) hP hS (lv_sub hl [0, 1, 2, 3] rfl)
  · skip
    refine lv_iload_n hx hb dX9_night_10 rfl (lv_at hl 0 rfl) ?_
    exact hret hP hS dX9_night_11 rfl ⟨(by unfold R_X9_night <;> rw [if_neg c7] <;> first | with_reducible rfl | (rw [nI_clamp (by omega), ei])), (by unfold T_X9_night <;> rw [if_neg c7] <;> first | with_reducible rfl | (rw [nI_clamp (by omega), ei]))⟩

theorem in_X9_undo_X9 : ∀ w ∈ u_ws RX9 TX9 38, w ∈ wsX9_undo := by decide +kernel
set_option maxHeartbeats 1000000 in
set_option maxRecDepth 100000 in
theorem c_X9_undo (l : Launch) (D : va_G) (cy : Nat → ClassId) (ad : Nat → Nat) (σ : Nat → Nat → Int32) (u : Nat) (hu : u ≤ 16) (eu : σ 0 31 = nI u) : MI l D (tysW cy) 19 ad (cfM ad cy) yX9_undo wsX9_undo ({ frames := 0, cells := 0, slots := 0, locals := 0 }) σ [.ref (ad 0)] (fun v_ τ_ => (if u = 0 then (-1000000003) else nI (u - 1)) = v_ ∧ (if u = 0 then σ else va_up (up2 σ 0 31 (nI (u - 1))) 6 (putN (σ 6) (fun j => σ 14 (23 * (u - 1) + j)) 0 23)) = τ_) := by
  refine MI.go (cc := cX9_undo) (maxL := 2) .int (by decide) rfl (Nat.le_of_ble_eq_true rfl) ?_
  intro p_ e_ s_ m_ args_ bl_ mt_ c_ A_ Q_ ls hx hb hml hown hts hK hA hD hP hS hl hret
  have hl : lv_has ls 2 [(0, .ref (ad 0))] := hl
  refine lv_aload_n hx hb dX9_undo_0 rfl (lv_at hl 0 rfl) ?_
  refine rp_get (C := RX9) (T := TX9) (N := 38) hx hb hts in_X9_undo_X9 hown hK hP 0 (by decide) (kX9 _) rfl 31 (by decide) (by decide +kernel) rfl dX9_undo_1 ?_
  rw [eu]
  refine lv_if_ne (tgt := 10) hx hb dX9_undo_4 (by decide) (fun c4 => ?_) (fun c4 => ?_)
  · skip
    obtain ⟨q, rfl⟩ := pos_q c4
    refine lv_aload_n hx hb dX9_undo_10 rfl (lv_at hl 0 rfl) ?_
    refine lv_dup hx hb dX9_undo_11 rfl ?_
    refine rp_get (C := RX9) (T := TX9) (N := 38) hx hb hts in_X9_undo_X9 hown hK hP 0 (by decide) (kX9 _) rfl 31 (by decide) (by decide +kernel) rfl dX9_undo_12 ?_
    rw [eu]
    refine lv_iconst (v := 1) hx hb dX9_undo_15 (by decide) ?_
    refine lv_isub hx hb dX9_undo_16 ?_
    rw [nI_pred]
    refine rp_put (C := RX9) (T := TX9) (N := 38) (v := (nI q)) hx hb hts in_X9_undo_X9 tyX9 tyX9_ok nmX9 hown hK hP hD hS 0 (by decide) (kX9 _) rfl 31 (by decide) (by decide +kernel) rfl rfl rfl (Nat.le_of_ble_eq_true rfl) (kX9 _) dX9_undo_17 (fun H locs hP hS => ?_)
    refine lv_iconst (v := 0) hx hb dX9_undo_20 (by decide) ?_
    refine lv_istore_n (lv' := [(1, .int 0), (0, .ref (ad 0))]) hx hb dX9_undo_21 rfl hl (by decide) rfl (fun ls hl => ?_)
    have L22 : ∀ (fu22 : Nat) (i : Nat), (i ≤ 23) → 23 - i < fu22 → ∀ (x1 : Int32) (τ : Nat → Nat → Int32) (H : Heap) (locs : List Loc) (ls : Array Slot), (nI i) = x1 → (va_up (up2 σ 0 31 (nI q)) 6 (putN (σ 6) (fun j => σ 14 (23 * q + j)) 0 i)) = τ → va_P D classes (rw_ 19 ad (cfM ad cy) τ) H → va_S A_ s_.heap H locs → lv_has ls 2 [(1, .int x1), (0, .ref (ad 0))] → W p_ l e_ ({ frames := 0, cells := 0, slots := 0, locals := 0 }) s_ m_ args_ bl_ mt_ c_ H locs 0 0 Q_ (F0 m_ 22 ls []) := by
      intro fu22
      induction fu22 with
      | zero => intro i hi hf; exact absurd hf (Nat.not_lt_zero _)
      | succ fu22 ih22 =>
        intro i hi hf22 x1 τ H locs ls ex1 eτ hP hS hl
        subst ex1
        subst eτ
        refine lv_iload_n hx hb dX9_undo_22 rfl (lv_at hl 0 rfl) ?_
        refine lv_bipush (v := 23) hx hb dX9_undo_23 (by decide) ?_
        refine lv_icmp_ge (tgt := 54) hx hb dX9_undo_25 (by decide) (fun c25 => ?_) (fun c25 => ?_)
        · skip
          have ei : i = 23 := cl_ex hi (by omega) c25
          refine lv_aload_n hx hb dX9_undo_54 rfl (lv_at hl 1 rfl) ?_
          refine rp_get (C := RX9) (T := TX9) (N := 38) hx hb hts in_X9_undo_X9 hown hK hP 0 (by decide) (kX9 _) rfl 31 (by decide) (by decide +kernel) rfl dX9_undo_55 ?_
          rw [show (va_up (up2 σ 0 31 (nI q)) 6 (putN (σ 6) (fun j => σ 14 (23 * q + j)) 0 i)) 0 31 = (nI q) from ((va_R (by decide)).trans up2_S)]
          exact hret hP hS dX9_undo_58 rfl ⟨(by rw [if_neg (by omega)]; rfl), (by rw [if_neg (by omega), ei]; rfl)⟩
        · skip
          have hi2 : i < 23 := cl_in (by omega) (by omega) c25
          refine lv_aload_n hx hb dX9_undo_28 rfl (lv_at hl 1 rfl) ?_
          refine rp_get (C := RX9) (T := TX9) (N := 38) hx hb hts in_X9_undo_X9 hown hK hP 0 (by decide) (kX9 _) rfl 11 (by decide) (by decide +kernel) rfl dX9_undo_29 ?_
          refine lv_iload_n hx hb dX9_undo_32 rfl (lv_at hl 0 rfl) ?_
          refine lv_aload_n hx hb dX9_undo_33 rfl (lv_at hl 1 rfl) ?_
          refine rp_get (C := RX9) (T := TX9) (N := 38) hx hb hts in_X9_undo_X9 hown hK hP 0 (by decide) (kX9 _) rfl 32 (by decide) (by decide +kernel) rfl dX9_undo_34 ?_
          refine lv_bipush (v := 23) hx hb dX9_undo_37 (by decide) ?_
          refine lv_aload_n hx hb dX9_undo_39 rfl (lv_at hl 1 rfl) ?_
          refine rp_get (C := RX9) (T := TX9) (N := 38) hx hb hts in_X9_undo_X9 hown hK hP 0 (by decide) (kX9 _) rfl 31 (by decide) (by decide +kernel) rfl dX9_undo_40 ?_
          rw [show (va_up (up2 σ 0 31 (nI q)) 6 (putN (σ 6) (fun j => σ 14 (23 * q + j)) 0 i)) 0 31 = (nI q) from ((va_R (by decide)).trans up2_S)]
          refine lv_imul hx hb dX9_undo_43 ?_
          refine lv_iload_n hx hb dX9_undo_44 rfl (lv_at hl 0 rfl) ?_
          refine lv_iadd hx hb dX9_undo_45 ?_
          refine rp_iald hx hb hK hP 14 (by decide) (kX9_32 _) 0 rfl (23 * q + i) (nI_lin 23 q i) (by omega) (by decide) dX9_undo_46 ?_
          rw [show (va_up (up2 σ 0 31 (nI q)) 6 (putN (σ 6) (fun j => σ 14 (23 * q + j)) 0 i)) 14 (23 * q + i) = (σ 14 (23 * q + i)) from ((va_R (by decide)).trans (up2_R (by decide)))]
          refine rp_iast (x := (σ 14 (23 * q + i))) hx hb hK hP hD hS 6 (by decide) (fun f => kX9_11 f) 0 rfl i rfl (by omega) (by decide) dX9_undo_47 (fun H locs hP hS => ?_)
          refine lv_iinc (v := ((nI i) + 1)) (lv' := [(1, .int ((nI i) + 1)), (0, .ref (ad 0))]) hx hb dX9_undo_48 hl (k := 0) rfl rfl (by decide) rfl (fun ls hl => ?_)
          refine lv_goto (tgt := 22) hx hb dX9_undo_51 (by decide) ?_
          exact ih22 (i + 1) (by omega) (by omega) _ _ _ _ _ ((nI_1 i).symm) (by rw [vu_up, ← putN_s, Nat.zero_add]) hP hS (lv_sub hl [0, 1] rfl)
    exact L22 ((23 - 0) + 1) 0 (Nat.zero_le _) (Nat.lt_succ_self _) _ _ _ _ _ (by first | rfl | simp [*]) (by rw [putN_0]; exact va_selfR _ _ (up2_Q (by decide))) hP hS (lv_sub hl [0, 1] rfl)
  · skip
    have hu0 := eq_of_nI (N := 0) (by omega) (by omega) c4
    refine lv_ldc (v := (-1000000003)) hx hb hown (hts (.constant RX9 232 (-1000000003)) (by decide +kernel)) dX9_undo_7 ?_
    exact hret hP hS dX9_undo_9 rfl ⟨(by rw [if_pos hu0]), (by rw [if_pos hu0])⟩

theorem in_X9_turn_X9 : ∀ w ∈ u_ws RX9 TX9 38, w ∈ wsX9_turn := by decide +kernel
set_option maxHeartbeats 1000000 in
set_option maxRecDepth 100000 in
theorem c_X9_turn (l : Launch) (D : va_G) (cy : Nat → ClassId) (ad : Nat → Nat) (σ : Nat → Nat → Int32) (n : Nat) (k : Nat) (u : Nat) (w : Nat) (pp : Nat) (ss : Nat) (hn : n ≤ 10) (hk : k ≤ 5) (hu : u ≤ 16) (eu : σ 0 31 = nI u) (hw : w ≤ 6) (ew : σ 6 16 = nI w) (hv : 0 < w → σ 6 17 = nI (10 * pp + ss) ∧ pp < k ∧ ss < n) : MI l D (tysW cy) 19 ad (cfM ad cy) yX9_turn wsX9_turn ({ frames := 3, cells := 0, slots := 0, locals := 72 }) σ [.ref (ad 0)] (fun v_ τ_ => (if nI w = 0 then (-1000000003) else R_X9_pourNow (σ 1) (σ 2) (σ 3) (turnQ (σ 6) (w - 1)) pp ss) = v_ ∧ (if nI w = 0 then σ else va_up (remT σ u) 6 (turnN (σ 1) (σ 2) (σ 3) (σ 6) (w - 1) pp ss)) = τ_) := by
  refine MI.go (cc := cX9_turn) (maxL := 3) .int (by decide) rfl (Nat.le_of_ble_eq_true rfl) ?_
  intro p_ e_ s_ m_ args_ bl_ mt_ c_ A_ Q_ ls hx hb hml hown hts hK hA hD hP hS hl hret
  have hl : lv_has ls 3 [(0, .ref (ad 0))] := hl
  refine lv_aload_n hx hb dX9_turn_0 rfl (lv_at hl 0 rfl) ?_
  refine rp_get (C := RX9) (T := TX9) (N := 38) hx hb hts in_X9_turn_X9 hown hK hP 0 (by decide) (kX9 _) rfl 11 (by decide) (by decide +kernel) rfl dX9_turn_1 ?_
  refine lv_bipush (v := 16) hx hb dX9_turn_4 (by decide) ?_
  refine rp_iald hx hb hK hP 6 (by decide) (kX9_11 _) 0 rfl 16 rfl (by decide) (by decide) dX9_turn_6 ?_
  rw [ew]
  refine lv_if_ne (tgt := 13) hx hb dX9_turn_7 (by decide) (fun c7 => ?_) (fun c7 => ?_)
  · skip
    obtain ⟨q, rfl⟩ := pos_q c7
    obtain ⟨hv1, hv2, hv3⟩ := hv (by omega)
    refine lv_aload_n hx hb dX9_turn_13 rfl (lv_at hl 0 rfl) ?_
    refine rp_callVV (na := 0) hx hb hml hown hts hK hA hD hP hS hl.1 0 (by decide) (kX9 _) rfl [] (c_X9_remember l D cy ad σ u (by first | assumption | omega) (by first | assumption | rfl)) gX9_turn_X9_remember rfl (by decide +kernel) rfl ⟨Nat.le_of_ble_eq_true rfl, Nat.le_of_ble_eq_true rfl⟩ ⟨rfl, rfl⟩ ⟨Nat.zero_le _, Nat.zero_le _⟩ rfl (Nat.le_of_ble_eq_true rfl) dX9_turn_14 (fun τ_ H locs hq hP hS => ?_)
    subst hq
    refine lv_aload_n hx hb dX9_turn_17 rfl (lv_at hl 0 rfl) ?_
    refine rp_get (C := RX9) (T := TX9) (N := 38) hx hb hts in_X9_turn_X9 hown hK hP 0 (by decide) (kX9 _) rfl 11 (by decide) (by decide +kernel) rfl dX9_turn_18 ?_
    refine lv_bipush (v := 17) hx hb dX9_turn_21 (by decide) ?_
    refine rp_iald hx hb hK hP 6 (by decide) (kX9_11 _) 0 rfl 17 rfl (by decide) (by decide) dX9_turn_23 ?_
    rw [remT_r _ _ (show (6:Nat) ≠ 0 by decide) (show (6:Nat) ≠ 14 by decide)]
    refine lv_istore_n (lv' := [(1, .int (σ 6 17)), (0, .ref (ad 0))]) hx hb dX9_turn_24 rfl hl (by decide) rfl (fun ls hl => ?_)
    refine lv_aload_n hx hb dX9_turn_25 rfl (lv_at hl 1 rfl) ?_
    refine rp_get (C := RX9) (T := TX9) (N := 38) hx hb hts in_X9_turn_X9 hown hK hP 0 (by decide) (kX9 _) rfl 11 (by decide) (by decide +kernel) rfl dX9_turn_26 ?_
    refine lv_bipush (v := 16) hx hb dX9_turn_29 (by decide) ?_
    refine lv_dup2_11 hx hb dX9_turn_31 rfl rfl ?_
    refine rp_iald hx hb hK hP 6 (by decide) (kX9_11 _) 0 rfl 16 rfl (by decide) (by decide) dX9_turn_32 ?_
    rw [remT_r _ _ (show (6:Nat) ≠ 0 by decide) (show (6:Nat) ≠ 14 by decide), ew]
    refine lv_iconst (v := 1) hx hb dX9_turn_33 (by decide) ?_
    refine lv_isub hx hb dX9_turn_34 ?_
    rw [nI_pred]
    refine rp_iast (x := (nI q)) hx hb hK hP hD hS 6 (by decide) (fun f => kX9_11 f) 0 rfl 16 rfl (by decide) (by decide) dX9_turn_35 (fun H locs hP hS => ?_)
    refine lv_iconst (v := 0) hx hb dX9_turn_36 (by decide) ?_
    refine lv_istore_n (lv' := [(2, .int 0), (1, .int (σ 6 17)), (0, .ref (ad 0))]) hx hb dX9_turn_37 rfl hl (by decide) rfl (fun ls hl => ?_)
    have L38 : ∀ (fu38 : Nat) (i : Nat), (i ≤ q) → q - i < fu38 → ∀ (x2 : Int32) (τ : Nat → Nat → Int32) (H : Heap) (locs : List Loc) (ls : Array Slot), (nI i) = x2 → (va_up (remT σ u) 6 (qsN (upd (σ 6) 16 (nI q)) i)) = τ → va_P D classes (rw_ 19 ad (cfM ad cy) τ) H → va_S A_ s_.heap H locs → lv_has ls 3 [(2, .int x2), (1, .int (σ 6 17)), (0, .ref (ad 0))] → W p_ l e_ ({ frames := 3, cells := 0, slots := 0, locals := 72 }) s_ m_ args_ bl_ mt_ c_ H locs 0 0 Q_ (F0 m_ 38 ls []) := by
      intro fu38
      induction fu38 with
      | zero => intro i hi hf; exact absurd hf (Nat.not_lt_zero _)
      | succ fu38 ih38 =>
        intro i hi hf38 x2 τ H locs ls ex2 eτ hP hS hl
        subst ex2
        subst eτ
        refine lv_iload_n hx hb dX9_turn_38 rfl (lv_at hl 0 rfl) ?_
        refine lv_aload_n hx hb dX9_turn_39 rfl (lv_at hl 2 rfl) ?_
        refine rp_get (C := RX9) (T := TX9) (N := 38) hx hb hts in_X9_turn_X9 hown hK hP 0 (by decide) (kX9 _) rfl 11 (by decide) (by decide +kernel) rfl dX9_turn_40 ?_
        refine lv_bipush (v := 16) hx hb dX9_turn_43 (by decide) ?_
        refine rp_iald hx hb hK hP 6 (by decide) (kX9_11 _) 0 rfl 16 rfl (by decide) (by decide) dX9_turn_45 ?_
        rw [show (va_up (remT σ u) 6 (qsN (upd (σ 6) 16 (nI q)) i)) 6 16 = ((qsN (upd (σ 6) 16 (nI q)) i) 16) from va_S']
        rw [qsN_at _ (Or.inl (by decide)), pk_us]
        refine lv_icmp_ge (tgt := 75) hx hb dX9_turn_46 (by decide) (fun c46 => ?_) (fun c46 => ?_)
        · skip
          have ei := cl_ex hi (by omega) c46
          refine lv_aload_n hx hb dX9_turn_75 rfl (lv_at hl 2 rfl) ?_
          refine rp_get (C := RX9) (T := TX9) (N := 38) hx hb hts in_X9_turn_X9 hown hK hP 0 (by decide) (kX9 _) rfl 11 (by decide) (by decide +kernel) rfl dX9_turn_76 ?_
          refine lv_bipush (v := 17) hx hb dX9_turn_79 (by decide) ?_
          refine lv_aload_n hx hb dX9_turn_81 rfl (lv_at hl 2 rfl) ?_
          refine rp_get (C := RX9) (T := TX9) (N := 38) hx hb hts in_X9_turn_X9 hown hK hP 0 (by decide) (kX9 _) rfl 11 (by decide) (by decide +kernel) rfl dX9_turn_82 ?_
          refine lv_bipush (v := 16) hx hb dX9_turn_85 (by decide) ?_
          refine rp_iald hx hb hK hP 6 (by decide) (kX9_11 _) 0 rfl 16 rfl (by decide) (by decide) dX9_turn_87 ?_
          rw [show (va_up (remT σ u) 6 (qsN (upd (σ 6) 16 (nI q)) i)) 6 16 = ((qsN (upd (σ 6) 16 (nI q)) i) 16) from va_S']
          rw [qsN_at _ (Or.inl (by decide)), pk_us]
          refine lv_iadd hx hb dX9_turn_88 ?_
          refine lv_iconst (v := 0) hx hb dX9_turn_89 (by decide) ?_
          refine rp_iast (x := 0) hx hb hK hP hD hS 6 (by decide) (fun f => kX9_11 f) 0 rfl (17 + q) (nI_add 17 q) (by omega) (by decide) dX9_turn_90 (fun H locs hP hS => ?_)
          rw [show (up2 (va_up (remT σ u) 6 (qsN (upd (σ 6) 16 (nI q)) i)) 6 (17 + q) 0) = (va_up (remT σ u) 6 (turnQ (σ 6) q)) from by rw [vu_up, ei]; rfl] at hP
          refine lv_aload_n hx hb dX9_turn_91 rfl (lv_at hl 2 rfl) ?_
          refine lv_iload_n hx hb dX9_turn_92 rfl (lv_at hl 1 rfl) ?_
          refine lv_bipush (v := 10) hx hb dX9_turn_93 (by decide) ?_
          refine lv_idiv hx hb dX9_turn_95 (by first | decide | assumption) ?_
          rw [hv1, dv10 (by omega)]
          refine lv_iload_n hx hb dX9_turn_96 rfl (lv_at hl 1 rfl) ?_
          refine lv_bipush (v := 10) hx hb dX9_turn_97 (by decide) ?_
          refine lv_irem hx hb dX9_turn_99 (by first | decide | assumption) ?_
          rw [hv1, rm10 (by omega)]
          refine rp_callVI (na := 2) hx hb hml hown hts hK hA hD hP hS hl.1 0 (by decide) (kX9 _) rfl [.int (nI pp), .int (nI ss)] (c_X9_pourNow l D cy ad (va_up (remT σ u) 6 (turnQ (σ 6) q)) (σ 1) (σ 2) (σ 3) (turnQ (σ 6) q) pp ss ((va_Q (by decide)).trans (remT_r _ _ (by decide) (by decide))) ((va_Q (by decide)).trans (remT_r _ _ (by decide) (by decide))) ((va_Q (by decide)).trans (remT_r _ _ (by decide) (by decide))) va_Qs (by first | assumption | omega) (by first | assumption | omega)) gX9_turn_X9_pourNow rfl (by decide +kernel) rfl ⟨Nat.le_of_ble_eq_true rfl, Nat.le_of_ble_eq_true rfl⟩ ⟨rfl, rfl⟩ ⟨Nat.zero_le _, Nat.zero_le _⟩ rfl (Nat.le_of_ble_eq_true rfl) dX9_turn_100 (fun v_ τ_ H locs hq hP hS => ?_)
          obtain ⟨rfl, rfl⟩ := hq
          refine lv_istore_n (lv' := [(2, .int (R_X9_pourNow (σ 1) (σ 2) (σ 3) (turnQ (σ 6) q) pp ss)), (1, .int (σ 6 17)), (0, .ref (ad 0))]) hx hb dX9_turn_103 rfl hl (by decide) rfl (fun ls hl => ?_)
          refine lv_iload_n hx hb dX9_turn_104 rfl (lv_at hl 0 rfl) ?_
          refine lv_if_le (tgt := 130) hx hb dX9_turn_105 (by decide) (fun c105 => ?_) (fun c105 => ?_)
          · skip
            refine lv_iload_n hx hb dX9_turn_130 rfl (lv_at hl 0 rfl) ?_
            exact hret hP hS dX9_turn_131 rfl ⟨(by rw [if_neg c7]; rfl), (by rw [if_neg c7]; simp only [bx_uu]; first | exact congrArg (va_up _ 6) (turnN_a c105) | exact congrArg (va_up _ 6) (turnN_b c105 c122) | exact congrArg (va_up _ 6) (turnN_c c105 c122))⟩
          · skip
            refine lv_aload_n hx hb dX9_turn_108 rfl (lv_at hl 2 rfl) ?_
            refine rp_get (C := RX9) (T := TX9) (N := 38) hx hb hts in_X9_turn_X9 hown hK hP 0 (by decide) (kX9 _) rfl 11 (by decide) (by decide +kernel) rfl dX9_turn_109 ?_
            refine lv_bipush (v := 10) hx hb dX9_turn_112 (by decide) ?_
            refine rp_iald hx hb hK hP 6 (by decide) (kX9_11 _) 0 rfl 10 rfl (by decide) (by decide) dX9_turn_114 ?_
            rw [show (va_up (va_up (remT σ u) 6 (turnQ (σ 6) q)) 6 (T_X9_pourNow (σ 1) (σ 2) (σ 3) (turnQ (σ 6) q) pp ss)) 6 10 = ((T_X9_pourNow (σ 1) (σ 2) (σ 3) (turnQ (σ 6) q) pp ss) 10) from va_S']
            refine lv_iload_n hx hb dX9_turn_115 rfl (lv_at hl 1 rfl) ?_
            refine lv_bipush (v := 10) hx hb dX9_turn_116 (by decide) ?_
            refine lv_irem hx hb dX9_turn_118 (by first | decide | assumption) ?_
            rw [hv1, rm10 (by omega)]
            refine rp_callSI (na := 2) hx hb hml hown hts hK hA hD hP hS hl.1 [.int ((T_X9_pourNow (σ 1) (σ 2) (σ 3) (turnQ (σ 6) q) pp ss) 10), .int (nI ss)] (c_X9_has l D cy ad (va_up (va_up (remT σ u) 6 (turnQ (σ 6) q)) 6 (T_X9_pourNow (σ 1) (σ 2) (σ 3) (turnQ (σ 6) q) pp ss)) ((T_X9_pourNow (σ 1) (σ 2) (σ 3) (turnQ (σ 6) q) pp ss) 10) (nI ss) ) gX9_turn_X9_has rfl (by decide +kernel) rfl ⟨Nat.le_of_ble_eq_true rfl, Nat.le_of_ble_eq_true rfl⟩ ⟨rfl, rfl⟩ ⟨Nat.zero_le _, Nat.zero_le _⟩ rfl (Nat.le_of_ble_eq_true rfl) dX9_turn_119 (fun v_ τ_ H locs hq hP hS => ?_)
            obtain ⟨rfl, rfl⟩ := hq
            refine lv_if_ne (tgt := 130) hx hb dX9_turn_122 (by decide) (fun c122 => ?_) (fun c122 => ?_)
            · skip
              have c122 := bi_ne0.mp c122
              refine lv_iload_n hx hb dX9_turn_130 rfl (lv_at hl 0 rfl) ?_
              exact hret hP hS dX9_turn_131 rfl ⟨(by rw [if_neg c7]; rfl), (by rw [if_neg c7]; simp only [bx_uu]; first | exact congrArg (va_up _ 6) (turnN_a c105) | exact congrArg (va_up _ 6) (turnN_b c105 c122) | exact congrArg (va_up _ 6) (turnN_c c105 c122))⟩
            · skip
              have c122 := bi_eq0.mp c122
              refine lv_aload_n hx hb dX9_turn_125 rfl (lv_at hl 2 rfl) ?_
              refine lv_iload_n hx hb dX9_turn_126 rfl (lv_at hl 1 rfl) ?_
              refine rp_callVV (na := 1) hx hb hml hown hts hK hA hD hP hS hl.1 0 (by decide) (kX9 _) rfl [.int (σ 6 17)] (c_X9_lineUp l D cy ad (va_up (va_up (remT σ u) 6 (turnQ (σ 6) q)) 6 (T_X9_pourNow (σ 1) (σ 2) (σ 3) (turnQ (σ 6) q) pp ss)) (T_X9_pourNow (σ 1) (σ 2) (σ 3) (turnQ (σ 6) q) pp ss) q (σ 6 17) va_Qs (by omega) ((pourNow_hi _ _ _ _ _ (by omega) (by decide)).trans (turnQ_16 _ _))) gX9_turn_X9_lineUp rfl (by decide +kernel) rfl ⟨Nat.le_of_ble_eq_true rfl, Nat.le_of_ble_eq_true rfl⟩ ⟨rfl, rfl⟩ ⟨Nat.zero_le _, Nat.zero_le _⟩ rfl (Nat.le_of_ble_eq_true rfl) dX9_turn_127 (fun τ_ H locs hq hP hS => ?_)
              subst hq
              refine lv_iload_n hx hb dX9_turn_130 rfl (lv_at hl 0 rfl) ?_
              exact hret hP hS dX9_turn_131 rfl ⟨(by rw [if_neg c7]; rfl), (by rw [if_neg c7]; simp only [bx_uu]; first | exact congrArg (va_up _ 6) (turnN_a c105) | exact congrArg (va_up _ 6) (turnN_b c105 c122) | exact congrArg (va_up _ 6) (turnN_c c105 c122))⟩
        · skip
          have hi2 := cl_in (by omega) (by omega) c46
          refine lv_aload_n hx hb dX9_turn_49 rfl (lv_at hl 2 rfl) ?_
          refine rp_get (C := RX9) (T := TX9) (N := 38) hx hb hts in_X9_turn_X9 hown hK hP 0 (by decide) (kX9 _) rfl 11 (by decide) (by decide +kernel) rfl dX9_turn_50 ?_
          refine lv_bipush (v := 17) hx hb dX9_turn_53 (by decide) ?_
          refine lv_iload_n hx hb dX9_turn_55 rfl (lv_at hl 0 rfl) ?_
          refine lv_iadd hx hb dX9_turn_56 ?_
          refine lv_aload_n hx hb dX9_turn_57 rfl (lv_at hl 2 rfl) ?_
          refine rp_get (C := RX9) (T := TX9) (N := 38) hx hb hts in_X9_turn_X9 hown hK hP 0 (by decide) (kX9 _) rfl 11 (by decide) (by decide +kernel) rfl dX9_turn_58 ?_
          refine lv_bipush (v := 17) hx hb dX9_turn_61 (by decide) ?_
          refine lv_iload_n hx hb dX9_turn_63 rfl (lv_at hl 0 rfl) ?_
          refine lv_iadd hx hb dX9_turn_64 ?_
          refine lv_iconst (v := 1) hx hb dX9_turn_65 (by decide) ?_
          refine lv_iadd hx hb dX9_turn_66 ?_
          refine rp_iald hx hb hK hP 6 (by decide) (kX9_11 _) 0 rfl (17 + i + 1) (nI_17 i) (by omega) (by decide) dX9_turn_67 ?_
          rw [show (va_up (remT σ u) 6 (qsN (upd (σ 6) 16 (nI q)) i)) 6 (17 + i + 1) = ((qsN (upd (σ 6) 16 (nI q)) i) (17 + i + 1)) from va_S']
          rw [qsN_at _ (Or.inr (by omega)), pk_un (by omega)]
          refine rp_iast (x := (σ 6 (17 + i + 1))) hx hb hK hP hD hS 6 (by decide) (fun f => kX9_11 f) 0 rfl (17 + i) (nI_add 17 i) (by omega) (by decide) dX9_turn_68 (fun H locs hP hS => ?_)
          refine lv_iinc (v := ((nI i) + 1)) (lv' := [(2, .int ((nI i) + 1)), (1, .int (σ 6 17)), (0, .ref (ad 0))]) hx hb dX9_turn_69 hl (k := 0) rfl rfl (by decide) rfl (fun ls hl => ?_)
          refine lv_goto (tgt := 38) hx hb dX9_turn_72 (by decide) ?_
          exact ih38 (i + 1) (by omega) (by omega) _ _ _ _ _ ((nI_1 i).symm) (by rw [vu_up, ← qsN_s, pk_un (by omega)]) hP hS (lv_sub hl [0, 1, 2] rfl)
    exact L38 ((q - 0) + 1) 0 (Nat.zero_le _) (Nat.lt_succ_self _) _ _ _ _ _ (by first | rfl | simp [*]) (by rw [qsN_0]; simp only [up2, remT_r _ _ (show (6:Nat) ≠ 0 by decide) (show (6:Nat) ≠ 14 by decide)]) hP hS (lv_sub hl [0, 1, 2] rfl)
  · skip
    refine lv_ldc (v := (-1000000003)) hx hb hown (hts (.constant RX9 232 (-1000000003)) (by decide +kernel)) dX9_turn_10 ?_
    exact hret hP hS dX9_turn_12 rfl ⟨(by rw [if_pos c7]), (by rw [if_pos c7])⟩
