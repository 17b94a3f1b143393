def R_X6_sayAgain (O : Nat → Int32) (V : Nat → Int32) (s : Nat) : Int32 := (V s)
def T_X6_sayAgain_O (O : Nat → Int32) (V : Nat → Int32) (s : Nat) : Nat → Int32 := upd O 4 ((O 4) &&& (((1 : Int32) <<< ((nI s) &&& 31)) ^^^ (-1)))
def T_X6_sayAgain_V (O : Nat → Int32) (V : Nat → Int32) (s : Nat) : Nat → Int32 := upd V s 0
theorem in_X6_sayAgain_X6 : ∀ w ∈ u_ws RX6 TX6 10, w ∈ wsX6_sayAgain := by decide +kernel
set_option maxHeartbeats 1000000 in
set_option maxRecDepth 100000 in
theorem c_X6_sayAgain (l : Launch) (D : va_G) (cy : Nat → ClassId) (ad : Nat → Nat) (y z : Nat) (σ : Nat → Nat → Int32) (O : Nat → Int32) (V : Nat → Int32) (i : Nat) (s : Nat) (r_O : σ (29 + 4 * i) = O) (r_V : σ (29 + 4 * i + 1) = V) (Hi : i < 20) (hs : s < 10) : MI l D (tysW cy) 109 ad (cfX ad cy y z) yX6_sayAgain wsX6_sayAgain ({ frames := 0, cells := 0, slots := 0, locals := 0 }) σ [.ref (ad (29 + 4 * i)), .int (nI s)] (fun v_ τ_ => (R_X6_sayAgain O V s) = v_ ∧ (va_up (va_up σ (29 + 4 * i) (T_X6_sayAgain_O O V s)) (29 + 4 * i + 1) (T_X6_sayAgain_V O V s)) = τ_) := by
  refine MI.go (cc := cX6_sayAgain) (maxL := 3) .int (by decide) rfl (Nat.le_of_ble_eq_true rfl) ?_
  intro p_ e_ s_ m_ args_ bl_ mt_ c_ A_ Q_ ls hx hb hml hown hts hK hA hD hP hS hl hret
  have hl : lv_has ls 3 [(0, .ref (ad (29 + 4 * i))), (1, .int (nI s))] := hl
  subst r_O r_V
  have hP : va_P D classes (rw_ 109 ad (cfX ad cy y z) (va_up (va_up σ (29 + 4 * i) (σ (29 + 4 * i))) (29 + 4 * i + 1) (σ (29 + 4 * i + 1)))) s_.heap := by rw [va_selfR _ (29 + 4 * i + 1) ((va_Q (by omega))), va_selfR _ (29 + 4 * i) (rfl)]; exact hP
  refine lv_iload_n hx hb dX6_sayAgain_0 rfl (lv_at hl 1 rfl) ?_
  refine lv_if_lt (tgt := 13) hx hb dX6_sayAgain_1 (by decide) (fun c1 => ?_) (fun c1 => ?_)
  · skip
    exact absurd c1 (nI_pos (by omega))
  · skip
    refine lv_iload_n hx hb dX6_sayAgain_4 rfl (lv_at hl 1 rfl) ?_
    refine lv_aload_n hx hb dX6_sayAgain_5 rfl (lv_at hl 0 rfl) ?_
    refine rp_get (C := RX6) (T := TX6) (N := 10) hx hb hts in_X6_sayAgain_X6 hown hK hP (29 + 4 * i) (hX6 (i := i) Hi).1 (kX6 (i := i) _) rfl 6 (by decide) (by decide +kernel) rfl dX6_sayAgain_6 ?_
    refine va_alen hx hb hK hP (29 + 4 * i + 1) 0 (rw_get (hX6 (i := i) Hi).2.1 (kX6_6 (i := i) _)) rfl (v := 10) rfl dX6_sayAgain_9 ?_
    refine lv_icmp_lt (tgt := 15) hx hb dX6_sayAgain_10 (by decide) (fun c10 => ?_) (fun c10 => ?_)
    · skip
      refine lv_aload_n hx hb dX6_sayAgain_15 rfl (lv_at hl 0 rfl) ?_
      refine rp_get (C := RX6) (T := TX6) (N := 10) hx hb hts in_X6_sayAgain_X6 hown hK hP (29 + 4 * i) (hX6 (i := i) Hi).1 (kX6 (i := i) _) rfl 6 (by decide) (by decide +kernel) rfl dX6_sayAgain_16 ?_
      refine lv_iload_n hx hb dX6_sayAgain_19 rfl (lv_at hl 1 rfl) ?_
      refine rp_iald hx hb hK hP (29 + 4 * i + 1) (hX6 (i := i) Hi).2.1 (kX6_6 (i := i) _) 0 rfl s rfl (by omega) (by decide) dX6_sayAgain_20 ?_
      rw [show (va_up (va_up σ (29 + 4 * i) (σ (29 + 4 * i))) (29 + 4 * i + 1) (σ (29 + 4 * i + 1))) (29 + 4 * i + 1) s = (σ (29 + 4 * i + 1) s) from va_S']
      refine lv_istore_n (lv' := [(2, .int (σ (29 + 4 * i + 1) s)), (0, .ref (ad (29 + 4 * i))), (1, .int (nI s))]) hx hb dX6_sayAgain_21 rfl hl (by decide) rfl (fun ls hl => ?_)
      refine lv_aload_n hx hb dX6_sayAgain_22 rfl (lv_at hl 1 rfl) ?_
      refine rp_get (C := RX6) (T := TX6) (N := 10) hx hb hts in_X6_sayAgain_X6 hown hK hP (29 + 4 * i) (hX6 (i := i) Hi).1 (kX6 (i := i) _) rfl 6 (by decide) (by decide +kernel) rfl dX6_sayAgain_23 ?_
      refine lv_iload_n hx hb dX6_sayAgain_26 rfl (lv_at hl 2 rfl) ?_
      refine lv_iconst (v := 0) hx hb dX6_sayAgain_27 (by decide) ?_
      refine rp_iast (x := 0) hx hb hK hP hD hS (29 + 4 * i + 1) (hX6 (i := i) Hi).2.1 (fun f => kX6_6 (i := i) f) 0 rfl s rfl (by omega) (by decide) dX6_sayAgain_28 (fun H locs hP hS => ?_)
      rw [show up2 (va_up (va_up σ (29 + 4 * i) (σ (29 + 4 * i))) (29 + 4 * i + 1) (σ (29 + 4 * i + 1))) (29 + 4 * i + 1) s 0 = va_up (va_up σ (29 + 4 * i) (σ (29 + 4 * i))) (29 + 4 * i + 1) (upd (σ (29 + 4 * i + 1)) s 0) from (vu_up _ _ _ _ _)] at hP
      refine lv_aload_n hx hb dX6_sayAgain_29 rfl (lv_at hl 1 rfl) ?_
      refine lv_dup hx hb dX6_sayAgain_30 rfl ?_
      refine rp_get (C := RX6) (T := TX6) (N := 10) hx hb hts in_X6_sayAgain_X6 hown hK hP (29 + 4 * i) (hX6 (i := i) Hi).1 (kX6 (i := i) _) rfl 4 (by decide) (by decide +kernel) rfl dX6_sayAgain_31 ?_
      rw [show (va_up (va_up σ (29 + 4 * i) (σ (29 + 4 * i))) (29 + 4 * i + 1) (upd (σ (29 + 4 * i + 1)) s 0)) (29 + 4 * i) 4 = (σ (29 + 4 * i) 4) from ((va_R (by omega)).trans va_S')]
      refine lv_iconst (v := 1) hx hb dX6_sayAgain_34 (by decide) ?_
      refine lv_iload_n hx hb dX6_sayAgain_35 rfl (lv_at hl 2 rfl) ?_
      refine lv_ishl hx hb dX6_sayAgain_36 ?_
      refine lv_iconst (v := (-1)) hx hb dX6_sayAgain_37 (by decide) ?_
      refine lv_ixor hx hb dX6_sayAgain_38 ?_
      refine lv_iand hx hb dX6_sayAgain_39 ?_
      refine rp_put (C := RX6) (T := TX6) (N := 10) (v := ((σ (29 + 4 * i) 4) &&& (((1 : Int32) <<< ((nI s) &&& 31)) ^^^ (-1)))) hx hb hts in_X6_sayAgain_X6 tyX6 tyX6_ok nmX6 hown hK hP hD hS (29 + 4 * i) (hX6 (i := i) Hi).1 (kX6 (i := i) _) rfl 4 (by decide) (by decide +kernel) rfl rfl rfl (Nat.le_of_ble_eq_true rfl) (kX6 (i := i) _) dX6_sayAgain_40 (fun H locs hP hS => ?_)
      rw [show up2 (va_up (va_up σ (29 + 4 * i) (σ (29 + 4 * i))) (29 + 4 * i + 1) (upd (σ (29 + 4 * i + 1)) s 0)) (29 + 4 * i) 4 ((σ (29 + 4 * i) 4) &&& (((1 : Int32) <<< ((nI s) &&& 31)) ^^^ (-1))) = va_up (va_up σ (29 + 4 * i) (upd (σ (29 + 4 * i)) 4 ((σ (29 + 4 * i) 4) &&& (((1 : Int32) <<< ((nI s) &&& 31)) ^^^ (-1))))) (29 + 4 * i + 1) (upd (σ (29 + 4 * i + 1)) s 0) from ((up2_in (by omega)).trans (congrArg (fun z => va_up z (29 + 4 * i + 1) _) (vu_up _ _ _ _ _)))] at hP
      refine lv_iload_n hx hb dX6_sayAgain_43 rfl (lv_at hl 0 rfl) ?_
      exact hret hP hS dX6_sayAgain_44 rfl ⟨(by unfold R_X6_sayAgain <;> first | with_reducible rfl), (by unfold T_X6_sayAgain_O T_X6_sayAgain_V <;> rfl)⟩
    · skip
      exact absurd (nI_lt hs (by omega)) c10

def T_X6_passNight_O (O : Nat → Int32) (sp : Int32) : Nat → Int32 := upd (upd (upd (upd O 0 (if 99 < (((O 0) + sp) + (O 1)) then 99 else (((O 0) + sp) + (O 1)))) 2 0) 1 ((O 1) / 2)) 3 ((O 3) + 1)
theorem in_X6_passNight_X6 : ∀ w ∈ u_ws RX6 TX6 10, w ∈ wsX6_passNight := by decide +kernel
set_option maxHeartbeats 1000000 in
set_option maxRecDepth 100000 in
theorem c_X6_passNight (l : Launch) (D : va_G) (cy : Nat → ClassId) (ad : Nat → Nat) (y z : Nat) (σ : Nat → Nat → Int32) (O : Nat → Int32) (i : Nat) (sp : Int32) (r_O : σ (29 + 4 * i) = O) (Hi : i < 20) : MV l D (tysW cy) 109 ad (cfX ad cy y z) yX6_passNight wsX6_passNight ({ frames := 1, cells := 0, slots := 0, locals := 14 }) σ [.ref (ad (29 + 4 * i)), .int sp] (fun τ_ => (va_up σ (29 + 4 * i) (T_X6_passNight_O O sp)) = τ_) := by
  refine MV.go (cc := cX6_passNight) (maxL := 2) (by decide) rfl (Nat.le_of_ble_eq_true rfl) ?_
  intro p_ e_ s_ m_ args_ bl_ mt_ c_ A_ Q_ ls hx hb hml hown hts hK hA hD hP hS hl hret
  have hl : lv_has ls 2 [(0, .ref (ad (29 + 4 * i))), (1, .int sp)] := hl
  subst r_O
  have hP : va_P D classes (rw_ 109 ad (cfX ad cy y z) (va_up σ (29 + 4 * i) (σ (29 + 4 * i)))) s_.heap := by rw [va_selfR _ (29 + 4 * i) (rfl)]; exact hP
  refine lv_aload_n hx hb dX6_passNight_0 rfl (lv_at hl 0 rfl) ?_
  refine lv_aload_n hx hb dX6_passNight_1 rfl (lv_at hl 0 rfl) ?_
  refine rp_get (C := RX6) (T := TX6) (N := 10) hx hb hts in_X6_passNight_X6 hown hK hP (29 + 4 * i) (hX6 (i := i) Hi).1 (kX6 (i := i) _) rfl 0 (by decide) (by decide +kernel) rfl dX6_passNight_2 ?_
  rw [show (va_up σ (29 + 4 * i) (σ (29 + 4 * i))) (29 + 4 * i) 0 = (σ (29 + 4 * i) 0) from va_S']
  refine lv_iload_n hx hb dX6_passNight_5 rfl (lv_at hl 1 rfl) ?_
  refine lv_iadd hx hb dX6_passNight_6 ?_
  refine lv_aload_n hx hb dX6_passNight_7 rfl (lv_at hl 0 rfl) ?_
  refine rp_get (C := RX6) (T := TX6) (N := 10) hx hb hts in_X6_passNight_X6 hown hK hP (29 + 4 * i) (hX6 (i := i) Hi).1 (kX6 (i := i) _) rfl 1 (by decide) (by decide +kernel) rfl dX6_passNight_8 ?_
  rw [show (va_up σ (29 + 4 * i) (σ (29 + 4 * i))) (29 + 4 * i) 1 = (σ (29 + 4 * i) 1) from va_S']
  refine lv_iadd hx hb dX6_passNight_11 ?_
  refine lv_bipush (v := 99) hx hb dX6_passNight_12 (by decide) ?_
  refine va_mmin hx hb (hml.trans hl.1.symm) hown (hts (.methodLink RX6 69 Lib.Math.min.name) (by decide +kernel)) (hts (.static Lib.Math.min.name) (by decide +kernel)) (hts (.initialized "java/lang/Math") (by decide +kernel)) (hts (.code Lib.Math.min.name Lib.Math.min.code 2 (some .int)) (by decide +kernel)) (Nat.le_of_ble_eq_true rfl) (Nat.le_of_ble_eq_true rfl) (Nat.zero_le _) (Nat.zero_le _) dX6_passNight_14 ?_
  refine rp_put (C := RX6) (T := TX6) (N := 10) (v := (if 99 < (((σ (29 + 4 * i) 0) + sp) + (σ (29 + 4 * i) 1)) then 99 else (((σ (29 + 4 * i) 0) + sp) + (σ (29 + 4 * i) 1)))) hx hb hts in_X6_passNight_X6 tyX6 tyX6_ok nmX6 hown hK hP hD hS (29 + 4 * i) (hX6 (i := i) Hi).1 (kX6 (i := i) _) rfl 0 (by decide) (by decide +kernel) rfl rfl rfl (Nat.le_of_ble_eq_true rfl) (kX6 (i := i) _) dX6_passNight_17 (fun H locs hP hS => ?_)
  rw [show up2 (va_up σ (29 + 4 * i) (σ (29 + 4 * i))) (29 + 4 * i) 0 (if 99 < (((σ (29 + 4 * i) 0) + sp) + (σ (29 + 4 * i) 1)) then 99 else (((σ (29 + 4 * i) 0) + sp) + (σ (29 + 4 * i) 1))) = va_up σ (29 + 4 * i) (upd (σ (29 + 4 * i)) 0 (if 99 < (((σ (29 + 4 * i) 0) + sp) + (σ (29 + 4 * i) 1)) then 99 else (((σ (29 + 4 * i) 0) + sp) + (σ (29 + 4 * i) 1)))) from (vu_up _ _ _ _ _)] at hP
  refine lv_aload_n hx hb dX6_passNight_20 rfl (lv_at hl 0 rfl) ?_
  refine lv_iconst (v := 0) hx hb dX6_passNight_21 (by decide) ?_
  refine rp_put (C := RX6) (T := TX6) (N := 10) (v := 0) hx hb hts in_X6_passNight_X6 tyX6 tyX6_ok nmX6 hown hK hP hD hS (29 + 4 * i) (hX6 (i := i) Hi).1 (kX6 (i := i) _) rfl 2 (by decide) (by decide +kernel) rfl rfl rfl (Nat.le_of_ble_eq_true rfl) (kX6 (i := i) _) dX6_passNight_22 (fun H locs hP hS => ?_)
  rw [show up2 (va_up σ (29 + 4 * i) (upd (σ (29 + 4 * i)) 0 (if 99 < (((σ (29 + 4 * i) 0) + sp) + (σ (29 + 4 * i) 1)) then 99 else (((σ (29 + 4 * i) 0) + sp) + (σ (29 + 4 * i) 1))))) (29 + 4 * i) 2 0 = va_up σ (29 + 4 * i) (upd (upd (σ (29 + 4 * i)) 0 (if 99 < (((σ (29 + 4 * i) 0) + sp) + (σ (29 + 4 * i) 1)) then 99 else (((σ (29 + 4 * i) 0) + sp) + (σ (29 + 4 * i) 1)))) 2 0) from (vu_up _ _ _ _ _)] at hP
  refine lv_aload_n hx hb dX6_passNight_25 rfl (lv_at hl 0 rfl) ?_
  refine lv_aload_n hx hb dX6_passNight_26 rfl (lv_at hl 0 rfl) ?_
  refine rp_get (C := RX6) (T := TX6) (N := 10) hx hb hts in_X6_passNight_X6 hown hK hP (29 + 4 * i) (hX6 (i := i) Hi).1 (kX6 (i := i) _) rfl 1 (by decide) (by decide +kernel) rfl dX6_passNight_27 ?_
  rw [show (va_up σ (29 + 4 * i) (upd (upd (σ (29 + 4 * i)) 0 (if 99 < (((σ (29 + 4 * i) 0) + sp) + (σ (29 + 4 * i) 1)) then 99 else (((σ (29 + 4 * i) 0) + sp) + (σ (29 + 4 * i) 1)))) 2 0)) (29 + 4 * i) 1 = (σ (29 + 4 * i) 1) from (va_S'.trans ((pk_un (by decide)).trans (pk_un (by decide))))]
  refine lv_iconst (v := 2) hx hb dX6_passNight_30 (by decide) ?_
  refine lv_idiv hx hb dX6_passNight_31 (by first | decide | assumption) ?_
  refine rp_put (C := RX6) (T := TX6) (N := 10) (v := ((σ (29 + 4 * i) 1) / 2)) hx hb hts in_X6_passNight_X6 tyX6 tyX6_ok nmX6 hown hK hP hD hS (29 + 4 * i) (hX6 (i := i) Hi).1 (kX6 (i := i) _) rfl 1 (by decide) (by decide +kernel) rfl rfl rfl (Nat.le_of_ble_eq_true rfl) (kX6 (i := i) _) dX6_passNight_32 (fun H locs hP hS => ?_)
  rw [show up2 (va_up σ (29 + 4 * i) (upd (upd (σ (29 + 4 * i)) 0 (if 99 < (((σ (29 + 4 * i) 0) + sp) + (σ (29 + 4 * i) 1)) then 99 else (((σ (29 + 4 * i) 0) + sp) + (σ (29 + 4 * i) 1)))) 2 0)) (29 + 4 * i) 1 ((σ (29 + 4 * i) 1) / 2) = va_up σ (29 + 4 * i) (upd (upd (upd (σ (29 + 4 * i)) 0 (if 99 < (((σ (29 + 4 * i) 0) + sp) + (σ (29 + 4 * i) 1)) then 99 else (((σ (29 + 4 * i) 0) + sp) + (σ (29 + 4 * i) 1)))) 2 0) 1 ((σ (29 + 4 * i) 1) / 2)) from (vu_up _ _ _ _ _)] at hP
  refine lv_aload_n hx hb dX6_passNight_35 rfl (lv_at hl 0 rfl) ?_
  refine lv_dup hx hb dX6_passNight_36 rfl ?_
  refine rp_get (C := RX6) (T := TX6) (N := 10) hx hb hts in_X6_passNight_X6 hown hK hP (29 + 4 * i) (hX6 (i := i) Hi).1 (kX6 (i := i) _) rfl 3 (by decide) (by decide +kernel) rfl dX6_passNight_37 ?_
  rw [show (va_up σ (29 + 4 * i) (upd (upd (upd (σ (29 + 4 * i)) 0 (if 99 < (((σ (29 + 4 * i) 0) + sp) + (σ (29 + 4 * i) 1)) then 99 else (((σ (29 + 4 * i) 0) + sp) + (σ (29 + 4 * i) 1)))) 2 0) 1 ((σ (29 + 4 * i) 1) / 2))) (29 + 4 * i) 3 = (σ (29 + 4 * i) 3) from (va_S'.trans ((pk_un (by decide)).trans ((pk_un (by decide)).trans (pk_un (by decide)))))]
  refine lv_iconst (v := 1) hx hb dX6_passNight_40 (by decide) ?_
  refine lv_iadd hx hb dX6_passNight_41 ?_
  refine rp_put (C := RX6) (T := TX6) (N := 10) (v := ((σ (29 + 4 * i) 3) + 1)) hx hb hts in_X6_passNight_X6 tyX6 tyX6_ok nmX6 hown hK hP hD hS (29 + 4 * i) (hX6 (i := i) Hi).1 (kX6 (i := i) _) rfl 3 (by decide) (by decide +kernel) rfl rfl rfl (Nat.le_of_ble_eq_true rfl) (kX6 (i := i) _) dX6_passNight_42 (fun H locs hP hS => ?_)
  rw [show up2 (va_up σ (29 + 4 * i) (upd (upd (upd (σ (29 + 4 * i)) 0 (if 99 < (((σ (29 + 4 * i) 0) + sp) + (σ (29 + 4 * i) 1)) then 99 else (((σ (29 + 4 * i) 0) + sp) + (σ (29 + 4 * i) 1)))) 2 0) 1 ((σ (29 + 4 * i) 1) / 2))) (29 + 4 * i) 3 ((σ (29 + 4 * i) 3) + 1) = va_up σ (29 + 4 * i) (upd (upd (upd (upd (σ (29 + 4 * i)) 0 (if 99 < (((σ (29 + 4 * i) 0) + sp) + (σ (29 + 4 * i) 1)) then 99 else (((σ (29 + 4 * i) 0) + sp) + (σ (29 + 4 * i) 1)))) 2 0) 1 ((σ (29 + 4 * i) 1) / 2)) 3 ((σ (29 + 4 * i) 3) + 1)) from (vu_up _ _ _ _ _)] at hP
  exact hret hP hS dX6_passNight_45 (by unfold T_X6_passNight_O <;> rfl)

def T_X6_joinQueue_O (O : Nat → Int32) (P : Nat → Int32) (S : Nat → Int32) (q : Nat) (v : Int32) (w : Int32) : Nat → Int32 := upd O 7 ((nI q) + 1)
def T_X6_joinQueue_P (O : Nat → Int32) (P : Nat → Int32) (S : Nat → Int32) (q : Nat) (v : Int32) (w : Int32) : Nat → Int32 := upd P q v
def T_X6_joinQueue_S (O : Nat → Int32) (P : Nat → Int32) (S : Nat → Int32) (q : Nat) (v : Int32) (w : Int32) : Nat → Int32 := upd S q w
theorem in_X6_joinQueue_X6 : ∀ w ∈ u_ws RX6 TX6 10, w ∈ wsX6_joinQueue := by decide +kernel
set_option maxHeartbeats 1000000 in
set_option maxRecDepth 100000 in
theorem c_X6_joinQueue (l : Launch) (D : va_G) (cy : Nat → ClassId) (ad : Nat → Nat) (y z : Nat) (σ : Nat → Nat → Int32) (O : Nat → Int32) (P : Nat → Int32) (S : Nat → Int32) (i : Nat) (q : Nat) (v : Int32) (w : Int32) (r_O : σ (29 + 4 * i) = O) (r_P : σ (29 + 4 * i + 2) = P) (r_S : σ (29 + 4 * i + 3) = S) (Hi : i < 20) (hq : q < 6) (eq : O 7 = nI q) : MV l D (tysW cy) 109 ad (cfX ad cy y z) yX6_joinQueue wsX6_joinQueue ({ frames := 0, cells := 0, slots := 0, locals := 0 }) σ [.ref (ad (29 + 4 * i)), .int v, .int w] (fun τ_ => (va_up (va_up (va_up σ (29 + 4 * i) (T_X6_joinQueue_O O P S q v w)) (29 + 4 * i + 2) (T_X6_joinQueue_P O P S q v w)) (29 + 4 * i + 3) (T_X6_joinQueue_S O P S q v w)) = τ_) := by
  refine MV.go (cc := cX6_joinQueue) (maxL := 3) (by decide) rfl (Nat.le_of_ble_eq_true rfl) ?_
  intro p_ e_ s_ m_ args_ bl_ mt_ c_ A_ Q_ ls hx hb hml hown hts hK hA hD hP hS hl hret
  have hl : lv_has ls 3 [(0, .ref (ad (29 + 4 * i))), (1, .int v), (2, .int w)] := hl
  subst r_O r_P r_S
  have hP : va_P D classes (rw_ 109 ad (cfX ad cy y z) (va_up (va_up (va_up σ (29 + 4 * i) (σ (29 + 4 * i))) (29 + 4 * i + 2) (σ (29 + 4 * i + 2))) (29 + 4 * i + 3) (σ (29 + 4 * i + 3)))) s_.heap := by rw [va_selfR _ (29 + 4 * i + 3) (((va_Q (by omega)).trans (va_Q (by omega)))), va_selfR _ (29 + 4 * i + 2) ((va_Q (by omega))), va_selfR _ (29 + 4 * i) (rfl)]; exact hP
  refine lv_aload_n hx hb dX6_joinQueue_0 rfl (lv_at hl 0 rfl) ?_
  refine rp_get (C := RX6) (T := TX6) (N := 10) hx hb hts in_X6_joinQueue_X6 hown hK hP (29 + 4 * i) (hX6 (i := i) Hi).1 (kX6 (i := i) _) rfl 7 (by decide) (by decide +kernel) rfl dX6_joinQueue_1 ?_
  rw [show (va_up (va_up (va_up σ (29 + 4 * i) (σ (29 + 4 * i))) (29 + 4 * i + 2) (σ (29 + 4 * i + 2))) (29 + 4 * i + 3) (σ (29 + 4 * i + 3))) (29 + 4 * i) 7 = (σ (29 + 4 * i) 7) from ((va_R (by omega)).trans ((va_R (by omega)).trans va_S'))]
  rw [eq]
  refine lv_bipush (v := 6) hx hb dX6_joinQueue_4 (by decide) ?_
  refine lv_icmp_ge (tgt := 39) hx hb dX6_joinQueue_6 (by decide) (fun c6 => ?_) (fun c6 => ?_)
  · skip
    exact absurd c6 (nI_ge (b := 6) hq (by decide))
  · skip
    refine lv_aload_n hx hb dX6_joinQueue_9 rfl (lv_at hl 0 rfl) ?_
    refine rp_get (C := RX6) (T := TX6) (N := 10) hx hb hts in_X6_joinQueue_X6 hown hK hP (29 + 4 * i) (hX6 (i := i) Hi).1 (kX6 (i := i) _) rfl 8 (by decide) (by decide +kernel) rfl dX6_joinQueue_10 ?_
    refine lv_aload_n hx hb dX6_joinQueue_13 rfl (lv_at hl 0 rfl) ?_
    refine rp_get (C := RX6) (T := TX6) (N := 10) hx hb hts in_X6_joinQueue_X6 hown hK hP (29 + 4 * i) (hX6 (i := i) Hi).1 (kX6 (i := i) _) rfl 7 (by decide) (by decide +kernel) rfl dX6_joinQueue_14 ?_
    rw [show (va_up (va_up (va_up σ (29 + 4 * i) (σ (29 + 4 * i))) (29 + 4 * i + 2) (σ (29 + 4 * i + 2))) (29 + 4 * i + 3) (σ (29 + 4 * i + 3))) (29 + 4 * i) 7 = (σ (29 + 4 * i) 7) from ((va_R (by omega)).trans ((va_R (by omega)).trans va_S'))]
    rw [eq]
    refine lv_iload_n hx hb dX6_joinQueue_17 rfl (lv_at hl 1 rfl) ?_
    refine rp_iast (x := v) hx hb hK hP hD hS (29 + 4 * i + 2) (hX6 (i := i) Hi).2.2.1 (fun f => kX6_8 (i := i) f) 0 rfl q rfl (by omega) (by decide) dX6_joinQueue_18 (fun H locs hP hS => ?_)
    rw [show up2 (va_up (va_up (va_up σ (29 + 4 * i) (σ (29 + 4 * i))) (29 + 4 * i + 2) (σ (29 + 4 * i + 2))) (29 + 4 * i + 3) (σ (29 + 4 * i + 3))) (29 + 4 * i + 2) q v = va_up (va_up (va_up σ (29 + 4 * i) (σ (29 + 4 * i))) (29 + 4 * i + 2) (upd (σ (29 + 4 * i + 2)) q v)) (29 + 4 * i + 3) (σ (29 + 4 * i + 3)) from ((up2_in (by omega)).trans (congrArg (fun z => va_up z (29 + 4 * i + 3) _) (vu_up _ _ _ _ _)))] at hP
    refine lv_aload_n hx hb dX6_joinQueue_19 rfl (lv_at hl 0 rfl) ?_
    refine rp_get (C := RX6) (T := TX6) (N := 10) hx hb hts in_X6_joinQueue_X6 hown hK hP (29 + 4 * i) (hX6 (i := i) Hi).1 (kX6 (i := i) _) rfl 9 (by decide) (by decide +kernel) rfl dX6_joinQueue_20 ?_
    refine lv_aload_n hx hb dX6_joinQueue_23 rfl (lv_at hl 0 rfl) ?_
    refine rp_get (C := RX6) (T := TX6) (N := 10) hx hb hts in_X6_joinQueue_X6 hown hK hP (29 + 4 * i) (hX6 (i := i) Hi).1 (kX6 (i := i) _) rfl 7 (by decide) (by decide +kernel) rfl dX6_joinQueue_24 ?_
    rw [show (va_up (va_up (va_up σ (29 + 4 * i) (σ (29 + 4 * i))) (29 + 4 * i + 2) (upd (σ (29 + 4 * i + 2)) q v)) (29 + 4 * i + 3) (σ (29 + 4 * i + 3))) (29 + 4 * i) 7 = (σ (29 + 4 * i) 7) from ((va_R (by omega)).trans ((va_R (by omega)).trans va_S'))]
    rw [eq]
    refine lv_iload_n hx hb dX6_joinQueue_27 rfl (lv_at hl 2 rfl) ?_
    refine rp_iast (x := w) hx hb hK hP hD hS (29 + 4 * i + 3) (hX6 (i := i) Hi).2.2.2 (fun f => kX6_9 (i := i) f) 0 rfl q rfl (by omega) (by decide) dX6_joinQueue_28 (fun H locs hP hS => ?_)
    rw [show up2 (va_up (va_up (va_up σ (29 + 4 * i) (σ (29 + 4 * i))) (29 + 4 * i + 2) (upd (σ (29 + 4 * i + 2)) q v)) (29 + 4 * i + 3) (σ (29 + 4 * i + 3))) (29 + 4 * i + 3) q w = va_up (va_up (va_up σ (29 + 4 * i) (σ (29 + 4 * i))) (29 + 4 * i + 2) (upd (σ (29 + 4 * i + 2)) q v)) (29 + 4 * i + 3) (upd (σ (29 + 4 * i + 3)) q w) from (vu_up _ _ _ _ _)] at hP
    refine lv_aload_n hx hb dX6_joinQueue_29 rfl (lv_at hl 0 rfl) ?_
    refine lv_dup hx hb dX6_joinQueue_30 rfl ?_
    refine rp_get (C := RX6) (T := TX6) (N := 10) hx hb hts in_X6_joinQueue_X6 hown hK hP (29 + 4 * i) (hX6 (i := i) Hi).1 (kX6 (i := i) _) rfl 7 (by decide) (by decide +kernel) rfl dX6_joinQueue_31 ?_
    rw [show (va_up (va_up (va_up σ (29 + 4 * i) (σ (29 + 4 * i))) (29 + 4 * i + 2) (upd (σ (29 + 4 * i + 2)) q v)) (29 + 4 * i + 3) (upd (σ (29 + 4 * i + 3)) q w)) (29 + 4 * i) 7 = (σ (29 + 4 * i) 7) from ((va_R (by omega)).trans ((va_R (by omega)).trans va_S'))]
    rw [eq]
    refine lv_iconst (v := 1) hx hb dX6_joinQueue_34 (by decide) ?_
    refine lv_iadd hx hb dX6_joinQueue_35 ?_
    refine rp_put (C := RX6) (T := TX6) (N := 10) (v := ((nI q) + 1)) hx hb hts in_X6_joinQueue_X6 tyX6 tyX6_ok nmX6 hown hK hP hD hS (29 + 4 * i) (hX6 (i := i) Hi).1 (kX6 (i := i) _) rfl 7 (by decide) (by decide +kernel) rfl rfl rfl (Nat.le_of_ble_eq_true rfl) (kX6 (i := i) _) dX6_joinQueue_36 (fun H locs hP hS => ?_)
    rw [show up2 (va_up (va_up (va_up σ (29 + 4 * i) (σ (29 + 4 * i))) (29 + 4 * i + 2) (upd (σ (29 + 4 * i + 2)) q v)) (29 + 4 * i + 3) (upd (σ (29 + 4 * i + 3)) q w)) (29 + 4 * i) 7 ((nI q) + 1) = va_up (va_up (va_up σ (29 + 4 * i) (upd (σ (29 + 4 * i)) 7 ((nI q) + 1))) (29 + 4 * i + 2) (upd (σ (29 + 4 * i + 2)) q v)) (29 + 4 * i + 3) (upd (σ (29 + 4 * i + 3)) q w) from ((up2_in (by omega)).trans (congrArg (fun z => va_up z (29 + 4 * i + 3) _) ((up2_in (by omega)).trans (congrArg (fun z => va_up z (29 + 4 * i + 2) _) (vu_up _ _ _ _ _)))))] at hP
    exact hret hP hS dX6_joinQueue_39 (by unfold T_X6_joinQueue_O T_X6_joinQueue_P T_X6_joinQueue_S <;> rfl)

def T_X6_leaveQueue_O (O : Nat → Int32) (P : Nat → Int32) (S : Nat → Int32) (q : Nat) : Nat → Int32 := upd O 7 (nI q)
def T_X6_leaveQueue_P (O : Nat → Int32) (P : Nat → Int32) (S : Nat → Int32) (q : Nat) : Nat → Int32 := lqN P q
def T_X6_leaveQueue_S (O : Nat → Int32) (P : Nat → Int32) (S : Nat → Int32) (q : Nat) : Nat → Int32 := lqN S q
theorem in_X6_leaveQueue_X6 : ∀ w ∈ u_ws RX6 TX6 10, w ∈ wsX6_leaveQueue := by decide +kernel
set_option maxHeartbeats 1000000 in
set_option maxRecDepth 100000 in
theorem c_X6_leaveQueue (l : Launch) (D : va_G) (cy : Nat → ClassId) (ad : Nat → Nat) (y z : Nat) (σ : Nat → Nat → Int32) (O : Nat → Int32) (P : Nat → Int32) (S : Nat → Int32) (i : Nat) (q : Nat) (r_O : σ (29 + 4 * i) = O) (r_P : σ (29 + 4 * i + 2) = P) (r_S : σ (29 + 4 * i + 3) = S) (Hi : i < 20) (hq : q < 6) (eq : O 7 = nI (q + 1)) : MV l D (tysW cy) 109 ad (cfX ad cy y z) yX6_leaveQueue wsX6_leaveQueue ({ frames := 1, cells := 0, slots := 0, locals := 14 }) σ [.ref (ad (29 + 4 * i))] (fun τ_ => (va_up (va_up (va_up σ (29 + 4 * i) (T_X6_leaveQueue_O O P S q)) (29 + 4 * i + 2) (T_X6_leaveQueue_P O P S q)) (29 + 4 * i + 3) (T_X6_leaveQueue_S O P S q)) = τ_) := by
  refine MV.go (cc := cX6_leaveQueue) (maxL := 2) (by decide) rfl (Nat.le_of_ble_eq_true rfl) ?_
  intro p_ e_ s_ m_ args_ bl_ mt_ c_ A_ Q_ ls hx hb hml hown hts hK hA hD hP hS hl hret
  have hl : lv_has ls 2 [(0, .ref (ad (29 + 4 * i)))] := hl
  subst r_O r_P r_S
  have hP : va_P D classes (rw_ 109 ad (cfX ad cy y z) (va_up (va_up (va_up σ (29 + 4 * i) (σ (29 + 4 * i))) (29 + 4 * i + 2) (σ (29 + 4 * i + 2))) (29 + 4 * i + 3) (σ (29 + 4 * i + 3)))) s_.heap := by rw [va_selfR _ (29 + 4 * i + 3) (((va_Q (by omega)).trans (va_Q (by omega)))), va_selfR _ (29 + 4 * i + 2) ((va_Q (by omega))), va_selfR _ (29 + 4 * i) (rfl)]; exact hP
  refine lv_iconst (v := 1) hx hb dX6_leaveQueue_0 (by decide) ?_
  refine lv_istore_n (lv' := [(1, .int 1), (0, .ref (ad (29 + 4 * i)))]) hx hb dX6_leaveQueue_1 rfl hl (by decide) rfl (fun ls hl => ?_)
  have L2 : ∀ (fu2 : Nat) (c : Nat), (c ≤ q) → q - c < fu2 → ∀ (x1 : Int32) (τ : Nat → Nat → Int32) (H : Heap) (locs : List Loc) (ls : Array Slot), (nI (c + 1)) = x1 → (va_up (va_up (va_up σ (29 + 4 * i) (σ (29 + 4 * i))) (29 + 4 * i + 2) (lqN (σ (29 + 4 * i + 2)) c)) (29 + 4 * i + 3) (lqN (σ (29 + 4 * i + 3)) c)) = τ → va_P D classes (rw_ 109 ad (cfX ad cy y z) τ) H → va_S A_ s_.heap H locs → lv_has ls 2 [(1, .int x1), (0, .ref (ad (29 + 4 * i)))] → W p_ l e_ ({ frames := 1, cells := 0, slots := 0, locals := 14 }) s_ m_ args_ bl_ mt_ c_ H locs 0 0 Q_ (F0 m_ 2 ls []) := by
    intro fu2
    induction fu2 with
    | zero => intro c hc hf; exact absurd hf (Nat.not_lt_zero _)
    | succ fu2 ih2 =>
      intro c hc hf2 x1 τ H locs ls ex1 eτ hP hS hl
      subst ex1
      subst eτ
      refine lv_iload_n hx hb dX6_leaveQueue_2 rfl (lv_at hl 0 rfl) ?_
      refine lv_aload_n hx hb dX6_leaveQueue_3 rfl (lv_at hl 1 rfl) ?_
      refine rp_get (C := RX6) (T := TX6) (N := 10) hx hb hts in_X6_leaveQueue_X6 hown hK hP (29 + 4 * i) (hX6 (i := i) Hi).1 (kX6 (i := i) _) rfl 7 (by decide) (by decide +kernel) rfl dX6_leaveQueue_4 ?_
      rw [show (va_up (va_up (va_up σ (29 + 4 * i) (σ (29 + 4 * i))) (29 + 4 * i + 2) (lqN (σ (29 + 4 * i + 2)) c)) (29 + 4 * i + 3) (lqN (σ (29 + 4 * i + 3)) c)) (29 + 4 * i) 7 = (σ (29 + 4 * i) 7) from ((va_R (by omega)).trans ((va_R (by omega)).trans va_S'))]
      rw [eq]
      refine lv_icmp_ge (tgt := 50) hx hb dX6_leaveQueue_7 (by decide) (fun c7 => ?_) (fun c7 => ?_)
      · skip
        have ec1 := cl_ex (i := c + 1) (n := q + 1) (by omega) (by omega) c7
        have ec : c = q := by omega
        refine lv_aload_n hx hb dX6_leaveQueue_50 rfl (lv_at hl 1 rfl) ?_
        refine lv_aload_n hx hb dX6_leaveQueue_51 rfl (lv_at hl 1 rfl) ?_
        refine rp_get (C := RX6) (T := TX6) (N := 10) hx hb hts in_X6_leaveQueue_X6 hown hK hP (29 + 4 * i) (hX6 (i := i) Hi).1 (kX6 (i := i) _) rfl 7 (by decide) (by decide +kernel) rfl dX6_leaveQueue_52 ?_
        rw [show (va_up (va_up (va_up σ (29 + 4 * i) (σ (29 + 4 * i))) (29 + 4 * i + 2) (lqN (σ (29 + 4 * i + 2)) c)) (29 + 4 * i + 3) (lqN (σ (29 + 4 * i + 3)) c)) (29 + 4 * i) 7 = (σ (29 + 4 * i) 7) from ((va_R (by omega)).trans ((va_R (by omega)).trans va_S'))]
        rw [eq]
        refine lv_iconst (v := 1) hx hb dX6_leaveQueue_55 (by decide) ?_
        refine lv_isub hx hb dX6_leaveQueue_56 ?_
        rw [nI_pred]
        refine lv_iconst (v := 0) hx hb dX6_leaveQueue_57 (by decide) ?_
        refine va_mmax hx hb (hml.trans hl.1.symm) hown (hts (.methodLink RX6 92 Lib.Math.max.name) (by decide +kernel)) (hts (.static Lib.Math.max.name) (by decide +kernel)) (hts (.initialized "java/lang/Math") (by decide +kernel)) (hts (.code Lib.Math.max.name Lib.Math.max.code 2 (some .int)) (by decide +kernel)) (Nat.le_of_ble_eq_true rfl) (Nat.le_of_ble_eq_true rfl) (Nat.zero_le _) (Nat.zero_le _) dX6_leaveQueue_58 ?_
        rw [mx_0 (by omega)]
        refine rp_put (C := RX6) (T := TX6) (N := 10) (v := (nI q)) hx hb hts in_X6_leaveQueue_X6 tyX6 tyX6_ok nmX6 hown hK hP hD hS (29 + 4 * i) (hX6 (i := i) Hi).1 (kX6 (i := i) _) rfl 7 (by decide) (by decide +kernel) rfl rfl rfl (Nat.le_of_ble_eq_true rfl) (kX6 (i := i) _) dX6_leaveQueue_61 (fun H locs hP hS => ?_)
        rw [show up2 (va_up (va_up (va_up σ (29 + 4 * i) (σ (29 + 4 * i))) (29 + 4 * i + 2) (lqN (σ (29 + 4 * i + 2)) c)) (29 + 4 * i + 3) (lqN (σ (29 + 4 * i + 3)) c)) (29 + 4 * i) 7 (nI q) = va_up (va_up (va_up σ (29 + 4 * i) (upd (σ (29 + 4 * i)) 7 (nI q))) (29 + 4 * i + 2) (lqN (σ (29 + 4 * i + 2)) c)) (29 + 4 * i + 3) (lqN (σ (29 + 4 * i + 3)) c) from ((up2_in (by omega)).trans (congrArg (fun z => va_up z (29 + 4 * i + 3) _) ((up2_in (by omega)).trans (congrArg (fun z => va_up z (29 + 4 * i + 2) _) (vu_up _ _ _ _ _)))))] at hP
        exact hret hP hS dX6_leaveQueue_64 (by unfold T_X6_leaveQueue_O T_X6_leaveQueue_P T_X6_leaveQueue_S <;> simp only [ec])
      · skip
        have hc2 := cl_in (i := c + 1) (n := q + 1) (by omega) (by omega) c7
        refine lv_iload_n hx hb dX6_leaveQueue_10 rfl (lv_at hl 0 rfl) ?_
        refine lv_bipush (v := 6) hx hb dX6_leaveQueue_11 (by decide) ?_
        refine lv_icmp_ge (tgt := 50) hx hb dX6_leaveQueue_13 (by decide) (fun c13 => ?_) (fun c13 => ?_)
        · skip
          exact absurd c13 (nI_ge (a := c + 1) (b := 6) (by omega) (by omega))
        · skip
          refine lv_aload_n hx hb dX6_leaveQueue_16 rfl (lv_at hl 1 rfl) ?_
          refine rp_get (C := RX6) (T := TX6) (N := 10) hx hb hts in_X6_leaveQueue_X6 hown hK hP (29 + 4 * i) (hX6 (i := i) Hi).1 (kX6 (i := i) _) rfl 8 (by decide) (by decide +kernel) rfl dX6_leaveQueue_17 ?_
          refine lv_iload_n hx hb dX6_leaveQueue_20 rfl (lv_at hl 0 rfl) ?_
          refine lv_iconst (v := 1) hx hb dX6_leaveQueue_21 (by decide) ?_
          refine lv_isub hx hb dX6_leaveQueue_22 ?_
          refine lv_aload_n hx hb dX6_leaveQueue_23 rfl (lv_at hl 1 rfl) ?_
          refine rp_get (C := RX6) (T := TX6) (N := 10) hx hb hts in_X6_leaveQueue_X6 hown hK hP (29 + 4 * i) (hX6 (i := i) Hi).1 (kX6 (i := i) _) rfl 8 (by decide) (by decide +kernel) rfl dX6_leaveQueue_24 ?_
          refine lv_iload_n hx hb dX6_leaveQueue_27 rfl (lv_at hl 0 rfl) ?_
          refine rp_iald hx hb hK hP (29 + 4 * i + 2) (hX6 (i := i) Hi).2.2.1 (kX6_8 (i := i) _) 0 rfl (c + 1) rfl (by omega) (by decide) dX6_leaveQueue_28 ?_
          rw [show (va_up (va_up (va_up σ (29 + 4 * i) (σ (29 + 4 * i))) (29 + 4 * i + 2) (lqN (σ (29 + 4 * i + 2)) c)) (29 + 4 * i + 3) (lqN (σ (29 + 4 * i + 3)) c)) (29 + 4 * i + 2) (c + 1) = ((lqN (σ (29 + 4 * i + 2)) c) (c + 1)) from ((va_R (by omega)).trans va_S')]
          rw [lqN_at _ (show c ≤ c + 1 by omega)]
          refine rp_iast (x := (σ (29 + 4 * i + 2) (c + 1))) hx hb hK hP hD hS (29 + 4 * i + 2) (hX6 (i := i) Hi).2.2.1 (fun f => kX6_8 (i := i) f) 0 rfl c (nI_pred c) (by omega) (by decide) dX6_leaveQueue_29 (fun H locs hP hS => ?_)
          rw [show up2 (va_up (va_up (va_up σ (29 + 4 * i) (σ (29 + 4 * i))) (29 + 4 * i + 2) (lqN (σ (29 + 4 * i + 2)) c)) (29 + 4 * i + 3) (lqN (σ (29 + 4 * i + 3)) c)) (29 + 4 * i + 2) c (σ (29 + 4 * i + 2) (c + 1)) = va_up (va_up (va_up σ (29 + 4 * i) (σ (29 + 4 * i))) (29 + 4 * i + 2) (upd (lqN (σ (29 + 4 * i + 2)) c) c (σ (29 + 4 * i + 2) (c + 1)))) (29 + 4 * i + 3) (lqN (σ (29 + 4 * i + 3)) c) from ((up2_in (by omega)).trans (congrArg (fun z => va_up z (29 + 4 * i + 3) _) (vu_up _ _ _ _ _)))] at hP
          refine lv_aload_n hx hb dX6_leaveQueue_30 rfl (lv_at hl 1 rfl) ?_
          refine rp_get (C := RX6) (T := TX6) (N := 10) hx hb hts in_X6_leaveQueue_X6 hown hK hP (29 + 4 * i) (hX6 (i := i) Hi).1 (kX6 (i := i) _) rfl 9 (by decide) (by decide +kernel) rfl dX6_leaveQueue_31 ?_
          refine lv_iload_n hx hb dX6_leaveQueue_34 rfl (lv_at hl 0 rfl) ?_
          refine lv_iconst (v := 1) hx hb dX6_leaveQueue_35 (by decide) ?_
          refine lv_isub hx hb dX6_leaveQueue_36 ?_
          refine lv_aload_n hx hb dX6_leaveQueue_37 rfl (lv_at hl 1 rfl) ?_
          refine rp_get (C := RX6) (T := TX6) (N := 10) hx hb hts in_X6_leaveQueue_X6 hown hK hP (29 + 4 * i) (hX6 (i := i) Hi).1 (kX6 (i := i) _) rfl 9 (by decide) (by decide +kernel) rfl dX6_leaveQueue_38 ?_
          refine lv_iload_n hx hb dX6_leaveQueue_41 rfl (lv_at hl 0 rfl) ?_
          refine rp_iald hx hb hK hP (29 + 4 * i + 3) (hX6 (i := i) Hi).2.2.2 (kX6_9 (i := i) _) 0 rfl (c + 1) rfl (by omega) (by decide) dX6_leaveQueue_42 ?_
          rw [show (va_up (va_up (va_up σ (29 + 4 * i) (σ (29 + 4 * i))) (29 + 4 * i + 2) (upd (lqN (σ (29 + 4 * i + 2)) c) c (σ (29 + 4 * i + 2) (c + 1)))) (29 + 4 * i + 3) (lqN (σ (29 + 4 * i + 3)) c)) (29 + 4 * i + 3) (c + 1) = ((lqN (σ (29 + 4 * i + 3)) c) (c + 1)) from va_S']
          rw [lqN_at _ (show c ≤ c + 1 by omega)]
          refine rp_iast (x := (σ (29 + 4 * i + 3) (c + 1))) hx hb hK hP hD hS (29 + 4 * i + 3) (hX6 (i := i) Hi).2.2.2 (fun f => kX6_9 (i := i) f) 0 rfl c (nI_pred c) (by omega) (by decide) dX6_leaveQueue_43 (fun H locs hP hS => ?_)
          rw [show up2 (va_up (va_up (va_up σ (29 + 4 * i) (σ (29 + 4 * i))) (29 + 4 * i + 2) (upd (lqN (σ (29 + 4 * i + 2)) c) c (σ (29 + 4 * i + 2) (c + 1)))) (29 + 4 * i + 3) (lqN (σ (29 + 4 * i + 3)) c)) (29 + 4 * i + 3) c (σ (29 + 4 * i + 3) (c + 1)) = va_up (va_up (va_up σ (29 + 4 * i) (σ (29 + 4 * i))) (29 + 4 * i + 2) (upd (lqN (σ (29 + 4 * i + 2)) c) c (σ (29 + 4 * i + 2) (c + 1)))) (29 + 4 * i + 3) (upd (lqN (σ (29 + 4 * i + 3)) c) c (σ (29 + 4 * i + 3) (c + 1))) from (vu_up _ _ _ _ _)] at hP
          refine lv_iinc (v := ((nI (c + 1)) + 1)) (lv' := [(1, .int ((nI (c + 1)) + 1)), (0, .ref (ad (29 + 4 * i)))]) hx hb dX6_leaveQueue_44 hl (k := 0) rfl rfl (by decide) rfl (fun ls hl => ?_)
          refine lv_goto (tgt := 2) hx hb dX6_leaveQueue_47 (by decide) ?_
          exact ih2 (c + 1) (by omega) (by omega) _ _ _ _ _ (by rw [nI_1]) (by rw [lqN_s, lqN_s]) hP hS (lv_sub hl [0, 1] rfl)
  exact L2 ((q - 0) + 1) 0 (Nat.zero_le _) (Nat.lt_succ_self _) _ _ _ _ _ (by first | rfl | simp [*]) (by rw [lqN_0, lqN_0]) hP hS (lv_sub hl [0, 1] rfl)

theorem in_X1_next_X1 : ∀ w ∈ u_ws RX1 TX1 1, w ∈ wsX1_next := by decide +kernel
set_option maxHeartbeats 1000000 in
set_option maxRecDepth 100000 in
theorem c_X1_next (l : Launch) (D : va_G) (cy : Nat → ClassId) (ad : Nat → Nat) (y z : Nat) (σ : Nat → Nat → Int32) (G : Nat → Int32) (sd : Nat) (m : Nat) (r_G : σ 22 = G) (hsd : sd < 2 ^ 31) (esd : G 0 = nI sd) (hm : 0 < m) (hm2 : m < 2 ^ 31) : MI l D (tysW cy) 109 ad (cfX ad cy y z) yX1_next wsX1_next ({ frames := 0, cells := 0, slots := 0, locals := 0 }) σ [.ref (ad 22), .int (nI m)] (fun v_ τ_ => (nI (lcg sd / 65536 % m)) = v_ ∧ (va_up σ 22 (upd G 0 (nI (lcg sd)))) = τ_) := by
  refine MI.go (cc := cX1_next) (maxL := 2) .int (by decide) rfl (Nat.le_of_ble_eq_true rfl) ?_
  intro p_ e_ s_ m_ args_ bl_ mt_ c_ A_ Q_ ls hx hb hml hown hts hK hA hD hP hS hl hret
  have hl : lv_has ls 2 [(0, .ref (ad 22)), (1, .int (nI m))] := hl
  subst r_G
  refine lv_aload_n hx hb dX1_next_0 rfl (lv_at hl 0 rfl) ?_
  refine lv_aload_n hx hb dX1_next_1 rfl (lv_at hl 0 rfl) ?_
  refine rp_get (C := RX1) (T := TX1) (N := 1) hx hb hts in_X1_next_X1 hown hK hP 22 (by decide) (kX1 _) rfl 0 (by decide) (by decide +kernel) rfl dX1_next_2 ?_
  rw [esd]
  refine lv_i2l (v := ((nI sd)).toInt64) hx hb dX1_next_5 rfl ?_
  refine lv_ldc2 (v := 1103515245) hx hb hown (hts (.constantLong RX1 13 (1103515245)) (by decide +kernel)) dX1_next_6 ?_
  refine lv_lmul hx hb dX1_next_9 ?_
  refine lv_ldc2 (v := 12345) hx hb hown (hts (.constantLong RX1 15 (12345)) (by decide +kernel)) dX1_next_10 ?_
  refine lv_ladd hx hb dX1_next_13 ?_
  refine lv_ldc2 (v := 2147483647) hx hb hown (hts (.constantLong RX1 17 (2147483647)) (by decide +kernel)) dX1_next_14 ?_
  refine lv_land hx hb dX1_next_17 ?_
  refine lv_l2i (v := ((((((nI sd)).toInt64 * 1103515245) + 12345) &&& 2147483647)).toInt32) hx hb dX1_next_18 rfl ?_
  rw [lcg_X hsd]
  refine rp_put (C := RX1) (T := TX1) (N := 1) (v := (nI (lcg sd))) hx hb hts in_X1_next_X1 tyX1 tyX1_ok nmX1 hown hK hP hD hS 22 (by decide) (kX1 _) rfl 0 (by decide) (by decide +kernel) rfl rfl rfl (Nat.le_of_ble_eq_true rfl) (kX1 _) dX1_next_19 (fun H locs hP hS => ?_)
  refine lv_iload_n hx hb dX1_next_22 rfl (lv_at hl 1 rfl) ?_
  refine lv_if_le (tgt := 38) hx hb dX1_next_23 (by decide) (fun c23 => ?_) (fun c23 => ?_)
  · skip
    exact absurd c23 (nI_nle hm hm2)
  · skip
    refine lv_aload_n hx hb dX1_next_26 rfl (lv_at hl 0 rfl) ?_
    refine rp_get (C := RX1) (T := TX1) (N := 1) hx hb hts in_X1_next_X1 hown hK hP 22 (by decide) (kX1 _) rfl 0 (by decide) (by decide +kernel) rfl dX1_next_27 ?_
    rw [show (up2 σ 22 0 (nI (lcg sd))) 22 0 = (nI (lcg sd)) from up2_S]
    refine lv_ldc (v := 65536) hx hb hown (hts (.constant RX1 19 (65536)) (by decide +kernel)) dX1_next_30 ?_
    refine lv_idiv hx hb dX1_next_32 (by first | decide | assumption) ?_
    refine lv_iload_n hx hb dX1_next_33 rfl (lv_at hl 1 rfl) ?_
    refine lv_irem hx hb dX1_next_34 (nI_ne0 hm hm2) ?_
    rw [dr_M hm hm2]
    refine lv_goto (tgt := 39) hx hb dX1_next_35 (by decide) ?_
    exact hret hP hS dX1_next_39 rfl ⟨rfl, rfl⟩

theorem in_X6_canBeUnsaid_X6 : ∀ w ∈ u_ws RX6 TX6 10, w ∈ wsX6_canBeUnsaid := by decide +kernel
set_option maxHeartbeats 1000000 in
set_option maxRecDepth 100000 in
theorem c_X6_canBeUnsaid (l : Launch) (D : va_G) (cy : Nat → ClassId) (ad : Nat → Nat) (y z : Nat) (σ : Nat → Nat → Int32) (O : Nat → Int32) (i : Nat) (u : Int32) (r_O : σ (29 + 4 * i) = O) (Hi : i < 20) : MI l D (tysW cy) 109 ad (cfX ad cy y z) yX6_canBeUnsaid wsX6_canBeUnsaid ({ frames := 0, cells := 0, slots := 0, locals := 0 }) σ [.ref (ad (29 + 4 * i)), .int u] (fun v_ τ_ => (bi (u &&& (O 4 ||| O 5) = 0)) = v_ ∧ σ = τ_) := by
  refine MI.go (cc := cX6_canBeUnsaid) (maxL := 2) .boolean (by decide) rfl (Nat.le_of_ble_eq_true rfl) ?_
  intro p_ e_ s_ m_ args_ bl_ mt_ c_ A_ Q_ ls hx hb hml hown hts hK hA hD hP hS hl hret
  have hl : lv_has ls 2 [(0, .ref (ad (29 + 4 * i))), (1, .int u)] := hl
  subst r_O
  refine lv_iload_n hx hb dX6_canBeUnsaid_0 rfl (lv_at hl 1 rfl) ?_
  refine lv_aload_n hx hb dX6_canBeUnsaid_1 rfl (lv_at hl 0 rfl) ?_
  refine rp_get (C := RX6) (T := TX6) (N := 10) hx hb hts in_X6_canBeUnsaid_X6 hown hK hP (29 + 4 * i) (hX6 (i := i) Hi).1 (kX6 (i := i) _) rfl 4 (by decide) (by decide +kernel) rfl dX6_canBeUnsaid_2 ?_
  refine lv_aload_n hx hb dX6_canBeUnsaid_5 rfl (lv_at hl 0 rfl) ?_
  refine rp_get (C := RX6) (T := TX6) (N := 10) hx hb hts in_X6_canBeUnsaid_X6 hown hK hP (29 + 4 * i) (hX6 (i := i) Hi).1 (kX6 (i := i) _) rfl 5 (by decide) (by decide +kernel) rfl dX6_canBeUnsaid_6 ?_
  refine lv_ior hx hb dX6_canBeUnsaid_9 ?_
  refine lv_iand hx hb dX6_canBeUnsaid_10 ?_
  refine lv_if_ne (tgt := 18) hx hb dX6_canBeUnsaid_11 (by decide) (fun c11 => ?_) (fun c11 => ?_)
  · skip
    refine lv_iconst (v := 0) hx hb dX6_canBeUnsaid_18 (by decide) ?_
    exact hret hP hS dX6_canBeUnsaid_19 rfl ⟨(by first | exact bi_f c11 | exact bi_t c11), rfl⟩
  · skip
    refine lv_iconst (v := 1) hx hb dX6_canBeUnsaid_14 (by decide) ?_
    refine lv_goto (tgt := 19) hx hb dX6_canBeUnsaid_15 (by decide) ?_
    exact hret hP hS dX6_canBeUnsaid_19 rfl ⟨(by first | exact bi_f c11 | exact bi_t c11), rfl⟩

theorem in_X6_pailsFor_X6 : ∀ w ∈ u_ws RX6 TX6 10, w ∈ wsX6_pailsFor := by decide +kernel
theorem in_X6_pailsFor_X7 : ∀ w ∈ u_ws RX7 TX7 12, w ∈ wsX6_pailsFor := by decide +kernel
set_option maxHeartbeats 1000000 in
set_option maxRecDepth 100000 in
theorem c_X6_pailsFor (l : Launch) (D : va_G) (cy : Nat → ClassId) (ad : Nat → Nat) (y z : Nat) (σ : Nat → Nat → Int32) (wt : Nat → Int32) (V : Nat → Int32) (i : Nat) (b : Nat) (n : Nat) (u : Int32) (r_wt : σ (b + 3) = wt) (r_V : σ (29 + 4 * i + 1) = V) (Hi : i < 20) (Hb : b = 3 ∨ b = 10) (hn : n ≤ 10) (en : σ b 5 = nI n) : MI l D (tysW cy) 109 ad (cfX ad cy y z) yX6_pailsFor wsX6_pailsFor ({ frames := 1, cells := 0, slots := 0, locals := 21 }) σ [.ref (ad (29 + 4 * i)), .ref (ad b), .int u] (fun v_ τ_ => (sumN (fun j => wt j - V j) u n) = v_ ∧ σ = τ_) := by
  refine MI.go (cc := cX6_pailsFor) (maxL := 5) .int (by decide) rfl (Nat.le_of_ble_eq_true rfl) ?_
  intro p_ e_ s_ m_ args_ bl_ mt_ c_ A_ Q_ ls hx hb hml hown hts hK hA hD hP hS hl hret
  have hl : lv_has ls 5 [(0, .ref (ad (29 + 4 * i))), (1, .ref (ad b)), (2, .int u)] := hl
  subst r_wt r_V
  refine lv_iconst (v := 0) hx hb dX6_pailsFor_0 (by decide) ?_
  refine lv_istore_n (lv' := [(3, .int 0), (0, .ref (ad (29 + 4 * i))), (1, .ref (ad b)), (2, .int u)]) hx hb dX6_pailsFor_1 rfl hl (by decide) rfl (fun ls hl => ?_)
  refine lv_iconst (v := 0) hx hb dX6_pailsFor_2 (by decide) ?_
  refine lv_istore (lv' := [(4, .int 0), (3, .int 0), (0, .ref (ad (29 + 4 * i))), (1, .ref (ad b)), (2, .int u)]) hx hb dX6_pailsFor_3 hl (by decide) rfl (fun ls hl => ?_)
  have L5 : ∀ (fu5 : Nat) (c : Nat), (c ≤ n) → n - c < fu5 → ∀ (x4 : Int32) (x3 : Int32) (τ : Nat → Nat → Int32) (H : Heap) (locs : List Loc) (ls : Array Slot), (nI c) = x4 → (sumN (fun j => σ (b + 3) j - σ (29 + 4 * i + 1) j) u c) = x3 → σ = τ → va_P D classes (rw_ 109 ad (cfX ad cy y z) τ) H → va_S A_ s_.heap H locs → lv_has ls 5 [(4, .int x4), (3, .int x3), (0, .ref (ad (29 + 4 * i))), (1, .ref (ad b)), (2, .int u)] → W p_ l e_ ({ frames := 1, cells := 0, slots := 0, locals := 21 }) s_ m_ args_ bl_ mt_ c_ H locs 0 0 Q_ (F0 m_ 5 ls []) := by
    intro fu5
    induction fu5 with
    | zero => intro c hc hf; exact absurd hf (Nat.not_lt_zero _)
    | succ fu5 ih5 =>
      intro c hc hf5 x4 x3 τ H locs ls ex4 ex3 eτ hP hS hl
      subst ex4
      subst ex3
      subst eτ
      refine lv_iload hx hb dX6_pailsFor_5 (lv_at hl 0 rfl) ?_
      refine lv_aload_n hx hb dX6_pailsFor_7 rfl (lv_at hl 3 rfl) ?_
      refine rp_get (C := RX7) (T := TX7) (N := 12) hx hb hts in_X6_pailsFor_X7 hown hK hP b (hX7 Hb).1 (kX7 Hb _) rfl 5 (by decide) (by decide +kernel) rfl dX6_pailsFor_8 ?_
      rw [en]
      refine lv_icmp_ge (tgt := 51) hx hb dX6_pailsFor_11 (by decide) (fun c11 => ?_) (fun c11 => ?_)
      · skip
        have ec := cl_ex hc (by omega) c11
        refine lv_iload_n hx hb dX6_pailsFor_51 rfl (lv_at hl 1 rfl) ?_
        exact hret hP hS dX6_pailsFor_52 rfl ⟨(by rw [ec]), rfl⟩
      · skip
        have hc2 := cl_in (by omega) (by omega) c11
        refine lv_iload_n hx hb dX6_pailsFor_14 rfl (lv_at hl 1 rfl) ?_
        refine lv_iload hx hb dX6_pailsFor_15 (lv_at hl 0 rfl) ?_
        refine lv_iload_n hx hb dX6_pailsFor_17 rfl (lv_at hl 4 rfl) ?_
        refine rp_callSI (na := 2) hx hb hml hown hts hK hA hD hP hS hl.1 [.int (nI c), .int u] (c_X7_isIn l D cy ad y z σ (nI c) u ) gX6_pailsFor_X7_isIn rfl (by decide +kernel) rfl ⟨Nat.le_of_ble_eq_true rfl, Nat.le_of_ble_eq_true rfl⟩ ⟨rfl, rfl⟩ ⟨Nat.zero_le _, Nat.zero_le _⟩ rfl (Nat.le_of_ble_eq_true rfl) dX6_pailsFor_18 (fun v_ τ_ H locs hq hP hS => ?_)
        obtain ⟨rfl, rfl⟩ := hq
        refine lv_if_eq (tgt := 42) hx hb dX6_pailsFor_21 (by decide) (fun c21 => ?_) (fun c21 => ?_)
        · skip
          have c21 := bi_eq0.mp c21
          refine lv_iconst (v := 0) hx hb dX6_pailsFor_42 (by decide) ?_
          refine lv_iadd hx hb dX6_pailsFor_43 ?_
          refine lv_istore_n (lv' := [(3, .int ((sumN (fun j => σ (b + 3) j - σ (29 + 4 * i + 1) j) u c) + 0)), (4, .int (nI c)), (0, .ref (ad (29 + 4 * i))), (1, .ref (ad b)), (2, .int u)]) hx hb dX6_pailsFor_44 rfl hl (by decide) rfl (fun ls hl => ?_)
          refine lv_iinc (v := ((nI c) + 1)) (lv' := [(4, .int ((nI c) + 1)), (3, .int ((sumN (fun j => σ (b + 3) j - σ (29 + 4 * i + 1) j) u c) + 0)), (0, .ref (ad (29 + 4 * i))), (1, .ref (ad b)), (2, .int u)]) hx hb dX6_pailsFor_45 hl (k := 1) rfl rfl (by decide) rfl (fun ls hl => ?_)
          refine lv_goto (tgt := 5) hx hb dX6_pailsFor_48 (by decide) ?_
          exact ih5 (c + 1) (by omega) (by omega) _ _ _ _ _ _ ((nI_1 c).symm) (by first | exact sumN_t c21 | exact sumN_f c21) rfl hP hS (lv_sub hl [0, 1, 2, 3, 4] rfl)
        · skip
          have c21 := bi_ne0.mp c21
          refine lv_aload_n hx hb dX6_pailsFor_24 rfl (lv_at hl 3 rfl) ?_
          refine rp_get (C := RX7) (T := TX7) (N := 12) hx hb hts in_X6_pailsFor_X7 hown hK hP b (hX7 Hb).1 (kX7 Hb _) rfl 7 (by decide) (by decide +kernel) rfl dX6_pailsFor_25 ?_
          refine lv_iload hx hb dX6_pailsFor_28 (lv_at hl 0 rfl) ?_
          refine rp_iald hx hb hK hP (b + 3) (hX7 Hb).2.2.2.1 ((kX7_7 Hb) _) 0 rfl c rfl (by omega) (by decide) dX6_pailsFor_30 ?_
          refine lv_aload_n hx hb dX6_pailsFor_31 rfl (lv_at hl 2 rfl) ?_
          refine rp_get (C := RX6) (T := TX6) (N := 10) hx hb hts in_X6_pailsFor_X6 hown hK hP (29 + 4 * i) (hX6 (i := i) Hi).1 (kX6 (i := i) _) rfl 6 (by decide) (by decide +kernel) rfl dX6_pailsFor_32 ?_
          refine lv_iload hx hb dX6_pailsFor_35 (lv_at hl 0 rfl) ?_
          refine rp_iald hx hb hK hP (29 + 4 * i + 1) (hX6 (i := i) Hi).2.1 (kX6_6 (i := i) _) 0 rfl c rfl (by omega) (by decide) dX6_pailsFor_37 ?_
          refine lv_isub hx hb dX6_pailsFor_38 ?_
          refine lv_goto (tgt := 43) hx hb dX6_pailsFor_39 (by decide) ?_
          refine lv_iadd hx hb dX6_pailsFor_43 ?_
          refine lv_istore_n (lv' := [(3, .int ((sumN (fun j => σ (b + 3) j - σ (29 + 4 * i + 1) j) u c) + ((σ (b + 3) c) - (σ (29 + 4 * i + 1) c)))), (4, .int (nI c)), (0, .ref (ad (29 + 4 * i))), (1, .ref (ad b)), (2, .int u)]) hx hb dX6_pailsFor_44 rfl hl (by decide) rfl (fun ls hl => ?_)
          refine lv_iinc (v := ((nI c) + 1)) (lv' := [(4, .int ((nI c) + 1)), (3, .int ((sumN (fun j => σ (b + 3) j - σ (29 + 4 * i + 1) j) u c) + ((σ (b + 3) c) - (σ (29 + 4 * i + 1) c)))), (0, .ref (ad (29 + 4 * i))), (1, .ref (ad b)), (2, .int u)]) hx hb dX6_pailsFor_45 hl (k := 1) rfl rfl (by decide) rfl (fun ls hl => ?_)
          refine lv_goto (tgt := 5) hx hb dX6_pailsFor_48 (by decide) ?_
          exact ih5 (c + 1) (by omega) (by omega) _ _ _ _ _ _ ((nI_1 c).symm) (by first | exact sumN_t c21 | exact sumN_f c21) rfl hP hS (lv_sub hl [0, 1, 2, 3, 4] rfl)
  exact L5 ((n - 0) + 1) 0 (Nat.zero_le _) (Nat.lt_succ_self _) _ _ _ _ _ _ (by first | rfl | simp [*]) (by first | rfl | simp [*]) rfl hP hS (lv_sub hl [0, 1, 2, 3, 4] rfl)

theorem in_X6_worthWith_X6 : ∀ w ∈ u_ws RX6 TX6 10, w ∈ wsX6_worthWith := by decide +kernel
set_option maxHeartbeats 1000000 in
set_option maxRecDepth 100000 in
theorem c_X6_worthWith (l : Launch) (D : va_G) (cy : Nat → ClassId) (ad : Nat → Nat) (y z : Nat) (σ : Nat → Nat → Int32) (wo : Nat → Int32) (fr : Nat → Int32) (O : Nat → Int32) (i : Nat) (b : Nat) (n : Nat) (u : Int32) (r_wo : σ (b + 4) = wo) (r_fr : σ (b + 5) = fr) (r_O : σ (29 + 4 * i) = O) (Hi : i < 20) (Hb : b = 3 ∨ b = 10) (hn : n ≤ 10) (en : σ b 5 = nI n) : MI l D (tysW cy) 109 ad (cfX ad cy y z) yX6_worthWith wsX6_worthWith ({ frames := 2, cells := 0, slots := 0, locals := 44 }) σ [.ref (ad (29 + 4 * i)), .ref (ad b), .int u] (fun v_ τ_ => (sumN wo (holdN fr (O 4 ||| u) n) n) = v_ ∧ σ = τ_) := by
  refine MI.go (cc := cX6_worthWith) (maxL := 3) .int (by decide) rfl (Nat.le_of_ble_eq_true rfl) ?_
  intro p_ e_ s_ m_ args_ bl_ mt_ c_ A_ Q_ ls hx hb hml hown hts hK hA hD hP hS hl hret
  have hl : lv_has ls 3 [(0, .ref (ad (29 + 4 * i))), (1, .ref (ad b)), (2, .int u)] := hl
  subst r_wo r_fr r_O
  refine lv_aload_n hx hb dX6_worthWith_0 rfl (lv_at hl 1 rfl) ?_
  refine lv_aload_n hx hb dX6_worthWith_1 rfl (lv_at hl 1 rfl) ?_
  refine lv_aload_n hx hb dX6_worthWith_2 rfl (lv_at hl 0 rfl) ?_
  refine rp_get (C := RX6) (T := TX6) (N := 10) hx hb hts in_X6_worthWith_X6 hown hK hP (29 + 4 * i) (hX6 (i := i) Hi).1 (kX6 (i := i) _) rfl 4 (by decide) (by decide +kernel) rfl dX6_worthWith_3 ?_
  refine lv_iload_n hx hb dX6_worthWith_6 rfl (lv_at hl 2 rfl) ?_
  refine lv_ior hx hb dX6_worthWith_7 ?_
  refine rp_callVI (na := 1) hx hb hml hown hts hK hA hD hP hS hl.1 b (hX7 Hb).1 (kX7 Hb _) rfl [.int ((σ (29 + 4 * i) 4) ||| u)] (c_X7_holding l D cy ad y z σ (σ (b + 5)) b n ((σ (29 + 4 * i) 4) ||| u) rfl Hb (by first | assumption | omega) (by first | assumption | rfl)) gX6_worthWith_X7_holding rfl (by decide +kernel) rfl ⟨Nat.le_of_ble_eq_true rfl, Nat.le_of_ble_eq_true rfl⟩ ⟨rfl, rfl⟩ ⟨Nat.zero_le _, Nat.zero_le _⟩ rfl (Nat.le_of_ble_eq_true rfl) dX6_worthWith_8 (fun v_ τ_ H locs hq hP hS => ?_)
  obtain ⟨rfl, rfl⟩ := hq
  refine rp_callVI (na := 1) hx hb hml hown hts hK hA hD hP hS hl.1 b (hX7 Hb).1 (kX7 Hb _) rfl [.int (holdN (σ (b + 5)) ((σ (29 + 4 * i) 4) ||| u) n)] (c_X7_worthOf l D cy ad y z σ (σ (b + 4)) b n (holdN (σ (b + 5)) ((σ (29 + 4 * i) 4) ||| u) n) rfl Hb (by first | assumption | omega) (by first | assumption | rfl)) gX6_worthWith_X7_worthOf rfl (by decide +kernel) rfl ⟨Nat.le_of_ble_eq_true rfl, Nat.le_of_ble_eq_true rfl⟩ ⟨rfl, rfl⟩ ⟨Nat.zero_le _, Nat.zero_le _⟩ rfl (Nat.le_of_ble_eq_true rfl) dX6_worthWith_11 (fun v_ τ_ H locs hq hP hS => ?_)
  obtain ⟨rfl, rfl⟩ := hq
  exact hret hP hS dX6_worthWith_14 rfl ⟨rfl, rfl⟩

theorem in_X6_isSoWith_X6 : ∀ w ∈ u_ws RX6 TX6 10, w ∈ wsX6_isSoWith := by decide +kernel
set_option maxHeartbeats 1000000 in
set_option maxRecDepth 100000 in
theorem c_X6_isSoWith (l : Launch) (D : va_G) (cy : Nat → ClassId) (ad : Nat → Nat) (y z : Nat) (σ : Nat → Nat → Int32) (fr : Nat → Int32) (O : Nat → Int32) (i : Nat) (b : Nat) (n : Nat) (u : Int32) (h : Int32) (t : Int32) (r_fr : σ (b + 5) = fr) (r_O : σ (29 + 4 * i) = O) (Hi : i < 20) (Hb : b = 3 ∨ b = 10) (hn : n ≤ 10) (en : σ b 5 = nI n) : MI l D (tysW cy) 109 ad (cfX ad cy y z) yX6_isSoWith wsX6_isSoWith ({ frames := 2, cells := 0, slots := 0, locals := 44 }) σ [.ref (ad (29 + 4 * i)), .ref (ad b), .int u, .int h, .int t] (fun v_ τ_ => (bi (holdN fr (O 4 ||| u) n &&& h = h ∧ holdN fr (O 4 ||| u) n &&& t = 0)) = v_ ∧ σ = τ_) := by
  refine MI.go (cc := cX6_isSoWith) (maxL := 6) .boolean (by decide) rfl (Nat.le_of_ble_eq_true rfl) ?_
  intro p_ e_ s_ m_ args_ bl_ mt_ c_ A_ Q_ ls hx hb hml hown hts hK hA hD hP hS hl hret
  have hl : lv_has ls 6 [(0, .ref (ad (29 + 4 * i))), (1, .ref (ad b)), (2, .int u), (3, .int h), (4, .int t)] := hl
  subst r_fr r_O
  refine lv_aload_n hx hb dX6_isSoWith_0 rfl (lv_at hl 1 rfl) ?_
  refine lv_aload_n hx hb dX6_isSoWith_1 rfl (lv_at hl 0 rfl) ?_
  refine rp_get (C := RX6) (T := TX6) (N := 10) hx hb hts in_X6_isSoWith_X6 hown hK hP (29 + 4 * i) (hX6 (i := i) Hi).1 (kX6 (i := i) _) rfl 4 (by decide) (by decide +kernel) rfl dX6_isSoWith_2 ?_
  refine lv_iload_n hx hb dX6_isSoWith_5 rfl (lv_at hl 2 rfl) ?_
  refine lv_ior hx hb dX6_isSoWith_6 ?_
  refine rp_callVI (na := 1) hx hb hml hown hts hK hA hD hP hS hl.1 b (hX7 Hb).1 (kX7 Hb _) rfl [.int ((σ (29 + 4 * i) 4) ||| u)] (c_X7_holding l D cy ad y z σ (σ (b + 5)) b n ((σ (29 + 4 * i) 4) ||| u) rfl Hb (by first | assumption | omega) (by first | assumption | rfl)) gX6_isSoWith_X7_holding rfl (by decide +kernel) rfl ⟨Nat.le_of_ble_eq_true rfl, Nat.le_of_ble_eq_true rfl⟩ ⟨rfl, rfl⟩ ⟨Nat.zero_le _, Nat.zero_le _⟩ rfl (Nat.le_of_ble_eq_true rfl) dX6_isSoWith_7 (fun v_ τ_ H locs hq hP hS => ?_)
  obtain ⟨rfl, rfl⟩ := hq
  refine lv_istore (lv' := [(5, .int (holdN (σ (b + 5)) ((σ (29 + 4 * i) 4) ||| u) n)), (0, .ref (ad (29 + 4 * i))), (1, .ref (ad b)), (2, .int u), (3, .int h), (4, .int t)]) hx hb dX6_isSoWith_10 hl (by decide) rfl (fun ls hl => ?_)
  refine lv_iload hx hb dX6_isSoWith_12 (lv_at hl 0 rfl) ?_
  refine lv_iload_n hx hb dX6_isSoWith_14 rfl (lv_at hl 4 rfl) ?_
  refine lv_iand hx hb dX6_isSoWith_15 ?_
  refine lv_iload_n hx hb dX6_isSoWith_16 rfl (lv_at hl 4 rfl) ?_
  refine lv_icmp_ne (tgt := 32) hx hb dX6_isSoWith_17 (by decide) (fun c17 => ?_) (fun c17 => ?_)
  · skip
    refine lv_iconst (v := 0) hx hb dX6_isSoWith_32 (by decide) ?_
    exact hret hP hS dX6_isSoWith_33 rfl ⟨(by first | exact bi_f (fun q => c17 q.1) | exact bi_f (fun q => c25 q.2) | exact bi_t ⟨c17, c25⟩), rfl⟩
  · skip
    refine lv_iload hx hb dX6_isSoWith_20 (lv_at hl 0 rfl) ?_
    refine lv_iload hx hb dX6_isSoWith_22 (lv_at hl 5 rfl) ?_
    refine lv_iand hx hb dX6_isSoWith_24 ?_
    refine lv_if_ne (tgt := 32) hx hb dX6_isSoWith_25 (by decide) (fun c25 => ?_) (fun c25 => ?_)
    · skip
      refine lv_iconst (v := 0) hx hb dX6_isSoWith_32 (by decide) ?_
      exact hret hP hS dX6_isSoWith_33 rfl ⟨(by first | exact bi_f (fun q => c17 q.1) | exact bi_f (fun q => c25 q.2) | exact bi_t ⟨c17, c25⟩), rfl⟩
    · skip
      refine lv_iconst (v := 1) hx hb dX6_isSoWith_28 (by decide) ?_
      refine lv_goto (tgt := 33) hx hb dX6_isSoWith_29 (by decide) ?_
      exact hret hP hS dX6_isSoWith_33 rfl ⟨(by first | exact bi_f (fun q => c17 q.1) | exact bi_f (fun q => c25 q.2) | exact bi_t ⟨c17, c25⟩), rfl⟩
