theorem in_X9_remember_X9 : ∀ w ∈ u_ws RX9 TX9 38, w ∈ wsX9_remember := by decide +kernel
set_option maxHeartbeats 1000000 in
set_option maxRecDepth 100000 in
theorem c_X9_remember (l : Launch) (D : va_G) (cy : Nat → ClassId) (ad : Nat → Nat) (σ : Nat → Nat → Int32) (u : Nat) (hu : u ≤ 16) (eu : σ 0 31 = nI u) : MV l D (tysW cy) 19 ad (cfM ad cy) yX9_remember wsX9_remember ({ frames := 0, cells := 0, slots := 0, locals := 0 }) σ [.ref (ad 0)] (fun τ_ => (remT σ u) = τ_) := by
  refine MV.go (cc := cX9_remember) (maxL := 2) (by decide) rfl (Nat.le_of_ble_eq_true rfl) ?_
  intro p_ e_ s_ m_ args_ bl_ mt_ c_ A_ Q_ ls hx hb hml hown hts hK hA hD hP hS hl hret
  have hl : lv_has ls 2 [(0, .ref (ad 0))] := hl
  have hv := remV_le hu
  have L50 : ∀ (τ : Nat → Nat → Int32) (H : Heap) (locs : List Loc) (ls : Array Slot), (up2 (va_up σ 14 (remA (σ 14) u)) 0 31 (nI (remV u))) = τ → va_P D classes (rw_ 19 ad (cfM ad cy) τ) H → va_S A_ s_.heap H locs → lv_has ls 2 [(0, .ref (ad 0))] → W p_ l e_ ({ frames := 0, cells := 0, slots := 0, locals := 0 }) s_ m_ args_ bl_ mt_ c_ H locs 0 0 Q_ (F0 m_ 50 ls []) := by
    intro    τ H locs ls  eτ hP hS hl
    subst eτ
    refine lv_iconst (v := 0) hx hb dX9_remember_50 (by decide) ?_
    refine lv_istore_n (lv' := [(1, .int 0), (0, .ref (ad 0))]) hx hb dX9_remember_51 rfl hl (by decide) rfl (fun ls hl => ?_)
    have L52 : ∀ (fu52 : Nat) (i : Nat), (i ≤ 23) → 23 - i < fu52 → ∀ (x1 : Int32) (τ : Nat → Nat → Int32) (H : Heap) (locs : List Loc) (ls : Array Slot), (nI i) = x1 → (va_up (up2 σ 0 31 (nI (remV u))) 14 (putN (remA (σ 14) u) (σ 6) (23 * remV u) i)) = τ → va_P D classes (rw_ 19 ad (cfM ad cy) τ) H → va_S A_ s_.heap H locs → lv_has ls 2 [(1, .int x1), (0, .ref (ad 0))] → W p_ l e_ ({ frames := 0, cells := 0, slots := 0, locals := 0 }) s_ m_ args_ bl_ mt_ c_ H locs 0 0 Q_ (F0 m_ 52 ls []) := by
      intro fu52
      induction fu52 with
      | zero => intro i hi hf; exact absurd hf (Nat.not_lt_zero _)
      | succ fu52 ih52 =>
        intro i hi hf52 x1 τ H locs ls ex1 eτ hP hS hl
        subst ex1
        subst eτ
        refine lv_iload_n hx hb dX9_remember_52 rfl (lv_at hl 0 rfl) ?_
        refine lv_bipush (v := 23) hx hb dX9_remember_53 (by decide) ?_
        refine lv_icmp_ge (tgt := 84) hx hb dX9_remember_55 (by decide) (fun c55 => ?_) (fun c55 => ?_)
        · skip
          have ei : i = 23 := cl_ex hi (by omega) c55
          refine lv_aload_n hx hb dX9_remember_84 rfl (lv_at hl 1 rfl) ?_
          refine lv_dup hx hb dX9_remember_85 rfl ?_
          refine rp_get (C := RX9) (T := TX9) (N := 38) hx hb hts in_X9_remember_X9 hown hK hP 0 (by decide) (kX9 _) rfl 31 (by decide) (by decide +kernel) rfl dX9_remember_86 ?_
          rw [show (va_up (up2 σ 0 31 (nI (remV u))) 14 (putN (remA (σ 14) u) (σ 6) (23 * remV u) i)) 0 31 = (nI (remV u)) from ((va_R (by decide)).trans up2_S)]
          refine lv_iconst (v := 1) hx hb dX9_remember_89 (by decide) ?_
          refine lv_iadd hx hb dX9_remember_90 ?_
          refine rp_put (C := RX9) (T := TX9) (N := 38) (v := ((nI (remV u)) + 1)) hx hb hts in_X9_remember_X9 tyX9 tyX9_ok nmX9 hown hK hP hD hS 0 (by decide) (kX9 _) rfl 31 (by decide) (by decide +kernel) rfl rfl rfl (Nat.le_of_ble_eq_true rfl) (kX9 _) dX9_remember_91 (fun H locs hP hS => ?_)
          exact hret hP hS dX9_remember_94 (by rw [ei, st_sw _ (by decide), up2_uu, nI_1]; rfl)
        · skip
          have hi2 : i < 23 := cl_in (by omega) (by omega) c55
          refine lv_aload_n hx hb dX9_remember_58 rfl (lv_at hl 1 rfl) ?_
          refine rp_get (C := RX9) (T := TX9) (N := 38) hx hb hts in_X9_remember_X9 hown hK hP 0 (by decide) (kX9 _) rfl 32 (by decide) (by decide +kernel) rfl dX9_remember_59 ?_
          refine lv_bipush (v := 23) hx hb dX9_remember_62 (by decide) ?_
          refine lv_aload_n hx hb dX9_remember_64 rfl (lv_at hl 1 rfl) ?_
          refine rp_get (C := RX9) (T := TX9) (N := 38) hx hb hts in_X9_remember_X9 hown hK hP 0 (by decide) (kX9 _) rfl 31 (by decide) (by decide +kernel) rfl dX9_remember_65 ?_
          rw [show (va_up (up2 σ 0 31 (nI (remV u))) 14 (putN (remA (σ 14) u) (σ 6) (23 * remV u) i)) 0 31 = (nI (remV u)) from ((va_R (by decide)).trans up2_S)]
          refine lv_imul hx hb dX9_remember_68 ?_
          refine lv_iload_n hx hb dX9_remember_69 rfl (lv_at hl 0 rfl) ?_
          refine lv_iadd hx hb dX9_remember_70 ?_
          refine lv_aload_n hx hb dX9_remember_71 rfl (lv_at hl 1 rfl) ?_
          refine rp_get (C := RX9) (T := TX9) (N := 38) hx hb hts in_X9_remember_X9 hown hK hP 0 (by decide) (kX9 _) rfl 11 (by decide) (by decide +kernel) rfl dX9_remember_72 ?_
          refine lv_iload_n hx hb dX9_remember_75 rfl (lv_at hl 0 rfl) ?_
          refine rp_iald hx hb hK hP 6 (by decide) (kX9_11 _) 0 rfl i rfl (by omega) (by decide) dX9_remember_76 ?_
          rw [show (va_up (up2 σ 0 31 (nI (remV u))) 14 (putN (remA (σ 14) u) (σ 6) (23 * remV u) i)) 6 i = (σ 6 i) from ((va_R (by decide)).trans (up2_R (by decide)))]
          refine rp_iast (x := (σ 6 i)) hx hb hK hP hD hS 14 (by decide) (fun f => kX9_32 f) 0 rfl (23 * remV u + i) (nI_lin 23 (remV u) i) (by omega) (by decide) dX9_remember_77 (fun H locs hP hS => ?_)
          refine lv_iinc (v := ((nI i) + 1)) (lv' := [(1, .int ((nI i) + 1)), (0, .ref (ad 0))]) hx hb dX9_remember_78 hl (k := 0) rfl rfl (by decide) rfl (fun ls hl => ?_)
          refine lv_goto (tgt := 52) hx hb dX9_remember_81 (by decide) ?_
          exact ih52 (i + 1) (by omega) (by omega) _ _ _ _ _ ((nI_1 i).symm) (by rw [vu_up, putN_s]) hP hS (lv_sub hl [0, 1] rfl)
    exact L52 ((23 - 0) + 1) 0 (Nat.zero_le _) (Nat.lt_succ_self _) _ _ _ _ _ (by first | rfl | simp [*]) (by rw [putN_0, st_sw _ (by decide)]) hP hS (lv_sub hl [0, 1] rfl)
  refine lv_aload_n hx hb dX9_remember_0 rfl (lv_at hl 0 rfl) ?_
  refine rp_get (C := RX9) (T := TX9) (N := 38) hx hb hts in_X9_remember_X9 hown hK hP 0 (by decide) (kX9 _) rfl 31 (by decide) (by decide +kernel) rfl dX9_remember_1 ?_
  rw [eu]
  refine lv_bipush (v := 16) hx hb dX9_remember_4 (by decide) ?_
  refine lv_icmp_ne (tgt := 50) hx hb dX9_remember_6 (by decide) (fun c6 => ?_) (fun c6 => ?_)
  · skip
    have hu16 := lt_of_ne hu (by omega) c6
    exact L50 _ _ _ _ (by first | (rw [remA, remV, if_neg (by omega), if_neg (by omega), va_self, up2_self _ _ _ eu]) | (rw [remA, remV, if_pos hu16, if_pos hu16, show k = 345 by omega, eu, hu16]; rfl)) hP hS (lv_sub hl [0] rfl)
  · skip
    have hu16 := eq_of_nI (N := 16) (by omega) (by omega) c6
    refine lv_bipush (v := 23) hx hb dX9_remember_9 (by decide) ?_
    refine lv_istore_n (lv' := [(1, .int 23), (0, .ref (ad 0))]) hx hb dX9_remember_11 rfl hl (by decide) rfl (fun ls hl => ?_)
    have L12 : ∀ (fu12 : Nat) (k : Nat), (k ≤ 345) → 345 - k < fu12 → ∀ (x1 : Int32) (τ : Nat → Nat → Int32) (H : Heap) (locs : List Loc) (ls : Array Slot), (nI (k + 23)) = x1 → (va_up σ 14 (shN (σ 14) k)) = τ → va_P D classes (rw_ 19 ad (cfM ad cy) τ) H → va_S A_ s_.heap H locs → lv_has ls 2 [(1, .int x1), (0, .ref (ad 0))] → W p_ l e_ ({ frames := 0, cells := 0, slots := 0, locals := 0 }) s_ m_ args_ bl_ mt_ c_ H locs 0 0 Q_ (F0 m_ 12 ls []) := by
      intro fu12
      induction fu12 with
      | zero => intro k hk hf; exact absurd hf (Nat.not_lt_zero _)
      | succ fu12 ih12 =>
        intro k hk hf12 x1 τ H locs ls ex1 eτ hP hS hl
        subst ex1
        subst eτ
        refine lv_iload_n hx hb dX9_remember_12 rfl (lv_at hl 0 rfl) ?_
        refine lv_sipush (v := 368) hx hb dX9_remember_13 (by decide) ?_
        refine lv_icmp_ge (tgt := 40) hx hb dX9_remember_16 (by decide) (fun c16 => ?_) (fun c16 => ?_)
        · skip
          have ek : k + 23 = 368 := cl_ex (by omega) (by omega) c16
          refine lv_aload_n hx hb dX9_remember_40 rfl (lv_at hl 1 rfl) ?_
          refine lv_dup hx hb dX9_remember_41 rfl ?_
          refine rp_get (C := RX9) (T := TX9) (N := 38) hx hb hts in_X9_remember_X9 hown hK hP 0 (by decide) (kX9 _) rfl 31 (by decide) (by decide +kernel) rfl dX9_remember_42 ?_
          rw [show (va_up σ 14 (shN (σ 14) k)) 0 31 = (σ 0 31) from (va_R (by decide))]
          refine lv_iconst (v := 1) hx hb dX9_remember_45 (by decide) ?_
          refine lv_isub hx hb dX9_remember_46 ?_
          refine rp_put (C := RX9) (T := TX9) (N := 38) (v := ((σ 0 31) - 1)) hx hb hts in_X9_remember_X9 tyX9 tyX9_ok nmX9 hown hK hP hD hS 0 (by decide) (kX9 _) rfl 31 (by decide) (by decide +kernel) rfl rfl rfl (Nat.le_of_ble_eq_true rfl) (kX9 _) dX9_remember_47 (fun H locs hP hS => ?_)
          exact L50 _ _ _ _ (by first | (rw [remA, remV, if_neg (by omega), if_neg (by omega), va_self, up2_self _ _ _ eu]) | (rw [remA, remV, if_pos hu16, if_pos hu16, show k = 345 by omega, eu, hu16]; rfl)) hP hS (lv_sub hl [1] rfl)
        · skip
          have hk2 : k + 23 < 368 := cl_in (by omega) (by omega) c16
          refine lv_aload_n hx hb dX9_remember_19 rfl (lv_at hl 1 rfl) ?_
          refine rp_get (C := RX9) (T := TX9) (N := 38) hx hb hts in_X9_remember_X9 hown hK hP 0 (by decide) (kX9 _) rfl 32 (by decide) (by decide +kernel) rfl dX9_remember_20 ?_
          refine lv_iload_n hx hb dX9_remember_23 rfl (lv_at hl 0 rfl) ?_
          refine lv_bipush (v := 23) hx hb dX9_remember_24 (by decide) ?_
          refine lv_isub hx hb dX9_remember_26 ?_
          refine lv_aload_n hx hb dX9_remember_27 rfl (lv_at hl 1 rfl) ?_
          refine rp_get (C := RX9) (T := TX9) (N := 38) hx hb hts in_X9_remember_X9 hown hK hP 0 (by decide) (kX9 _) rfl 32 (by decide) (by decide +kernel) rfl dX9_remember_28 ?_
          refine lv_iload_n hx hb dX9_remember_31 rfl (lv_at hl 0 rfl) ?_
          refine rp_iald hx hb hK hP 14 (by decide) (kX9_32 _) 0 rfl (k + 23) rfl (by omega) (by decide) dX9_remember_32 ?_
          rw [show (va_up σ 14 (shN (σ 14) k)) 14 (k + 23) = ((shN (σ 14) k) (k + 23)) from va_S']
          rw [shN_at (σ 14) (show k ≤ k + 23 by omega)]
          refine rp_iast (x := (σ 14 (k + 23))) hx hb hK hP hD hS 14 (by decide) (fun f => kX9_32 f) 0 rfl k (nI_subk k 23) (by omega) (by decide) dX9_remember_33 (fun H locs hP hS => ?_)
          refine lv_iinc (v := ((nI (k + 23)) + 1)) (lv' := [(1, .int ((nI (k + 23)) + 1)), (0, .ref (ad 0))]) hx hb dX9_remember_34 hl (k := 0) rfl rfl (by decide) rfl (fun ls hl => ?_)
          refine lv_goto (tgt := 12) hx hb dX9_remember_37 (by decide) ?_
          exact ih12 (k + 1) (by omega) (by omega) _ _ _ _ _ (by rw [nI_1]) (by rw [vu_up, shN_s]) hP hS (lv_sub hl [0, 1] rfl)
    exact L12 ((345 - 0) + 1) 0 (by omega) (Nat.lt_succ_self _) _ _ _ _ _ rfl (by rw [shN_0, va_self]) hP hS (lv_sub hl [0, 1] rfl)

def T_X9_lineUp (N : Nat → Int32) (w : Nat) (v : Int32) : Nat → Int32 := upd (upd N (17 + w) v) 16 ((nI w) + 1)
theorem in_X9_lineUp_X9 : ∀ w ∈ u_ws RX9 TX9 38, w ∈ wsX9_lineUp := by decide +kernel
set_option maxHeartbeats 1000000 in
set_option maxRecDepth 100000 in
theorem c_X9_lineUp (l : Launch) (D : va_G) (cy : Nat → ClassId) (ad : Nat → Nat) (σ : Nat → Nat → Int32) (N : Nat → Int32) (w : Nat) (v : Int32) (r_N : σ 6 = N) (hw : w < 6) (ew : N 16 = nI w) : MV l D (tysW cy) 19 ad (cfM ad cy) yX9_lineUp wsX9_lineUp ({ frames := 0, cells := 0, slots := 0, locals := 0 }) σ [.ref (ad 0), .int v] (fun τ_ => (va_up σ 6 (T_X9_lineUp N w v)) = τ_) := by
  refine MV.go (cc := cX9_lineUp) (maxL := 2) (by decide) rfl (Nat.le_of_ble_eq_true rfl) ?_
  intro p_ e_ s_ m_ args_ bl_ mt_ c_ A_ Q_ ls hx hb hml hown hts hK hA hD hP hS hl hret
  have hl : lv_has ls 2 [(0, .ref (ad 0)), (1, .int v)] := hl
  subst r_N
  refine lv_aload_n hx hb dX9_lineUp_0 rfl (lv_at hl 0 rfl) ?_
  refine rp_get (C := RX9) (T := TX9) (N := 38) hx hb hts in_X9_lineUp_X9 hown hK hP 0 (by decide) (kX9 _) rfl 11 (by decide) (by decide +kernel) rfl dX9_lineUp_1 ?_
  refine lv_bipush (v := 17) hx hb dX9_lineUp_4 (by decide) ?_
  refine lv_aload_n hx hb dX9_lineUp_6 rfl (lv_at hl 0 rfl) ?_
  refine rp_get (C := RX9) (T := TX9) (N := 38) hx hb hts in_X9_lineUp_X9 hown hK hP 0 (by decide) (kX9 _) rfl 11 (by decide) (by decide +kernel) rfl dX9_lineUp_7 ?_
  refine lv_bipush (v := 16) hx hb dX9_lineUp_10 (by decide) ?_
  refine rp_iald hx hb hK hP 6 (by decide) (kX9_11 _) 0 rfl 16 rfl (by decide) (by decide) dX9_lineUp_12 ?_
  rw [ew]
  refine lv_iadd hx hb dX9_lineUp_13 ?_
  refine lv_iload_n hx hb dX9_lineUp_14 rfl (lv_at hl 1 rfl) ?_
  refine rp_iast (x := v) hx hb hK hP hD hS 6 (by decide) (fun f => kX9_11 f) 0 rfl (17 + w) (nI_add 17 w) (by omega) (by decide) dX9_lineUp_15 (fun H locs hP hS => ?_)
  refine lv_aload_n hx hb dX9_lineUp_16 rfl (lv_at hl 0 rfl) ?_
  refine rp_get (C := RX9) (T := TX9) (N := 38) hx hb hts in_X9_lineUp_X9 hown hK hP 0 (by decide) (kX9 _) rfl 11 (by decide) (by decide +kernel) rfl dX9_lineUp_17 ?_
  refine lv_bipush (v := 16) hx hb dX9_lineUp_20 (by decide) ?_
  refine lv_dup2_11 hx hb dX9_lineUp_22 rfl rfl ?_
  refine rp_iald hx hb hK hP 6 (by decide) (kX9_11 _) 0 rfl 16 rfl (by decide) (by decide) dX9_lineUp_23 ?_
  rw [show (up2 σ 6 (17 + w) v) 6 16 = (σ 6 16) from (up2_K (by omega))]
  rw [ew]
  refine lv_iconst (v := 1) hx hb dX9_lineUp_24 (by decide) ?_
  refine lv_iadd hx hb dX9_lineUp_25 ?_
  refine rp_iast (x := ((nI w) + 1)) hx hb hK hP hD hS 6 (by decide) (fun f => kX9_11 f) 0 rfl 16 rfl (by decide) (by decide) dX9_lineUp_26 (fun H locs hP hS => ?_)
  exact hret hP hS dX9_lineUp_27 (by unfold T_X9_lineUp <;> simp only [up2, va_up_self, bx_uu, va_self])

def R_X9_pour (σ : Nat → Nat → Int32) (n : Nat) (k : Nat) (u : Nat) (v : Int32) (w : Int32) : Int32 := (if (0 ≤ v ∧ ¬ nI k ≤ v) then (if (0 ≤ w ∧ ¬ nI n ≤ w) then (if (R_X9_canPour (σ 1) (σ 2) (σ 3) (σ 6) (v.toNatClampNeg) (w.toNatClampNeg)) = 0 then (-1000000003) else (R_X9_pourNow (σ 1) (σ 2) (σ 3) (σ 6) (v.toNatClampNeg) (w.toNatClampNeg))) else (-1000000001)) else (-1000000001))
def T_X9_pour (σ : Nat → Nat → Int32) (n : Nat) (k : Nat) (u : Nat) (v : Int32) (w : Int32) : Nat → Nat → Int32 := (if (0 ≤ v ∧ ¬ nI k ≤ v) then (if (0 ≤ w ∧ ¬ nI n ≤ w) then (if (R_X9_canPour (σ 1) (σ 2) (σ 3) (σ 6) (v.toNatClampNeg) (w.toNatClampNeg)) = 0 then σ else va_up (remT σ u) 6 (T_X9_pourNow (σ 1) (σ 2) (σ 3) (σ 6) (v.toNatClampNeg) (w.toNatClampNeg))) else σ) else σ)
set_option maxHeartbeats 1000000 in
set_option maxRecDepth 100000 in
theorem c_X9_pour (l : Launch) (D : va_G) (cy : Nat → ClassId) (ad : Nat → Nat) (σ : Nat → Nat → Int32) (n : Nat) (k : Nat) (u : Nat) (v : Int32) (w : Int32) (hn : n ≤ 10) (en : σ 0 5 = nI n) (hk : k ≤ 5) (ek : σ 0 3 = nI k) (hu : u ≤ 16) (eu : σ 0 31 = nI u) : MI l D (tysW cy) 19 ad (cfM ad cy) yX9_pour wsX9_pour ({ frames := 3, cells := 0, slots := 0, locals := 72 }) σ [.ref (ad 0), .int v, .int w] (fun v_ τ_ => (R_X9_pour σ n k u v w) = v_ ∧ (T_X9_pour σ n k u v w) = τ_) := by
  refine MI.go (cc := cX9_pour) (maxL := 3) .int (by decide) rfl (Nat.le_of_ble_eq_true rfl) ?_
  intro p_ e_ s_ m_ args_ bl_ mt_ c_ A_ Q_ ls hx hb hml hown hts hK hA hD hP hS hl hret
  have hl : lv_has ls 3 [(0, .ref (ad 0)), (1, .int v), (2, .int w)] := hl
  refine lv_aload_n hx hb dX9_pour_0 rfl (lv_at hl 0 rfl) ?_
  refine lv_iload_n hx hb dX9_pour_1 rfl (lv_at hl 1 rfl) ?_
  refine rp_callVI (na := 1) hx hb hml hown hts hK hA hD hP hS hl.1 0 (by decide) (kX9 _) rfl [.int v] (c_X9_isPerson l D cy ad σ k v (by first | assumption | omega) (by first | assumption | rfl)) gX9_pour_X9_isPerson rfl (by decide +kernel) rfl ⟨Nat.le_of_ble_eq_true rfl, Nat.le_of_ble_eq_true rfl⟩ ⟨rfl, rfl⟩ ⟨Nat.zero_le _, Nat.zero_le _⟩ rfl (Nat.le_of_ble_eq_true rfl) dX9_pour_2 (fun v_ τ_ H locs hq hP hS => ?_)
  obtain ⟨rfl, rfl⟩ := hq
  refine lv_if_eq (tgt := 16) hx hb dX9_pour_5 (by decide) (fun c5 => ?_) (fun c5 => ?_)
  · skip
    have c5 := bi_eq0.mp c5
    refine lv_ldc (v := (-1000000001)) hx hb hown (hts (.constant RX9 206 (-1000000001)) (by decide +kernel)) dX9_pour_16 ?_
    exact hret hP hS dX9_pour_18 rfl ⟨(by unfold R_X9_pour <;> rw [if_neg c5] <;> first | with_reducible rfl), (by unfold T_X9_pour <;> rw [if_neg c5] <;> first | with_reducible rfl)⟩
  · skip
    have c5 := bi_ne0.mp c5
    obtain ⟨jv, hjv, rfl⟩ := nI_rng2 c5 (by omega)
    refine lv_aload_n hx hb dX9_pour_8 rfl (lv_at hl 0 rfl) ?_
    refine lv_iload_n hx hb dX9_pour_9 rfl (lv_at hl 2 rfl) ?_
    refine rp_callVI (na := 1) hx hb hml hown hts hK hA hD hP hS hl.1 0 (by decide) (kX9 _) rfl [.int w] (c_X9_isSaying l D cy ad σ n w (by first | assumption | omega) (by first | assumption | rfl)) gX9_pour_X9_isSaying rfl (by decide +kernel) rfl ⟨Nat.le_of_ble_eq_true rfl, Nat.le_of_ble_eq_true rfl⟩ ⟨rfl, rfl⟩ ⟨Nat.zero_le _, Nat.zero_le _⟩ rfl (Nat.le_of_ble_eq_true rfl) dX9_pour_10 (fun v_ τ_ H locs hq hP hS => ?_)
    obtain ⟨rfl, rfl⟩ := hq
    refine lv_if_ne (tgt := 19) hx hb dX9_pour_13 (by decide) (fun c13 => ?_) (fun c13 => ?_)
    · skip
      have c13 := bi_ne0.mp c13
      obtain ⟨jw, hjw, rfl⟩ := nI_rng2 c13 (by omega)
      refine lv_aload_n hx hb dX9_pour_19 rfl (lv_at hl 0 rfl) ?_
      refine lv_iload_n hx hb dX9_pour_20 rfl (lv_at hl 1 rfl) ?_
      refine lv_iload_n hx hb dX9_pour_21 rfl (lv_at hl 2 rfl) ?_
      refine rp_callVI (na := 2) hx hb hml hown hts hK hA hD hP hS hl.1 0 (by decide) (kX9 _) rfl [.int (nI jv), .int (nI jw)] (c_X9_canPour l D cy ad σ (σ 1) (σ 2) (σ 3) (σ 6) jv jw rfl rfl rfl rfl (by first | assumption | omega) (by first | assumption | omega)) gX9_pour_X9_canPour rfl (by decide +kernel) rfl ⟨Nat.le_of_ble_eq_true rfl, Nat.le_of_ble_eq_true rfl⟩ ⟨rfl, rfl⟩ ⟨Nat.zero_le _, Nat.zero_le _⟩ rfl (Nat.le_of_ble_eq_true rfl) dX9_pour_22 (fun v_ τ_ H locs hq hP hS => ?_)
      obtain ⟨rfl, rfl⟩ := hq
      refine lv_if_ne (tgt := 31) hx hb dX9_pour_25 (by decide) (fun c25 => ?_) (fun c25 => ?_)
      · skip
        refine lv_aload_n hx hb dX9_pour_31 rfl (lv_at hl 0 rfl) ?_
        refine rp_callVV (na := 0) hx hb hml hown hts hK hA hD hP hS hl.1 0 (by decide) (kX9 _) rfl [] (c_X9_remember l D cy ad σ u (by first | assumption | omega) (by first | assumption | rfl)) gX9_pour_X9_remember rfl (by decide +kernel) rfl ⟨Nat.le_of_ble_eq_true rfl, Nat.le_of_ble_eq_true rfl⟩ ⟨rfl, rfl⟩ ⟨Nat.zero_le _, Nat.zero_le _⟩ rfl (Nat.le_of_ble_eq_true rfl) dX9_pour_32 (fun τ_ H locs hq hP hS => ?_)
        subst hq
        refine lv_aload_n hx hb dX9_pour_35 rfl (lv_at hl 0 rfl) ?_
        refine lv_iload_n hx hb dX9_pour_36 rfl (lv_at hl 1 rfl) ?_
        refine lv_iload_n hx hb dX9_pour_37 rfl (lv_at hl 2 rfl) ?_
        refine rp_callVI (na := 2) hx hb hml hown hts hK hA hD hP hS hl.1 0 (by decide) (kX9 _) rfl [.int (nI jv), .int (nI jw)] (c_X9_pourNow l D cy ad (remT σ u) (σ 1) (σ 2) (σ 3) (σ 6) jv jw (remT_r _ _ (by decide) (by decide)) (remT_r _ _ (by decide) (by decide)) (remT_r _ _ (by decide) (by decide)) (remT_r _ _ (by decide) (by decide)) (by first | assumption | omega) (by first | assumption | omega)) gX9_pour_X9_pourNow rfl (by decide +kernel) rfl ⟨Nat.le_of_ble_eq_true rfl, Nat.le_of_ble_eq_true rfl⟩ ⟨rfl, rfl⟩ ⟨Nat.zero_le _, Nat.zero_le _⟩ rfl (Nat.le_of_ble_eq_true rfl) dX9_pour_38 (fun v_ τ_ H locs hq hP hS => ?_)
        obtain ⟨rfl, rfl⟩ := hq
        exact hret hP hS dX9_pour_41 rfl ⟨(by unfold R_X9_pour <;> (try rw [nI_clamp (n := jv) (by omega)]) <;> (try rw [nI_clamp (n := jw) (by omega)]) <;> rw [if_pos c5, if_pos c13, if_neg c25] <;> first | with_reducible rfl), (by unfold T_X9_pour <;> (try rw [nI_clamp (n := jv) (by omega)]) <;> (try rw [nI_clamp (n := jw) (by omega)]) <;> rw [if_pos c5, if_pos c13, if_neg c25] <;> first | with_reducible rfl)⟩
      · skip
        refine lv_ldc (v := (-1000000003)) hx hb hown (hts (.constant RX9 232 (-1000000003)) (by decide +kernel)) dX9_pour_28 ?_
        exact hret hP hS dX9_pour_30 rfl ⟨(by unfold R_X9_pour <;> (try rw [nI_clamp (n := jv) (by omega)]) <;> (try rw [nI_clamp (n := jw) (by omega)]) <;> rw [if_pos c5, if_pos c13, if_pos c25] <;> first | with_reducible rfl), (by unfold T_X9_pour <;> (try rw [nI_clamp (n := jv) (by omega)]) <;> (try rw [nI_clamp (n := jw) (by omega)]) <;> rw [if_pos c5, if_pos c13, if_pos c25] <;> first | with_reducible rfl)⟩
    · skip
      have c13 := bi_eq0.mp c13
      refine lv_ldc (v := (-1000000001)) hx hb hown (hts (.constant RX9 206 (-1000000001)) (by decide +kernel)) dX9_pour_16 ?_
      exact hret hP hS dX9_pour_18 rfl ⟨(by unfold R_X9_pour <;> (try rw [nI_clamp (n := jv) (by omega)]) <;> rw [if_pos c5, if_neg c13] <;> first | with_reducible rfl), (by unfold T_X9_pour <;> (try rw [nI_clamp (n := jv) (by omega)]) <;> rw [if_pos c5, if_neg c13] <;> first | with_reducible rfl)⟩

def R_X9_say (σ : Nat → Nat → Int32) (n : Nat) (u : Nat) (v : Int32) : Int32 := (if (0 ≤ v ∧ ¬ nI n ≤ v) then (R_X9_sayNow (σ 6) (v.toNatClampNeg)) else (-1000000001))
def T_X9_say (σ : Nat → Nat → Int32) (n : Nat) (u : Nat) (v : Int32) : Nat → Nat → Int32 := (if (0 ≤ v ∧ ¬ nI n ≤ v) then va_up (remT σ u) 6 (T_X9_sayNow (σ 6) (v.toNatClampNeg)) else σ)
set_option maxHeartbeats 1000000 in
set_option maxRecDepth 100000 in
theorem c_X9_say (l : Launch) (D : va_G) (cy : Nat → ClassId) (ad : Nat → Nat) (σ : Nat → Nat → Int32) (n : Nat) (u : Nat) (v : Int32) (hn : n ≤ 10) (en : σ 0 5 = nI n) (hu : u ≤ 16) (eu : σ 0 31 = nI u) : MI l D (tysW cy) 19 ad (cfM ad cy) yX9_say wsX9_say ({ frames := 2, cells := 0, slots := 0, locals := 46 }) σ [.ref (ad 0), .int v] (fun v_ τ_ => (R_X9_say σ n u v) = v_ ∧ (T_X9_say σ n u v) = τ_) := by
  refine MI.go (cc := cX9_say) (maxL := 2) .int (by decide) rfl (Nat.le_of_ble_eq_true rfl) ?_
  intro p_ e_ s_ m_ args_ bl_ mt_ c_ A_ Q_ ls hx hb hml hown hts hK hA hD hP hS hl hret
  have hl : lv_has ls 2 [(0, .ref (ad 0)), (1, .int v)] := hl
  refine lv_aload_n hx hb dX9_say_0 rfl (lv_at hl 0 rfl) ?_
  refine lv_iload_n hx hb dX9_say_1 rfl (lv_at hl 1 rfl) ?_
  refine rp_callVI (na := 1) hx hb hml hown hts hK hA hD hP hS hl.1 0 (by decide) (kX9 _) rfl [.int v] (c_X9_isSaying l D cy ad σ n v (by first | assumption | omega) (by first | assumption | rfl)) gX9_say_X9_isSaying rfl (by decide +kernel) rfl ⟨Nat.le_of_ble_eq_true rfl, Nat.le_of_ble_eq_true rfl⟩ ⟨rfl, rfl⟩ ⟨Nat.zero_le _, Nat.zero_le _⟩ rfl (Nat.le_of_ble_eq_true rfl) dX9_say_2 (fun v_ τ_ H locs hq hP hS => ?_)
  obtain ⟨rfl, rfl⟩ := hq
  refine lv_if_ne (tgt := 11) hx hb dX9_say_5 (by decide) (fun c5 => ?_) (fun c5 => ?_)
  · skip
    have c5 := bi_ne0.mp c5
    obtain ⟨jv, hjv, rfl⟩ := nI_rng2 c5 (by omega)
    refine lv_aload_n hx hb dX9_say_11 rfl (lv_at hl 0 rfl) ?_
    refine rp_callVV (na := 0) hx hb hml hown hts hK hA hD hP hS hl.1 0 (by decide) (kX9 _) rfl [] (c_X9_remember l D cy ad σ u (by first | assumption | omega) (by first | assumption | rfl)) gX9_say_X9_remember rfl (by decide +kernel) rfl ⟨Nat.le_of_ble_eq_true rfl, Nat.le_of_ble_eq_true rfl⟩ ⟨rfl, rfl⟩ ⟨Nat.zero_le _, Nat.zero_le _⟩ rfl (Nat.le_of_ble_eq_true rfl) dX9_say_12 (fun τ_ H locs hq hP hS => ?_)
    subst hq
    refine lv_aload_n hx hb dX9_say_15 rfl (lv_at hl 0 rfl) ?_
    refine lv_iload_n hx hb dX9_say_16 rfl (lv_at hl 1 rfl) ?_
    refine rp_callVI (na := 1) hx hb hml hown hts hK hA hD hP hS hl.1 0 (by decide) (kX9 _) rfl [.int (nI jv)] (c_X9_sayNow l D cy ad (remT σ u) (σ 6) jv (remT_r _ _ (by decide) (by decide)) (by first | assumption | omega)) gX9_say_X9_sayNow rfl (by decide +kernel) rfl ⟨Nat.le_of_ble_eq_true rfl, Nat.le_of_ble_eq_true rfl⟩ ⟨rfl, rfl⟩ ⟨Nat.zero_le _, Nat.zero_le _⟩ rfl (Nat.le_of_ble_eq_true rfl) dX9_say_17 (fun v_ τ_ H locs hq hP hS => ?_)
    obtain ⟨rfl, rfl⟩ := hq
    exact hret hP hS dX9_say_20 rfl ⟨(by unfold R_X9_say <;> (try rw [nI_clamp (n := jv) (by omega)]) <;> rw [if_pos c5] <;> first | with_reducible rfl), (by unfold T_X9_say <;> (try rw [nI_clamp (n := jv) (by omega)]) <;> rw [if_pos c5] <;> first | with_reducible rfl)⟩
  · skip
    have c5 := bi_eq0.mp c5
    refine lv_ldc (v := (-1000000001)) hx hb hown (hts (.constant RX9 206 (-1000000001)) (by decide +kernel)) dX9_say_8 ?_
    exact hret hP hS dX9_say_10 rfl ⟨(by unfold R_X9_say <;> rw [if_neg c5] <;> first | with_reducible rfl), (by unfold T_X9_say <;> rw [if_neg c5] <;> first | with_reducible rfl)⟩

def R_X9_vow (σ : Nat → Nat → Int32) (n : Nat) (u : Nat) (v : Int32) (w : Int32) : Int32 := (if (0 ≤ v ∧ ¬ nI n ≤ v) then (if w = 0 then ((((remT σ u) 6 11) >>> (v &&& 31)) &&& 1) else ((((remT σ u) 6 11) >>> (v &&& 31)) &&& 1)) else (-1000000001))
def T_X9_vow (σ : Nat → Nat → Int32) (n : Nat) (u : Nat) (v : Int32) (w : Int32) : Nat → Nat → Int32 := (if (0 ≤ v ∧ ¬ nI n ≤ v) then (if w = 0 then up2 (remT σ u) 6 11 (((remT σ u) 6 11) &&& (((1 : Int32) <<< (v &&& 31)) ^^^ (-1))) else up2 (remT σ u) 6 11 (((remT σ u) 6 11) ||| ((1 : Int32) <<< (v &&& 31)))) else σ)
theorem in_X9_vow_X9 : ∀ w ∈ u_ws RX9 TX9 38, w ∈ wsX9_vow := by decide +kernel
set_option maxHeartbeats 1000000 in
set_option maxRecDepth 100000 in
theorem c_X9_vow (l : Launch) (D : va_G) (cy : Nat → ClassId) (ad : Nat → Nat) (σ : Nat → Nat → Int32) (n : Nat) (u : Nat) (v : Int32) (w : Int32) (hn : n ≤ 10) (en : σ 0 5 = nI n) (hu : u ≤ 16) (eu : σ 0 31 = nI u) : MI l D (tysW cy) 19 ad (cfM ad cy) yX9_vow wsX9_vow ({ frames := 2, cells := 0, slots := 0, locals := 46 }) σ [.ref (ad 0), .int v, .int w] (fun v_ τ_ => (R_X9_vow σ n u v w) = v_ ∧ (T_X9_vow σ n u v w) = τ_) := by
  refine MI.go (cc := cX9_vow) (maxL := 4) .int (by decide) rfl (Nat.le_of_ble_eq_true rfl) ?_
  intro p_ e_ s_ m_ args_ bl_ mt_ c_ A_ Q_ ls hx hb hml hown hts hK hA hD hP hS hl hret
  have hl : lv_has ls 4 [(0, .ref (ad 0)), (1, .int v), (2, .int w)] := hl
  refine lv_aload_n hx hb dX9_vow_0 rfl (lv_at hl 0 rfl) ?_
  refine lv_iload_n hx hb dX9_vow_1 rfl (lv_at hl 1 rfl) ?_
  refine rp_callVI (na := 1) hx hb hml hown hts hK hA hD hP hS hl.1 0 (by decide) (kX9 _) rfl [.int v] (c_X9_isSaying l D cy ad σ n v (by first | assumption | omega) (by first | assumption | rfl)) gX9_vow_X9_isSaying rfl (by decide +kernel) rfl ⟨Nat.le_of_ble_eq_true rfl, Nat.le_of_ble_eq_true rfl⟩ ⟨rfl, rfl⟩ ⟨Nat.zero_le _, Nat.zero_le _⟩ rfl (Nat.le_of_ble_eq_true rfl) dX9_vow_2 (fun v_ τ_ H locs hq hP hS => ?_)
  obtain ⟨rfl, rfl⟩ := hq
  refine lv_if_ne (tgt := 11) hx hb dX9_vow_5 (by decide) (fun c5 => ?_) (fun c5 => ?_)
  · skip
    have c5 := bi_ne0.mp c5
    obtain ⟨jv, hjv, rfl⟩ := nI_rng2 c5 (by omega)
    refine lv_aload_n hx hb dX9_vow_11 rfl (lv_at hl 0 rfl) ?_
    refine rp_callVV (na := 0) hx hb hml hown hts hK hA hD hP hS hl.1 0 (by decide) (kX9 _) rfl [] (c_X9_remember l D cy ad σ u (by first | assumption | omega) (by first | assumption | rfl)) gX9_vow_X9_remember rfl (by decide +kernel) rfl ⟨Nat.le_of_ble_eq_true rfl, Nat.le_of_ble_eq_true rfl⟩ ⟨rfl, rfl⟩ ⟨Nat.zero_le _, Nat.zero_le _⟩ rfl (Nat.le_of_ble_eq_true rfl) dX9_vow_12 (fun τ_ H locs hq hP hS => ?_)
    subst hq
    refine lv_aload_n hx hb dX9_vow_15 rfl (lv_at hl 0 rfl) ?_
    refine rp_get (C := RX9) (T := TX9) (N := 38) hx hb hts in_X9_vow_X9 hown hK hP 0 (by decide) (kX9 _) rfl 11 (by decide) (by decide +kernel) rfl dX9_vow_16 ?_
    refine lv_bipush (v := 11) hx hb dX9_vow_19 (by decide) ?_
    refine rp_iald hx hb hK hP 6 (by decide) (kX9_11 _) 0 rfl 11 rfl (by decide) (by decide) dX9_vow_21 ?_
    refine lv_iload_n hx hb dX9_vow_22 rfl (lv_at hl 1 rfl) ?_
    refine lv_ishr hx hb dX9_vow_23 ?_
    refine lv_iconst (v := 1) hx hb dX9_vow_24 (by decide) ?_
    refine lv_iand hx hb dX9_vow_25 ?_
    refine lv_istore_n (lv' := [(3, .int ((((remT σ u) 6 11) >>> ((nI jv) &&& 31)) &&& 1)), (0, .ref (ad 0)), (1, .int (nI jv)), (2, .int w)]) hx hb dX9_vow_26 rfl hl (by decide) rfl (fun ls hl => ?_)
    refine lv_aload_n hx hb dX9_vow_27 rfl (lv_at hl 1 rfl) ?_
    refine rp_get (C := RX9) (T := TX9) (N := 38) hx hb hts in_X9_vow_X9 hown hK hP 0 (by decide) (kX9 _) rfl 11 (by decide) (by decide +kernel) rfl dX9_vow_28 ?_
    refine lv_bipush (v := 11) hx hb dX9_vow_31 (by decide) ?_
    refine lv_iload_n hx hb dX9_vow_33 rfl (lv_at hl 3 rfl) ?_
    refine lv_if_eq (tgt := 51) hx hb dX9_vow_34 (by decide) (fun c34 => ?_) (fun c34 => ?_)
    · skip
      refine lv_aload_n hx hb dX9_vow_51 rfl (lv_at hl 1 rfl) ?_
      refine rp_get (C := RX9) (T := TX9) (N := 38) hx hb hts in_X9_vow_X9 hown hK hP 0 (by decide) (kX9 _) rfl 11 (by decide) (by decide +kernel) rfl dX9_vow_52 ?_
      refine lv_bipush (v := 11) hx hb dX9_vow_55 (by decide) ?_
      refine rp_iald hx hb hK hP 6 (by decide) (kX9_11 _) 0 rfl 11 rfl (by decide) (by decide) dX9_vow_57 ?_
      refine lv_iconst (v := 1) hx hb dX9_vow_58 (by decide) ?_
      refine lv_iload_n hx hb dX9_vow_59 rfl (lv_at hl 2 rfl) ?_
      refine lv_ishl hx hb dX9_vow_60 ?_
      refine lv_iconst (v := (-1)) hx hb dX9_vow_61 (by decide) ?_
      refine lv_ixor hx hb dX9_vow_62 ?_
      refine lv_iand hx hb dX9_vow_63 ?_
      refine rp_iast (x := (((remT σ u) 6 11) &&& (((1 : Int32) <<< ((nI jv) &&& 31)) ^^^ (-1)))) hx hb hK hP hD hS 6 (by decide) (fun f => kX9_11 f) 0 rfl 11 rfl (by decide) (by decide) dX9_vow_64 (fun H locs hP hS => ?_)
      refine lv_iload_n hx hb dX9_vow_65 rfl (lv_at hl 0 rfl) ?_
      exact hret hP hS dX9_vow_66 rfl ⟨(by unfold R_X9_vow <;> (try rw [nI_clamp (n := jv) (by omega)]) <;> rw [if_pos c5, if_pos c34] <;> first | with_reducible rfl), (by unfold T_X9_vow <;> (try rw [nI_clamp (n := jv) (by omega)]) <;> rw [if_pos c5, if_pos c34] <;> first | with_reducible rfl)⟩
    · skip
      refine lv_aload_n hx hb dX9_vow_37 rfl (lv_at hl 1 rfl) ?_
      refine rp_get (C := RX9) (T := TX9) (N := 38) hx hb hts in_X9_vow_X9 hown hK hP 0 (by decide) (kX9 _) rfl 11 (by decide) (by decide +kernel) rfl dX9_vow_38 ?_
      refine lv_bipush (v := 11) hx hb dX9_vow_41 (by decide) ?_
      refine rp_iald hx hb hK hP 6 (by decide) (kX9_11 _) 0 rfl 11 rfl (by decide) (by decide) dX9_vow_43 ?_
      refine lv_iconst (v := 1) hx hb dX9_vow_44 (by decide) ?_
      refine lv_iload_n hx hb dX9_vow_45 rfl (lv_at hl 2 rfl) ?_
      refine lv_ishl hx hb dX9_vow_46 ?_
      refine lv_ior hx hb dX9_vow_47 ?_
      refine lv_goto (tgt := 64) hx hb dX9_vow_48 (by decide) ?_
      refine rp_iast (x := (((remT σ u) 6 11) ||| ((1 : Int32) <<< ((nI jv) &&& 31)))) hx hb hK hP hD hS 6 (by decide) (fun f => kX9_11 f) 0 rfl 11 rfl (by decide) (by decide) dX9_vow_64 (fun H locs hP hS => ?_)
      refine lv_iload_n hx hb dX9_vow_65 rfl (lv_at hl 0 rfl) ?_
      exact hret hP hS dX9_vow_66 rfl ⟨(by unfold R_X9_vow <;> (try rw [nI_clamp (n := jv) (by omega)]) <;> rw [if_pos c5, if_neg c34] <;> first | with_reducible rfl), (by unfold T_X9_vow <;> (try rw [nI_clamp (n := jv) (by omega)]) <;> rw [if_pos c5, if_neg c34] <;> first | with_reducible rfl)⟩
  · skip
    have c5 := bi_eq0.mp c5
    refine lv_ldc (v := (-1000000001)) hx hb hown (hts (.constant RX9 206 (-1000000001)) (by decide +kernel)) dX9_vow_8 ?_
    exact hret hP hS dX9_vow_10 rfl ⟨(by unfold R_X9_vow <;> rw [if_neg c5] <;> first | with_reducible rfl), (by unfold T_X9_vow <;> rw [if_neg c5] <;> first | with_reducible rfl)⟩

def R_X9_nightsRefused (σ : Nat → Nat → Int32) (v : Int32) : Int32 := (if (1 ≤ v ∧ v ≤ 60) then (if (σ 0 0) = 0 then (-1000000003) else (if (σ 6 14) ≤ 9000 then 0 else (-1000000004))) else (-1000000002))
theorem in_X9_nightsRefused_X9 : ∀ w ∈ u_ws RX9 TX9 38, w ∈ wsX9_nightsRefused := by decide +kernel
set_option maxHeartbeats 1000000 in
set_option maxRecDepth 100000 in
theorem c_X9_nightsRefused (l : Launch) (D : va_G) (cy : Nat → ClassId) (ad : Nat → Nat) (σ : Nat → Nat → Int32) (v : Int32)  : MI l D (tysW cy) 19 ad (cfM ad cy) yX9_nightsRefused wsX9_nightsRefused ({ frames := 1, cells := 0, slots := 0, locals := 25 }) σ [.ref (ad 0), .int v] (fun v_ τ_ => (R_X9_nightsRefused σ v) = v_ ∧ σ = τ_) := by
  refine MI.go (cc := cX9_nightsRefused) (maxL := 2) .int (by decide) rfl (Nat.le_of_ble_eq_true rfl) ?_
  intro p_ e_ s_ m_ args_ bl_ mt_ c_ A_ Q_ ls hx hb hml hown hts hK hA hD hP hS hl hret
  have hl : lv_has ls 2 [(0, .ref (ad 0)), (1, .int v)] := hl
  refine lv_iload_n hx hb dX9_nightsRefused_0 rfl (lv_at hl 1 rfl) ?_
  refine lv_i2l (v := (v).toInt64) hx hb dX9_nightsRefused_1 rfl ?_
  refine lv_lconst (v := 1) hx hb dX9_nightsRefused_2 (by decide) ?_
  refine lv_ldc2 (v := 60) hx hb hown (hts (.constantLong RX9 245 (60)) (by decide +kernel)) dX9_nightsRefused_3 ?_
  refine rp_callSI (na := 3) hx hb hml hown hts hK hA hD hP hS hl.1 [.long (v).toInt64, .long 1, .long 60] (c_X9_in l D cy ad σ ((v).toInt64) 1 60 ) gX9_nightsRefused_X9_in rfl (by decide +kernel) rfl ⟨Nat.le_of_ble_eq_true rfl, Nat.le_of_ble_eq_true rfl⟩ ⟨rfl, rfl⟩ ⟨Nat.zero_le _, Nat.zero_le _⟩ rfl (Nat.le_of_ble_eq_true rfl) dX9_nightsRefused_6 (fun v_ τ_ H locs hq hP hS => ?_)
  obtain ⟨rfl, rfl⟩ := hq
  rw [in_1_60]
  refine lv_if_ne (tgt := 15) hx hb dX9_nightsRefused_9 (by decide) (fun c9 => ?_) (fun c9 => ?_)
  · skip
    have c9 := bi_ne0.mp c9
    refine lv_aload_n hx hb dX9_nightsRefused_15 rfl (lv_at hl 0 rfl) ?_
    refine rp_get (C := RX9) (T := TX9) (N := 38) hx hb hts in_X9_nightsRefused_X9 hown hK hP 0 (by decide) (kX9 _) rfl 0 (by decide) (by decide +kernel) rfl dX9_nightsRefused_16 ?_
    refine lv_if_ne (tgt := 27) hx hb dX9_nightsRefused_19 (by decide) (fun c19 => ?_) (fun c19 => ?_)
    · skip
      refine lv_aload_n hx hb dX9_nightsRefused_27 rfl (lv_at hl 0 rfl) ?_
      refine rp_get (C := RX9) (T := TX9) (N := 38) hx hb hts in_X9_nightsRefused_X9 hown hK hP 0 (by decide) (kX9 _) rfl 11 (by decide) (by decide +kernel) rfl dX9_nightsRefused_28 ?_
      refine lv_bipush (v := 14) hx hb dX9_nightsRefused_31 (by decide) ?_
      refine rp_iald hx hb hK hP 6 (by decide) (kX9_11 _) 0 rfl 14 rfl (by decide) (by decide) dX9_nightsRefused_33 ?_
      refine lv_sipush (v := 9000) hx hb dX9_nightsRefused_34 (by decide) ?_
      refine lv_icmp_le (tgt := 45) hx hb dX9_nightsRefused_37 (by decide) (fun c37 => ?_) (fun c37 => ?_)
      · skip
        refine lv_iconst (v := 0) hx hb dX9_nightsRefused_45 (by decide) ?_
        exact hret hP hS dX9_nightsRefused_46 rfl ⟨(by unfold R_X9_nightsRefused <;> rw [if_pos c9, if_neg c19, if_pos c37] <;> first | with_reducible rfl), rfl⟩
      · skip
        refine lv_ldc (v := (-1000000004)) hx hb hown (hts (.constant RX9 89 (-1000000004)) (by decide +kernel)) dX9_nightsRefused_40 ?_
        refine lv_goto (tgt := 46) hx hb dX9_nightsRefused_42 (by decide) ?_
        exact hret hP hS dX9_nightsRefused_46 rfl ⟨(by unfold R_X9_nightsRefused <;> rw [if_pos c9, if_neg c19, if_neg c37] <;> first | with_reducible rfl), rfl⟩
    · skip
      refine lv_ldc (v := (-1000000003)) hx hb hown (hts (.constant RX9 232 (-1000000003)) (by decide +kernel)) dX9_nightsRefused_22 ?_
      refine lv_goto (tgt := 46) hx hb dX9_nightsRefused_24 (by decide) ?_
      exact hret hP hS dX9_nightsRefused_46 rfl ⟨(by unfold R_X9_nightsRefused <;> rw [if_pos c9, if_pos c19] <;> first | with_reducible rfl), rfl⟩
  · skip
    have c9 := bi_eq0.mp c9
    refine lv_ldc (v := (-1000000002)) hx hb hown (hts (.constant RX9 85 (-1000000002)) (by decide +kernel)) dX9_nightsRefused_12 ?_
    exact hret hP hS dX9_nightsRefused_14 rfl ⟨(by unfold R_X9_nightsRefused <;> rw [if_neg c9] <;> first | with_reducible rfl), rfl⟩

def R_X9_rain (σ : Nat → Nat → Int32) (u : Nat) (v : Int32) : Int32 := (if (0 ≤ v ∧ v ≤ 99) then (if (σ 0 0) = 0 then (-1000000003) else ((remT σ u) 6 13)) else (-1000000002))
def T_X9_rain (σ : Nat → Nat → Int32) (u : Nat) (v : Int32) : Nat → Nat → Int32 := (if (0 ≤ v ∧ v ≤ 99) then (if (σ 0 0) = 0 then σ else up2 (remT σ u) 6 13 v) else σ)
theorem in_X9_rain_X9 : ∀ w ∈ u_ws RX9 TX9 38, w ∈ wsX9_rain := by decide +kernel
set_option maxHeartbeats 1000000 in
set_option maxRecDepth 100000 in
theorem c_X9_rain (l : Launch) (D : va_G) (cy : Nat → ClassId) (ad : Nat → Nat) (σ : Nat → Nat → Int32) (u : Nat) (v : Int32) (hu : u ≤ 16) (eu : σ 0 31 = nI u) : MI l D (tysW cy) 19 ad (cfM ad cy) yX9_rain wsX9_rain ({ frames := 1, cells := 0, slots := 0, locals := 25 }) σ [.ref (ad 0), .int v] (fun v_ τ_ => (R_X9_rain σ u v) = v_ ∧ (T_X9_rain σ u v) = τ_) := by
  refine MI.go (cc := cX9_rain) (maxL := 3) .int (by decide) rfl (Nat.le_of_ble_eq_true rfl) ?_
  intro p_ e_ s_ m_ args_ bl_ mt_ c_ A_ Q_ ls hx hb hml hown hts hK hA hD hP hS hl hret
  have hl : lv_has ls 3 [(0, .ref (ad 0)), (1, .int v)] := hl
  refine lv_iload_n hx hb dX9_rain_0 rfl (lv_at hl 1 rfl) ?_
  refine lv_i2l (v := (v).toInt64) hx hb dX9_rain_1 rfl ?_
  refine lv_lconst (v := 0) hx hb dX9_rain_2 (by decide) ?_
  refine lv_ldc2 (v := 99) hx hb hown (hts (.constantLong RX9 253 (99)) (by decide +kernel)) dX9_rain_3 ?_
  refine rp_callSI (na := 3) hx hb hml hown hts hK hA hD hP hS hl.1 [.long (v).toInt64, .long 0, .long 99] (c_X9_in l D cy ad σ ((v).toInt64) 0 99 ) gX9_rain_X9_in rfl (by decide +kernel) rfl ⟨Nat.le_of_ble_eq_true rfl, Nat.le_of_ble_eq_true rfl⟩ ⟨rfl, rfl⟩ ⟨Nat.zero_le _, Nat.zero_le _⟩ rfl (Nat.le_of_ble_eq_true rfl) dX9_rain_6 (fun v_ τ_ H locs hq hP hS => ?_)
  obtain ⟨rfl, rfl⟩ := hq
  rw [in_0_99]
  refine lv_if_ne (tgt := 15) hx hb dX9_rain_9 (by decide) (fun c9 => ?_) (fun c9 => ?_)
  · skip
    have c9 := bi_ne0.mp c9
    refine lv_aload_n hx hb dX9_rain_15 rfl (lv_at hl 0 rfl) ?_
    refine rp_get (C := RX9) (T := TX9) (N := 38) hx hb hts in_X9_rain_X9 hown hK hP 0 (by decide) (kX9 _) rfl 0 (by decide) (by decide +kernel) rfl dX9_rain_16 ?_
    refine lv_if_ne (tgt := 25) hx hb dX9_rain_19 (by decide) (fun c19 => ?_) (fun c19 => ?_)
    · skip
      refine lv_aload_n hx hb dX9_rain_25 rfl (lv_at hl 0 rfl) ?_
      refine rp_callVV (na := 0) hx hb hml hown hts hK hA hD hP hS hl.1 0 (by decide) (kX9 _) rfl [] (c_X9_remember l D cy ad σ u (by first | assumption | omega) (by first | assumption | rfl)) gX9_rain_X9_remember rfl (by decide +kernel) rfl ⟨Nat.le_of_ble_eq_true rfl, Nat.le_of_ble_eq_true rfl⟩ ⟨rfl, rfl⟩ ⟨Nat.zero_le _, Nat.zero_le _⟩ rfl (Nat.le_of_ble_eq_true rfl) dX9_rain_26 (fun τ_ H locs hq hP hS => ?_)
      subst hq
      refine lv_aload_n hx hb dX9_rain_29 rfl (lv_at hl 0 rfl) ?_
      refine rp_get (C := RX9) (T := TX9) (N := 38) hx hb hts in_X9_rain_X9 hown hK hP 0 (by decide) (kX9 _) rfl 11 (by decide) (by decide +kernel) rfl dX9_rain_30 ?_
      refine lv_bipush (v := 13) hx hb dX9_rain_33 (by decide) ?_
      refine rp_iald hx hb hK hP 6 (by decide) (kX9_11 _) 0 rfl 13 rfl (by decide) (by decide) dX9_rain_35 ?_
      refine lv_istore_n (lv' := [(2, .int ((remT σ u) 6 13)), (0, .ref (ad 0)), (1, .int v)]) hx hb dX9_rain_36 rfl hl (by decide) rfl (fun ls hl => ?_)
      refine lv_aload_n hx hb dX9_rain_37 rfl (lv_at hl 1 rfl) ?_
      refine rp_get (C := RX9) (T := TX9) (N := 38) hx hb hts in_X9_rain_X9 hown hK hP 0 (by decide) (kX9 _) rfl 11 (by decide) (by decide +kernel) rfl dX9_rain_38 ?_
      refine lv_bipush (v := 13) hx hb dX9_rain_41 (by decide) ?_
      refine lv_iload_n hx hb dX9_rain_43 rfl (lv_at hl 2 rfl) ?_
      refine rp_iast (x := v) hx hb hK hP hD hS 6 (by decide) (fun f => kX9_11 f) 0 rfl 13 rfl (by decide) (by decide) dX9_rain_44 (fun H locs hP hS => ?_)
      refine lv_iload_n hx hb dX9_rain_45 rfl (lv_at hl 0 rfl) ?_
      exact hret hP hS dX9_rain_46 rfl ⟨(by unfold R_X9_rain <;> rw [if_pos c9, if_neg c19] <;> first | with_reducible rfl), (by unfold T_X9_rain <;> rw [if_pos c9, if_neg c19] <;> first | with_reducible rfl)⟩
    · skip
      refine lv_ldc (v := (-1000000003)) hx hb hown (hts (.constant RX9 232 (-1000000003)) (by decide +kernel)) dX9_rain_22 ?_
      exact hret hP hS dX9_rain_24 rfl ⟨(by unfold R_X9_rain <;> rw [if_pos c9, if_pos c19] <;> first | with_reducible rfl), (by unfold T_X9_rain <;> rw [if_pos c9, if_pos c19] <;> first | with_reducible rfl)⟩
  · skip
    have c9 := bi_eq0.mp c9
    refine lv_ldc (v := (-1000000002)) hx hb hown (hts (.constant RX9 85 (-1000000002)) (by decide +kernel)) dX9_rain_12 ?_
    exact hret hP hS dX9_rain_14 rfl ⟨(by unfold R_X9_rain <;> rw [if_neg c9] <;> first | with_reducible rfl), (by unfold T_X9_rain <;> rw [if_neg c9] <;> first | with_reducible rfl)⟩

def R_X9_queue (σ : Nat → Nat → Int32) (n : Nat) (k : Nat) (u : Nat) (q : Nat) (v : Int32) (w : Int32) : Int32 := (if (0 ≤ v ∧ ¬ nI k ≤ v) then (if (0 ≤ w ∧ ¬ nI n ≤ w) then (if (nI q) = 6 then (-1000000004) else ((T_X9_lineUp (σ 6) q ((10 * v) + w)) 16)) else (-1000000001)) else (-1000000001))
def T_X9_queue (σ : Nat → Nat → Int32) (n : Nat) (k : Nat) (u : Nat) (q : Nat) (v : Int32) (w : Int32) : Nat → Nat → Int32 := (if (0 ≤ v ∧ ¬ nI k ≤ v) then (if (0 ≤ w ∧ ¬ nI n ≤ w) then (if (nI q) = 6 then σ else va_up (remT σ u) 6 (T_X9_lineUp (σ 6) q ((10 * v) + w))) else σ) else σ)
theorem in_X9_queue_X9 : ∀ w ∈ u_ws RX9 TX9 38, w ∈ wsX9_queue := by decide +kernel
set_option maxHeartbeats 1000000 in
set_option maxRecDepth 100000 in
theorem c_X9_queue (l : Launch) (D : va_G) (cy : Nat → ClassId) (ad : Nat → Nat) (σ : Nat → Nat → Int32) (n : Nat) (k : Nat) (u : Nat) (q : Nat) (v : Int32) (w : Int32) (hn : n ≤ 10) (en : σ 0 5 = nI n) (hk : k ≤ 5) (ek : σ 0 3 = nI k) (hu : u ≤ 16) (eu : σ 0 31 = nI u) (hq : q ≤ 6) (eq : σ 6 16 = nI q) : MI l D (tysW cy) 19 ad (cfM ad cy) yX9_queue wsX9_queue ({ frames := 2, cells := 0, slots := 0, locals := 46 }) σ [.ref (ad 0), .int v, .int w] (fun v_ τ_ => (R_X9_queue σ n k u q v w) = v_ ∧ (T_X9_queue σ n k u q v w) = τ_) := by
  refine MI.go (cc := cX9_queue) (maxL := 3) .int (by decide) rfl (Nat.le_of_ble_eq_true rfl) ?_
  intro p_ e_ s_ m_ args_ bl_ mt_ c_ A_ Q_ ls hx hb hml hown hts hK hA hD hP hS hl hret
  have hl : lv_has ls 3 [(0, .ref (ad 0)), (1, .int v), (2, .int w)] := hl
  refine lv_aload_n hx hb dX9_queue_0 rfl (lv_at hl 0 rfl) ?_
  refine lv_iload_n hx hb dX9_queue_1 rfl (lv_at hl 1 rfl) ?_
  refine rp_callVI (na := 1) hx hb hml hown hts hK hA hD hP hS hl.1 0 (by decide) (kX9 _) rfl [.int v] (c_X9_isPerson l D cy ad σ k v (by first | assumption | omega) (by first | assumption | rfl)) gX9_queue_X9_isPerson rfl (by decide +kernel) rfl ⟨Nat.le_of_ble_eq_true rfl, Nat.le_of_ble_eq_true rfl⟩ ⟨rfl, rfl⟩ ⟨Nat.zero_le _, Nat.zero_le _⟩ rfl (Nat.le_of_ble_eq_true rfl) dX9_queue_2 (fun v_ τ_ H locs hq hP hS => ?_)
  obtain ⟨rfl, rfl⟩ := hq
  refine lv_if_eq (tgt := 16) hx hb dX9_queue_5 (by decide) (fun c5 => ?_) (fun c5 => ?_)
  · skip
    have c5 := bi_eq0.mp c5
    refine lv_ldc (v := (-1000000001)) hx hb hown (hts (.constant RX9 206 (-1000000001)) (by decide +kernel)) dX9_queue_16 ?_
    exact hret hP hS dX9_queue_18 rfl ⟨(by unfold R_X9_queue <;> rw [if_neg c5] <;> first | with_reducible rfl), (by unfold T_X9_queue <;> rw [if_neg c5] <;> first | with_reducible rfl)⟩
  · skip
    have c5 := bi_ne0.mp c5
    obtain ⟨jv, hjv, rfl⟩ := nI_rng2 c5 (by omega)
    refine lv_aload_n hx hb dX9_queue_8 rfl (lv_at hl 0 rfl) ?_
    refine lv_iload_n hx hb dX9_queue_9 rfl (lv_at hl 2 rfl) ?_
    refine rp_callVI (na := 1) hx hb hml hown hts hK hA hD hP hS hl.1 0 (by decide) (kX9 _) rfl [.int w] (c_X9_isSaying l D cy ad σ n w (by first | assumption | omega) (by first | assumption | rfl)) gX9_queue_X9_isSaying rfl (by decide +kernel) rfl ⟨Nat.le_of_ble_eq_true rfl, Nat.le_of_ble_eq_true rfl⟩ ⟨rfl, rfl⟩ ⟨Nat.zero_le _, Nat.zero_le _⟩ rfl (Nat.le_of_ble_eq_true rfl) dX9_queue_10 (fun v_ τ_ H locs hq hP hS => ?_)
    obtain ⟨rfl, rfl⟩ := hq
    refine lv_if_ne (tgt := 19) hx hb dX9_queue_13 (by decide) (fun c13 => ?_) (fun c13 => ?_)
    · skip
      have c13 := bi_ne0.mp c13
      obtain ⟨jw, hjw, rfl⟩ := nI_rng2 c13 (by omega)
      refine lv_aload_n hx hb dX9_queue_19 rfl (lv_at hl 0 rfl) ?_
      refine rp_get (C := RX9) (T := TX9) (N := 38) hx hb hts in_X9_queue_X9 hown hK hP 0 (by decide) (kX9 _) rfl 11 (by decide) (by decide +kernel) rfl dX9_queue_20 ?_
      refine lv_bipush (v := 16) hx hb dX9_queue_23 (by decide) ?_
      refine rp_iald hx hb hK hP 6 (by decide) (kX9_11 _) 0 rfl 16 rfl (by decide) (by decide) dX9_queue_25 ?_
      rw [eq]
      refine lv_bipush (v := 6) hx hb dX9_queue_26 (by decide) ?_
      refine lv_icmp_ne (tgt := 34) hx hb dX9_queue_28 (by decide) (fun c28 => ?_) (fun c28 => ?_)
      · skip
        have hq2 := lt_of_ne hq (by omega) c28
        refine lv_aload_n hx hb dX9_queue_34 rfl (lv_at hl 0 rfl) ?_
        refine rp_callVV (na := 0) hx hb hml hown hts hK hA hD hP hS hl.1 0 (by decide) (kX9 _) rfl [] (c_X9_remember l D cy ad σ u (by first | assumption | omega) (by first | assumption | rfl)) gX9_queue_X9_remember rfl (by decide +kernel) rfl ⟨Nat.le_of_ble_eq_true rfl, Nat.le_of_ble_eq_true rfl⟩ ⟨rfl, rfl⟩ ⟨Nat.zero_le _, Nat.zero_le _⟩ rfl (Nat.le_of_ble_eq_true rfl) dX9_queue_35 (fun τ_ H locs hq hP hS => ?_)
        subst hq
        refine lv_aload_n hx hb dX9_queue_38 rfl (lv_at hl 0 rfl) ?_
        refine lv_bipush (v := 10) hx hb dX9_queue_39 (by decide) ?_
        refine lv_iload_n hx hb dX9_queue_41 rfl (lv_at hl 1 rfl) ?_
        refine lv_imul hx hb dX9_queue_42 ?_
        refine lv_iload_n hx hb dX9_queue_43 rfl (lv_at hl 2 rfl) ?_
        refine lv_iadd hx hb dX9_queue_44 ?_
        refine rp_callVV (na := 1) hx hb hml hown hts hK hA hD hP hS hl.1 0 (by decide) (kX9 _) rfl [.int ((10 * (nI jv)) + (nI jw))] (c_X9_lineUp l D cy ad (remT σ u) (σ 6) q ((10 * (nI jv)) + (nI jw)) (remT_r _ _ (by decide) (by decide)) hq2 eq) gX9_queue_X9_lineUp rfl (by decide +kernel) rfl ⟨Nat.le_of_ble_eq_true rfl, Nat.le_of_ble_eq_true rfl⟩ ⟨rfl, rfl⟩ ⟨Nat.zero_le _, Nat.zero_le _⟩ rfl (Nat.le_of_ble_eq_true rfl) dX9_queue_45 (fun τ_ H locs hq hP hS => ?_)
        subst hq
        refine lv_aload_n hx hb dX9_queue_48 rfl (lv_at hl 0 rfl) ?_
        refine rp_get (C := RX9) (T := TX9) (N := 38) hx hb hts in_X9_queue_X9 hown hK hP 0 (by decide) (kX9 _) rfl 11 (by decide) (by decide +kernel) rfl dX9_queue_49 ?_
        refine lv_bipush (v := 16) hx hb dX9_queue_52 (by decide) ?_
        refine rp_iald hx hb hK hP 6 (by decide) (kX9_11 _) 0 rfl 16 rfl (by decide) (by decide) dX9_queue_54 ?_
        rw [show (va_up (remT σ u) 6 (T_X9_lineUp (σ 6) q ((10 * (nI jv)) + (nI jw)))) 6 16 = ((T_X9_lineUp (σ 6) q ((10 * (nI jv)) + (nI jw))) 16) from va_S']
        exact hret hP hS dX9_queue_55 rfl ⟨(by unfold R_X9_queue <;> (try rw [nI_clamp (n := jv) (by omega)]) <;> (try rw [nI_clamp (n := jw) (by omega)]) <;> rw [if_pos c5, if_pos c13, if_neg c28] <;> first | with_reducible rfl), (by unfold T_X9_queue <;> (try rw [nI_clamp (n := jv) (by omega)]) <;> (try rw [nI_clamp (n := jw) (by omega)]) <;> rw [if_pos c5, if_pos c13, if_neg c28] <;> first | with_reducible rfl)⟩
      · skip
        refine lv_ldc (v := (-1000000004)) hx hb hown (hts (.constant RX9 89 (-1000000004)) (by decide +kernel)) dX9_queue_31 ?_
        exact hret hP hS dX9_queue_33 rfl ⟨(by unfold R_X9_queue <;> (try rw [nI_clamp (n := jv) (by omega)]) <;> (try rw [nI_clamp (n := jw) (by omega)]) <;> rw [if_pos c5, if_pos c13, if_pos c28] <;> first | with_reducible rfl), (by unfold T_X9_queue <;> (try rw [nI_clamp (n := jv) (by omega)]) <;> (try rw [nI_clamp (n := jw) (by omega)]) <;> rw [if_pos c5, if_pos c13, if_pos c28] <;> first | with_reducible rfl)⟩
    · skip
      have c13 := bi_eq0.mp c13
      refine lv_ldc (v := (-1000000001)) hx hb hown (hts (.constant RX9 206 (-1000000001)) (by decide +kernel)) dX9_queue_16 ?_
      exact hret hP hS dX9_queue_18 rfl ⟨(by unfold R_X9_queue <;> (try rw [nI_clamp (n := jv) (by omega)]) <;> rw [if_pos c5, if_neg c13] <;> first | with_reducible rfl), (by unfold T_X9_queue <;> (try rw [nI_clamp (n := jv) (by omega)]) <;> rw [if_pos c5, if_neg c13] <;> first | with_reducible rfl)⟩

def R_X9_tear (σ : Nat → Nat → Int32)  : Int32 := (σ 0 33)
def T_X9_tear (σ : Nat → Nat → Int32)  : Nat → Nat → Int32 := up2 σ 0 33 0
theorem in_X9_tear_X9 : ∀ w ∈ u_ws RX9 TX9 38, w ∈ wsX9_tear := by decide +kernel
set_option maxHeartbeats 1000000 in
set_option maxRecDepth 100000 in
theorem c_X9_tear (l : Launch) (D : va_G) (cy : Nat → ClassId) (ad : Nat → Nat) (σ : Nat → Nat → Int32)   : MI l D (tysW cy) 19 ad (cfM ad cy) yX9_tear wsX9_tear ({ frames := 0, cells := 0, slots := 0, locals := 0 }) σ [.ref (ad 0)] (fun v_ τ_ => (R_X9_tear σ) = v_ ∧ (T_X9_tear σ) = τ_) := by
  refine MI.go (cc := cX9_tear) (maxL := 2) .int (by decide) rfl (Nat.le_of_ble_eq_true rfl) ?_
  intro p_ e_ s_ m_ args_ bl_ mt_ c_ A_ Q_ ls hx hb hml hown hts hK hA hD hP hS hl hret
  have hl : lv_has ls 2 [(0, .ref (ad 0))] := hl
  refine lv_aload_n hx hb dX9_tear_0 rfl (lv_at hl 0 rfl) ?_
  refine rp_get (C := RX9) (T := TX9) (N := 38) hx hb hts in_X9_tear_X9 hown hK hP 0 (by decide) (kX9 _) rfl 33 (by decide) (by decide +kernel) rfl dX9_tear_1 ?_
  refine lv_istore_n (lv' := [(1, .int (σ 0 33)), (0, .ref (ad 0))]) hx hb dX9_tear_4 rfl hl (by decide) rfl (fun ls hl => ?_)
  refine lv_aload_n hx hb dX9_tear_5 rfl (lv_at hl 1 rfl) ?_
  refine lv_iconst (v := 0) hx hb dX9_tear_6 (by decide) ?_
  refine rp_put (C := RX9) (T := TX9) (N := 38) (v := 0) hx hb hts in_X9_tear_X9 tyX9 tyX9_ok nmX9 hown hK hP hD hS 0 (by decide) (kX9 _) rfl 33 (by decide) (by decide +kernel) rfl rfl rfl (Nat.le_of_ble_eq_true rfl) (kX9 _) dX9_tear_7 (fun H locs hP hS => ?_)
  refine lv_iload_n hx hb dX9_tear_10 rfl (lv_at hl 0 rfl) ?_
  exact hret hP hS dX9_tear_11 rfl ⟨(by unfold R_X9_tear <;> first | with_reducible rfl), (by unfold T_X9_tear <;> first | with_reducible rfl)⟩

def R_X9_seed (σ : Nat → Nat → Int32) (v : Int32) : Int32 := (if 0 ≤ v then (σ 0 12) else (-1000000002))
def T_X9_seed (σ : Nat → Nat → Int32) (v : Int32) : Nat → Nat → Int32 := (if 0 ≤ v then up2 σ 0 12 v else σ)
theorem in_X9_seed_X9 : ∀ w ∈ u_ws RX9 TX9 38, w ∈ wsX9_seed := by decide +kernel
set_option maxHeartbeats 1000000 in
set_option maxRecDepth 100000 in
theorem c_X9_seed (l : Launch) (D : va_G) (cy : Nat → ClassId) (ad : Nat → Nat) (σ : Nat → Nat → Int32) (v : Int32)  : MI l D (tysW cy) 19 ad (cfM ad cy) yX9_seed wsX9_seed ({ frames := 0, cells := 0, slots := 0, locals := 0 }) σ [.ref (ad 0), .int v] (fun v_ τ_ => (R_X9_seed σ v) = v_ ∧ (T_X9_seed σ v) = τ_) := by
  refine MI.go (cc := cX9_seed) (maxL := 3) .int (by decide) rfl (Nat.le_of_ble_eq_true rfl) ?_
  intro p_ e_ s_ m_ args_ bl_ mt_ c_ A_ Q_ ls hx hb hml hown hts hK hA hD hP hS hl hret
  have hl : lv_has ls 3 [(0, .ref (ad 0)), (1, .int v)] := hl
  refine lv_iload_n hx hb dX9_seed_0 rfl (lv_at hl 1 rfl) ?_
  refine lv_if_ge (tgt := 7) hx hb dX9_seed_1 (by decide) (fun c1 => ?_) (fun c1 => ?_)
  · skip
    refine lv_aload_n hx hb dX9_seed_7 rfl (lv_at hl 0 rfl) ?_
    refine rp_get (C := RX9) (T := TX9) (N := 38) hx hb hts in_X9_seed_X9 hown hK hP 0 (by decide) (kX9 _) rfl 12 (by decide) (by decide +kernel) rfl dX9_seed_8 ?_
    refine lv_istore_n (lv' := [(2, .int (σ 0 12)), (0, .ref (ad 0)), (1, .int v)]) hx hb dX9_seed_11 rfl hl (by decide) rfl (fun ls hl => ?_)
    refine lv_aload_n hx hb dX9_seed_12 rfl (lv_at hl 1 rfl) ?_
    refine lv_iload_n hx hb dX9_seed_13 rfl (lv_at hl 2 rfl) ?_
    refine rp_put (C := RX9) (T := TX9) (N := 38) (v := v) hx hb hts in_X9_seed_X9 tyX9 tyX9_ok nmX9 hown hK hP hD hS 0 (by decide) (kX9 _) rfl 12 (by decide) (by decide +kernel) rfl rfl rfl (Nat.le_of_ble_eq_true rfl) (kX9 _) dX9_seed_14 (fun H locs hP hS => ?_)
    refine lv_iload_n hx hb dX9_seed_17 rfl (lv_at hl 0 rfl) ?_
    exact hret hP hS dX9_seed_18 rfl ⟨(by unfold R_X9_seed <;> rw [if_pos c1] <;> first | with_reducible rfl), (by unfold T_X9_seed <;> rw [if_pos c1] <;> first | with_reducible rfl)⟩
  · skip
    refine lv_ldc (v := (-1000000002)) hx hb hown (hts (.constant RX9 85 (-1000000002)) (by decide +kernel)) dX9_seed_4 ?_
    exact hret hP hS dX9_seed_6 rfl ⟨(by unfold R_X9_seed <;> rw [if_neg c1] <;> first | with_reducible rfl), (by unfold T_X9_seed <;> rw [if_neg c1] <;> first | with_reducible rfl)⟩

def R_X9_fault (σ : Nat → Nat → Int32)  : Int32 := (σ 0 15)
theorem in_X9_fault_X9 : ∀ w ∈ u_ws RX9 TX9 38, w ∈ wsX9_fault := by decide +kernel
set_option maxHeartbeats 1000000 in
set_option maxRecDepth 100000 in
theorem c_X9_fault (l : Launch) (D : va_G) (cy : Nat → ClassId) (ad : Nat → Nat) (σ : Nat → Nat → Int32)   : MI l D (tysW cy) 19 ad (cfM ad cy) yX9_fault wsX9_fault ({ frames := 0, cells := 0, slots := 0, locals := 0 }) σ [.ref (ad 0)] (fun v_ τ_ => (R_X9_fault σ) = v_ ∧ σ = τ_) := by
  refine MI.go (cc := cX9_fault) (maxL := 1) .int (by decide) rfl (Nat.le_of_ble_eq_true rfl) ?_
  intro p_ e_ s_ m_ args_ bl_ mt_ c_ A_ Q_ ls hx hb hml hown hts hK hA hD hP hS hl hret
  have hl : lv_has ls 1 [(0, .ref (ad 0))] := hl
  refine lv_aload_n hx hb dX9_fault_0 rfl (lv_at hl 0 rfl) ?_
  refine rp_get (C := RX9) (T := TX9) (N := 38) hx hb hts in_X9_fault_X9 hown hK hP 0 (by decide) (kX9 _) rfl 15 (by decide) (by decide +kernel) rfl dX9_fault_1 ?_
  exact hret hP hS dX9_fault_4 rfl ⟨(by unfold R_X9_fault <;> first | with_reducible rfl), rfl⟩

def R_X9_feed (σ : Nat → Nat → Int32) (t : Nat) (v : Int32) : Int32 := (if (0 ≤ v ∧ v ≤ 255) then (if (nI t) = 240 then (-1000000004) else ((nI t) + 1)) else (-1000000002))
def T_X9_feed (σ : Nat → Nat → Int32) (t : Nat) (v : Int32) : Nat → Nat → Int32 := (if (0 ≤ v ∧ v ≤ 255) then (if (nI t) = 240 then σ else up2 (up2 σ 7 t v) 0 14 ((nI t) + 1)) else σ)
theorem in_X9_feed_X9 : ∀ w ∈ u_ws RX9 TX9 38, w ∈ wsX9_feed := by decide +kernel
set_option maxHeartbeats 1000000 in
set_option maxRecDepth 100000 in
theorem c_X9_feed (l : Launch) (D : va_G) (cy : Nat → ClassId) (ad : Nat → Nat) (σ : Nat → Nat → Int32) (t : Nat) (v : Int32) (ht : t ≤ 240) (et : σ 0 14 = nI t) : MI l D (tysW cy) 19 ad (cfM ad cy) yX9_feed wsX9_feed ({ frames := 1, cells := 0, slots := 0, locals := 25 }) σ [.ref (ad 0), .int v] (fun v_ τ_ => (R_X9_feed σ t v) = v_ ∧ (T_X9_feed σ t v) = τ_) := by
  refine MI.go (cc := cX9_feed) (maxL := 2) .int (by decide) rfl (Nat.le_of_ble_eq_true rfl) ?_
  intro p_ e_ s_ m_ args_ bl_ mt_ c_ A_ Q_ ls hx hb hml hown hts hK hA hD hP hS hl hret
  have hl : lv_has ls 2 [(0, .ref (ad 0)), (1, .int v)] := hl
  refine lv_iload_n hx hb dX9_feed_0 rfl (lv_at hl 1 rfl) ?_
  refine lv_i2l (v := (v).toInt64) hx hb dX9_feed_1 rfl ?_
  refine lv_lconst (v := 0) hx hb dX9_feed_2 (by decide) ?_
  refine lv_ldc2 (v := 255) hx hb hown (hts (.constantLong RX9 83 (255)) (by decide +kernel)) dX9_feed_3 ?_
  refine rp_callSI (na := 3) hx hb hml hown hts hK hA hD hP hS hl.1 [.long (v).toInt64, .long 0, .long 255] (c_X9_in l D cy ad σ ((v).toInt64) 0 255 ) gX9_feed_X9_in rfl (by decide +kernel) rfl ⟨Nat.le_of_ble_eq_true rfl, Nat.le_of_ble_eq_true rfl⟩ ⟨rfl, rfl⟩ ⟨Nat.zero_le _, Nat.zero_le _⟩ rfl (Nat.le_of_ble_eq_true rfl) dX9_feed_6 (fun v_ τ_ H locs hq hP hS => ?_)
  obtain ⟨rfl, rfl⟩ := hq
  rw [in_0_255]
  refine lv_if_ne (tgt := 15) hx hb dX9_feed_9 (by decide) (fun c9 => ?_) (fun c9 => ?_)
  · skip
    have c9 := bi_ne0.mp c9
    refine lv_aload_n hx hb dX9_feed_15 rfl (lv_at hl 0 rfl) ?_
    refine rp_get (C := RX9) (T := TX9) (N := 38) hx hb hts in_X9_feed_X9 hown hK hP 0 (by decide) (kX9 _) rfl 14 (by decide) (by decide +kernel) rfl dX9_feed_16 ?_
    rw [et]
    refine lv_sipush (v := 240) hx hb dX9_feed_19 (by decide) ?_
    refine lv_icmp_ne (tgt := 28) hx hb dX9_feed_22 (by decide) (fun c22 => ?_) (fun c22 => ?_)
    · skip
      have ht2 := lt_of_ne ht (by omega) c22
      refine lv_aload_n hx hb dX9_feed_28 rfl (lv_at hl 0 rfl) ?_
      refine rp_get (C := RX9) (T := TX9) (N := 38) hx hb hts in_X9_feed_X9 hown hK hP 0 (by decide) (kX9 _) rfl 13 (by decide) (by decide +kernel) rfl dX9_feed_29 ?_
      refine lv_aload_n hx hb dX9_feed_32 rfl (lv_at hl 0 rfl) ?_
      refine rp_get (C := RX9) (T := TX9) (N := 38) hx hb hts in_X9_feed_X9 hown hK hP 0 (by decide) (kX9 _) rfl 14 (by decide) (by decide +kernel) rfl dX9_feed_33 ?_
      rw [et]
      refine lv_iload_n hx hb dX9_feed_36 rfl (lv_at hl 1 rfl) ?_
      refine rp_iast (x := v) hx hb hK hP hD hS 7 (by decide) (fun f => kX9_13 f) 0 rfl t rfl (by omega) (by decide) dX9_feed_37 (fun H locs hP hS => ?_)
      refine lv_aload_n hx hb dX9_feed_38 rfl (lv_at hl 0 rfl) ?_
      refine lv_dup hx hb dX9_feed_39 rfl ?_
      refine rp_get (C := RX9) (T := TX9) (N := 38) hx hb hts in_X9_feed_X9 hown hK hP 0 (by decide) (kX9 _) rfl 14 (by decide) (by decide +kernel) rfl dX9_feed_40 ?_
      rw [show (up2 σ 7 t v) 0 14 = (σ 0 14) from (up2_R (by decide))]
      rw [et]
      refine lv_iconst (v := 1) hx hb dX9_feed_43 (by decide) ?_
      refine lv_iadd hx hb dX9_feed_44 ?_
      refine rp_put (C := RX9) (T := TX9) (N := 38) (v := ((nI t) + 1)) hx hb hts in_X9_feed_X9 tyX9 tyX9_ok nmX9 hown hK hP hD hS 0 (by decide) (kX9 _) rfl 14 (by decide) (by decide +kernel) rfl rfl rfl (Nat.le_of_ble_eq_true rfl) (kX9 _) dX9_feed_45 (fun H locs hP hS => ?_)
      refine lv_aload_n hx hb dX9_feed_48 rfl (lv_at hl 0 rfl) ?_
      refine rp_get (C := RX9) (T := TX9) (N := 38) hx hb hts in_X9_feed_X9 hown hK hP 0 (by decide) (kX9 _) rfl 14 (by decide) (by decide +kernel) rfl dX9_feed_49 ?_
      rw [show (up2 (up2 σ 7 t v) 0 14 ((nI t) + 1)) 0 14 = ((nI t) + 1) from up2_S]
      exact hret hP hS dX9_feed_52 rfl ⟨(by unfold R_X9_feed <;> rw [if_pos c9, if_neg c22] <;> first | with_reducible rfl), (by unfold T_X9_feed <;> rw [if_pos c9, if_neg c22] <;> first | with_reducible rfl)⟩
    · skip
      refine lv_ldc (v := (-1000000004)) hx hb hown (hts (.constant RX9 89 (-1000000004)) (by decide +kernel)) dX9_feed_25 ?_
      exact hret hP hS dX9_feed_27 rfl ⟨(by unfold R_X9_feed <;> rw [if_pos c9, if_pos c22] <;> first | with_reducible rfl), (by unfold T_X9_feed <;> rw [if_pos c9, if_pos c22] <;> first | with_reducible rfl)⟩
  · skip
    have c9 := bi_eq0.mp c9
    refine lv_ldc (v := (-1000000002)) hx hb hown (hts (.constant RX9 85 (-1000000002)) (by decide +kernel)) dX9_feed_12 ?_
    exact hret hP hS dX9_feed_14 rfl ⟨(by unfold R_X9_feed <;> rw [if_neg c9] <;> first | with_reducible rfl), (by unfold T_X9_feed <;> rw [if_neg c9] <;> first | with_reducible rfl)⟩

def R_X9_write (σ : Nat → Nat → Int32) (n : Nat) (t : Nat) (v : Int32) (w : Int32) : Int32 := (if (0 ≤ v ∧ ¬ nI n ≤ v) then (if (nI t) = 15 then (-1000000004) else ((nI t) + 1)) else (-1000000001))
def T_X9_write (σ : Nat → Nat → Int32) (n : Nat) (t : Nat) (v : Int32) (w : Int32) : Nat → Nat → Int32 := (if (0 ≤ v ∧ ¬ nI n ≤ v) then (if (nI t) = 15 then σ else up2 (up2 (up2 σ 15 t v) 16 t w) 0 33 ((nI t) + 1)) else σ)
theorem in_X9_write_X9 : ∀ w ∈ u_ws RX9 TX9 38, w ∈ wsX9_write := by decide +kernel
set_option maxHeartbeats 1000000 in
set_option maxRecDepth 100000 in
theorem c_X9_write (l : Launch) (D : va_G) (cy : Nat → ClassId) (ad : Nat → Nat) (σ : Nat → Nat → Int32) (n : Nat) (t : Nat) (v : Int32) (w : Int32) (hn : n ≤ 10) (en : σ 0 5 = nI n) (ht : t ≤ 15) (et : σ 0 33 = nI t) (hw : w = 0 ∨ w = 1) : MI l D (tysW cy) 19 ad (cfM ad cy) yX9_write wsX9_write ({ frames := 2, cells := 0, slots := 0, locals := 46 }) σ [.ref (ad 0), .int v, .int w] (fun v_ τ_ => (R_X9_write σ n t v w) = v_ ∧ (T_X9_write σ n t v w) = τ_) := by
  refine MI.go (cc := cX9_write) (maxL := 3) .int (by decide) rfl (Nat.le_of_ble_eq_true rfl) ?_
  intro p_ e_ s_ m_ args_ bl_ mt_ c_ A_ Q_ ls hx hb hml hown hts hK hA hD hP hS hl hret
  have hl : lv_has ls 3 [(0, .ref (ad 0)), (1, .int v), (2, .int w)] := hl
  refine lv_aload_n hx hb dX9_write_0 rfl (lv_at hl 0 rfl) ?_
  refine lv_iload_n hx hb dX9_write_1 rfl (lv_at hl 1 rfl) ?_
  refine rp_callVI (na := 1) hx hb hml hown hts hK hA hD hP hS hl.1 0 (by decide) (kX9 _) rfl [.int v] (c_X9_isSaying l D cy ad σ n v (by first | assumption | omega) (by first | assumption | rfl)) gX9_write_X9_isSaying rfl (by decide +kernel) rfl ⟨Nat.le_of_ble_eq_true rfl, Nat.le_of_ble_eq_true rfl⟩ ⟨rfl, rfl⟩ ⟨Nat.zero_le _, Nat.zero_le _⟩ rfl (Nat.le_of_ble_eq_true rfl) dX9_write_2 (fun v_ τ_ H locs hq hP hS => ?_)
  obtain ⟨rfl, rfl⟩ := hq
  refine lv_if_ne (tgt := 11) hx hb dX9_write_5 (by decide) (fun c5 => ?_) (fun c5 => ?_)
  · skip
    have c5 := bi_ne0.mp c5
    obtain ⟨jv, hjv, rfl⟩ := nI_rng2 c5 (by omega)
    refine lv_aload_n hx hb dX9_write_11 rfl (lv_at hl 0 rfl) ?_
    refine rp_get (C := RX9) (T := TX9) (N := 38) hx hb hts in_X9_write_X9 hown hK hP 0 (by decide) (kX9 _) rfl 33 (by decide) (by decide +kernel) rfl dX9_write_12 ?_
    rw [et]
    refine lv_bipush (v := 15) hx hb dX9_write_15 (by decide) ?_
    refine lv_icmp_ne (tgt := 23) hx hb dX9_write_17 (by decide) (fun c17 => ?_) (fun c17 => ?_)
    · skip
      have ht2 := lt_of_ne ht (by omega) c17
      refine lv_aload_n hx hb dX9_write_23 rfl (lv_at hl 0 rfl) ?_
      refine rp_get (C := RX9) (T := TX9) (N := 38) hx hb hts in_X9_write_X9 hown hK hP 0 (by decide) (kX9 _) rfl 34 (by decide) (by decide +kernel) rfl dX9_write_24 ?_
      refine lv_aload_n hx hb dX9_write_27 rfl (lv_at hl 0 rfl) ?_
      refine rp_get (C := RX9) (T := TX9) (N := 38) hx hb hts in_X9_write_X9 hown hK hP 0 (by decide) (kX9 _) rfl 33 (by decide) (by decide +kernel) rfl dX9_write_28 ?_
      rw [et]
      refine lv_iload_n hx hb dX9_write_31 rfl (lv_at hl 1 rfl) ?_
      refine rp_iast (x := (nI jv)) hx hb hK hP hD hS 15 (by decide) (fun f => kX9_34 f) 0 rfl t rfl (by omega) (by decide) dX9_write_32 (fun H locs hP hS => ?_)
      refine lv_aload_n hx hb dX9_write_33 rfl (lv_at hl 0 rfl) ?_
      refine rp_get (C := RX9) (T := TX9) (N := 38) hx hb hts in_X9_write_X9 hown hK hP 0 (by decide) (kX9 _) rfl 35 (by decide) (by decide +kernel) rfl dX9_write_34 ?_
      refine lv_aload_n hx hb dX9_write_37 rfl (lv_at hl 0 rfl) ?_
      refine rp_get (C := RX9) (T := TX9) (N := 38) hx hb hts in_X9_write_X9 hown hK hP 0 (by decide) (kX9 _) rfl 33 (by decide) (by decide +kernel) rfl dX9_write_38 ?_
      rw [show (up2 σ 15 t (nI jv)) 0 33 = (σ 0 33) from (up2_R (by decide))]
      rw [et]
      refine lv_iload_n hx hb dX9_write_41 rfl (lv_at hl 2 rfl) ?_
      refine rp_zast (x := w) hx hb hK hP hD hS 16 (by decide) (fun f => kX9_35 f) 1 rfl t rfl (by omega) (by decide) (by rcases hw with rfl | rfl <;> rfl) dX9_write_42 (fun H locs hP hS => ?_)
      refine lv_aload_n hx hb dX9_write_43 rfl (lv_at hl 0 rfl) ?_
      refine lv_dup hx hb dX9_write_44 rfl ?_
      refine rp_get (C := RX9) (T := TX9) (N := 38) hx hb hts in_X9_write_X9 hown hK hP 0 (by decide) (kX9 _) rfl 33 (by decide) (by decide +kernel) rfl dX9_write_45 ?_
      rw [show (up2 (up2 σ 15 t (nI jv)) 16 t w) 0 33 = (σ 0 33) from ((up2_R (by decide)).trans (up2_R (by decide)))]
      rw [et]
      refine lv_iconst (v := 1) hx hb dX9_write_48 (by decide) ?_
      refine lv_iadd hx hb dX9_write_49 ?_
      refine rp_put (C := RX9) (T := TX9) (N := 38) (v := ((nI t) + 1)) hx hb hts in_X9_write_X9 tyX9 tyX9_ok nmX9 hown hK hP hD hS 0 (by decide) (kX9 _) rfl 33 (by decide) (by decide +kernel) rfl rfl rfl (Nat.le_of_ble_eq_true rfl) (kX9 _) dX9_write_50 (fun H locs hP hS => ?_)
      refine lv_aload_n hx hb dX9_write_53 rfl (lv_at hl 0 rfl) ?_
      refine rp_get (C := RX9) (T := TX9) (N := 38) hx hb hts in_X9_write_X9 hown hK hP 0 (by decide) (kX9 _) rfl 33 (by decide) (by decide +kernel) rfl dX9_write_54 ?_
      rw [show (up2 (up2 (up2 σ 15 t (nI jv)) 16 t w) 0 33 ((nI t) + 1)) 0 33 = ((nI t) + 1) from up2_S]
      exact hret hP hS dX9_write_57 rfl ⟨(by unfold R_X9_write <;> (try rw [nI_clamp (n := jv) (by omega)]) <;> rw [if_pos c5, if_neg c17] <;> first | with_reducible rfl), (by unfold T_X9_write <;> (try rw [nI_clamp (n := jv) (by omega)]) <;> rw [if_pos c5, if_neg c17] <;> first | with_reducible rfl)⟩
    · skip
      refine lv_ldc (v := (-1000000004)) hx hb hown (hts (.constant RX9 89 (-1000000004)) (by decide +kernel)) dX9_write_20 ?_
      exact hret hP hS dX9_write_22 rfl ⟨(by unfold R_X9_write <;> (try rw [nI_clamp (n := jv) (by omega)]) <;> rw [if_pos c5, if_pos c17] <;> first | with_reducible rfl), (by unfold T_X9_write <;> (try rw [nI_clamp (n := jv) (by omega)]) <;> rw [if_pos c5, if_pos c17] <;> first | with_reducible rfl)⟩
  · skip
    have c5 := bi_eq0.mp c5
    refine lv_ldc (v := (-1000000001)) hx hb hown (hts (.constant RX9 206 (-1000000001)) (by decide +kernel)) dX9_write_8 ?_
    exact hret hP hS dX9_write_10 rfl ⟨(by unfold R_X9_write <;> rw [if_neg c5] <;> first | with_reducible rfl), (by unfold T_X9_write <;> rw [if_neg c5] <;> first | with_reducible rfl)⟩
