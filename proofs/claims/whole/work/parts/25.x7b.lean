def R_J6_bitCount_0f7a4 (u : Int32) : Int32 := ((((((((u - (((u.toUInt32 >>> ((1 : Int32).toUInt32 &&& Int32.toUInt32 31)).toInt32) &&& 1431655765)) &&& 858993459) + ((((u - (((u.toUInt32 >>> ((1 : Int32).toUInt32 &&& Int32.toUInt32 31)).toInt32) &&& 1431655765)).toUInt32 >>> ((2 : Int32).toUInt32 &&& Int32.toUInt32 31)).toInt32) &&& 858993459)) + (((((u - (((u.toUInt32 >>> ((1 : Int32).toUInt32 &&& Int32.toUInt32 31)).toInt32) &&& 1431655765)) &&& 858993459) + ((((u - (((u.toUInt32 >>> ((1 : Int32).toUInt32 &&& Int32.toUInt32 31)).toInt32) &&& 1431655765)).toUInt32 >>> ((2 : Int32).toUInt32 &&& Int32.toUInt32 31)).toInt32) &&& 858993459)).toUInt32 >>> ((4 : Int32).toUInt32 &&& Int32.toUInt32 31)).toInt32)) &&& 252645135) + (((((((u - (((u.toUInt32 >>> ((1 : Int32).toUInt32 &&& Int32.toUInt32 31)).toInt32) &&& 1431655765)) &&& 858993459) + ((((u - (((u.toUInt32 >>> ((1 : Int32).toUInt32 &&& Int32.toUInt32 31)).toInt32) &&& 1431655765)).toUInt32 >>> ((2 : Int32).toUInt32 &&& Int32.toUInt32 31)).toInt32) &&& 858993459)) + (((((u - (((u.toUInt32 >>> ((1 : Int32).toUInt32 &&& Int32.toUInt32 31)).toInt32) &&& 1431655765)) &&& 858993459) + ((((u - (((u.toUInt32 >>> ((1 : Int32).toUInt32 &&& Int32.toUInt32 31)).toInt32) &&& 1431655765)).toUInt32 >>> ((2 : Int32).toUInt32 &&& Int32.toUInt32 31)).toInt32) &&& 858993459)).toUInt32 >>> ((4 : Int32).toUInt32 &&& Int32.toUInt32 31)).toInt32)) &&& 252645135).toUInt32 >>> ((8 : Int32).toUInt32 &&& Int32.toUInt32 31)).toInt32)) + ((((((((u - (((u.toUInt32 >>> ((1 : Int32).toUInt32 &&& Int32.toUInt32 31)).toInt32) &&& 1431655765)) &&& 858993459) + ((((u - (((u.toUInt32 >>> ((1 : Int32).toUInt32 &&& Int32.toUInt32 31)).toInt32) &&& 1431655765)).toUInt32 >>> ((2 : Int32).toUInt32 &&& Int32.toUInt32 31)).toInt32) &&& 858993459)) + (((((u - (((u.toUInt32 >>> ((1 : Int32).toUInt32 &&& Int32.toUInt32 31)).toInt32) &&& 1431655765)) &&& 858993459) + ((((u - (((u.toUInt32 >>> ((1 : Int32).toUInt32 &&& Int32.toUInt32 31)).toInt32) &&& 1431655765)).toUInt32 >>> ((2 : Int32).toUInt32 &&& Int32.toUInt32 31)).toInt32) &&& 858993459)).toUInt32 >>> ((4 : Int32).toUInt32 &&& Int32.toUInt32 31)).toInt32)) &&& 252645135) + (((((((u - (((u.toUInt32 >>> ((1 : Int32).toUInt32 &&& Int32.toUInt32 31)).toInt32) &&& 1431655765)) &&& 858993459) + ((((u - (((u.toUInt32 >>> ((1 : Int32).toUInt32 &&& Int32.toUInt32 31)).toInt32) &&& 1431655765)).toUInt32 >>> ((2 : Int32).toUInt32 &&& Int32.toUInt32 31)).toInt32) &&& 858993459)) + (((((u - (((u.toUInt32 >>> ((1 : Int32).toUInt32 &&& Int32.toUInt32 31)).toInt32) &&& 1431655765)) &&& 858993459) + ((((u - (((u.toUInt32 >>> ((1 : Int32).toUInt32 &&& Int32.toUInt32 31)).toInt32) &&& 1431655765)).toUInt32 >>> ((2 : Int32).toUInt32 &&& Int32.toUInt32 31)).toInt32) &&& 858993459)).toUInt32 >>> ((4 : Int32).toUInt32 &&& Int32.toUInt32 31)).toInt32)) &&& 252645135).toUInt32 >>> ((8 : Int32).toUInt32 &&& Int32.toUInt32 31)).toInt32)).toUInt32 >>> ((16 : Int32).toUInt32 &&& Int32.toUInt32 31)).toInt32)) &&& 63)
set_option maxHeartbeats 1000000 in
set_option maxRecDepth 100000 in
theorem c_J6_bitCount_0f7a4 (l : Launch) (D : va_G) (cy : Nat → ClassId) (ad : Nat → Nat) (y z : Nat) (σ : Nat → Nat → Int32) (u : Int32)  : MI l D (tysW cy) 109 ad (cfX ad cy y z) yJ6_bitCount_0f7a4 wsJ6_bitCount_0f7a4 ({ frames := 0, cells := 0, slots := 0, locals := 0 }) σ [.int u] (fun v_ τ_ => (R_J6_bitCount_0f7a4 u) = v_ ∧ σ = τ_) := by
  refine MI.go (cc := cJ6_bitCount_0f7a4) (maxL := 1) .int (by decide) rfl (Nat.le_of_ble_eq_true rfl) ?_
  intro p_ e_ s_ m_ args_ bl_ mt_ c_ A_ Q_ ls hx hb hml hown hts hK hA hD hP hS hl hret
  have hl : lv_has ls 1 [(0, .int u)] := hl
  refine lv_iload_n hx hb dJ6_bitCount_0f7a4_0 rfl (lv_at hl 0 rfl) ?_
  refine lv_iload_n hx hb dJ6_bitCount_0f7a4_1 rfl (lv_at hl 0 rfl) ?_
  refine lv_iconst (v := 1) hx hb dJ6_bitCount_0f7a4_2 (by decide) ?_
  refine lv_iushr (v := (u.toUInt32 >>> ((1 : Int32).toUInt32 &&& Int32.toUInt32 31)).toInt32) hx hb dJ6_bitCount_0f7a4_3 rfl ?_
  refine lv_ldcw (v := 1431655765) hx hb hown (hts (.constant RJ6 265 (1431655765)) (by decide +kernel)) dJ6_bitCount_0f7a4_4 ?_
  refine lv_iand hx hb dJ6_bitCount_0f7a4_7 ?_
  refine lv_isub hx hb dJ6_bitCount_0f7a4_8 ?_
  refine lv_istore_n (lv' := [(0, .int (u - (((u.toUInt32 >>> ((1 : Int32).toUInt32 &&& Int32.toUInt32 31)).toInt32) &&& 1431655765)))]) hx hb dJ6_bitCount_0f7a4_9 rfl hl (by decide) rfl (fun ls hl => ?_)
  refine lv_iload_n hx hb dJ6_bitCount_0f7a4_10 rfl (lv_at hl 0 rfl) ?_
  refine lv_ldcw (v := 858993459) hx hb hown (hts (.constant RJ6 266 (858993459)) (by decide +kernel)) dJ6_bitCount_0f7a4_11 ?_
  refine lv_iand hx hb dJ6_bitCount_0f7a4_14 ?_
  refine lv_iload_n hx hb dJ6_bitCount_0f7a4_15 rfl (lv_at hl 0 rfl) ?_
  refine lv_iconst (v := 2) hx hb dJ6_bitCount_0f7a4_16 (by decide) ?_
  refine lv_iushr (v := ((u - (((u.toUInt32 >>> ((1 : Int32).toUInt32 &&& Int32.toUInt32 31)).toInt32) &&& 1431655765)).toUInt32 >>> ((2 : Int32).toUInt32 &&& Int32.toUInt32 31)).toInt32) hx hb dJ6_bitCount_0f7a4_17 rfl ?_
  refine lv_ldcw (v := 858993459) hx hb hown (hts (.constant RJ6 266 (858993459)) (by decide +kernel)) dJ6_bitCount_0f7a4_18 ?_
  refine lv_iand hx hb dJ6_bitCount_0f7a4_21 ?_
  refine lv_iadd hx hb dJ6_bitCount_0f7a4_22 ?_
  refine lv_istore_n (lv' := [(0, .int (((u - (((u.toUInt32 >>> ((1 : Int32).toUInt32 &&& Int32.toUInt32 31)).toInt32) &&& 1431655765)) &&& 858993459) + ((((u - (((u.toUInt32 >>> ((1 : Int32).toUInt32 &&& Int32.toUInt32 31)).toInt32) &&& 1431655765)).toUInt32 >>> ((2 : Int32).toUInt32 &&& Int32.toUInt32 31)).toInt32) &&& 858993459)))]) hx hb dJ6_bitCount_0f7a4_23 rfl hl (by decide) rfl (fun ls hl => ?_)
  refine lv_iload_n hx hb dJ6_bitCount_0f7a4_24 rfl (lv_at hl 0 rfl) ?_
  refine lv_iload_n hx hb dJ6_bitCount_0f7a4_25 rfl (lv_at hl 0 rfl) ?_
  refine lv_iconst (v := 4) hx hb dJ6_bitCount_0f7a4_26 (by decide) ?_
  refine lv_iushr (v := ((((u - (((u.toUInt32 >>> ((1 : Int32).toUInt32 &&& Int32.toUInt32 31)).toInt32) &&& 1431655765)) &&& 858993459) + ((((u - (((u.toUInt32 >>> ((1 : Int32).toUInt32 &&& Int32.toUInt32 31)).toInt32) &&& 1431655765)).toUInt32 >>> ((2 : Int32).toUInt32 &&& Int32.toUInt32 31)).toInt32) &&& 858993459)).toUInt32 >>> ((4 : Int32).toUInt32 &&& Int32.toUInt32 31)).toInt32) hx hb dJ6_bitCount_0f7a4_27 rfl ?_
  refine lv_iadd hx hb dJ6_bitCount_0f7a4_28 ?_
  refine lv_ldcw (v := 252645135) hx hb hown (hts (.constant RJ6 267 (252645135)) (by decide +kernel)) dJ6_bitCount_0f7a4_29 ?_
  refine lv_iand hx hb dJ6_bitCount_0f7a4_32 ?_
  refine lv_istore_n (lv' := [(0, .int (((((u - (((u.toUInt32 >>> ((1 : Int32).toUInt32 &&& Int32.toUInt32 31)).toInt32) &&& 1431655765)) &&& 858993459) + ((((u - (((u.toUInt32 >>> ((1 : Int32).toUInt32 &&& Int32.toUInt32 31)).toInt32) &&& 1431655765)).toUInt32 >>> ((2 : Int32).toUInt32 &&& Int32.toUInt32 31)).toInt32) &&& 858993459)) + (((((u - (((u.toUInt32 >>> ((1 : Int32).toUInt32 &&& Int32.toUInt32 31)).toInt32) &&& 1431655765)) &&& 858993459) + ((((u - (((u.toUInt32 >>> ((1 : Int32).toUInt32 &&& Int32.toUInt32 31)).toInt32) &&& 1431655765)).toUInt32 >>> ((2 : Int32).toUInt32 &&& Int32.toUInt32 31)).toInt32) &&& 858993459)).toUInt32 >>> ((4 : Int32).toUInt32 &&& Int32.toUInt32 31)).toInt32)) &&& 252645135))]) hx hb dJ6_bitCount_0f7a4_33 rfl hl (by decide) rfl (fun ls hl => ?_)
  refine lv_iload_n hx hb dJ6_bitCount_0f7a4_34 rfl (lv_at hl 0 rfl) ?_
  refine lv_iload_n hx hb dJ6_bitCount_0f7a4_35 rfl (lv_at hl 0 rfl) ?_
  refine lv_bipush (v := 8) hx hb dJ6_bitCount_0f7a4_36 (by decide) ?_
  refine lv_iushr (v := ((((((u - (((u.toUInt32 >>> ((1 : Int32).toUInt32 &&& Int32.toUInt32 31)).toInt32) &&& 1431655765)) &&& 858993459) + ((((u - (((u.toUInt32 >>> ((1 : Int32).toUInt32 &&& Int32.toUInt32 31)).toInt32) &&& 1431655765)).toUInt32 >>> ((2 : Int32).toUInt32 &&& Int32.toUInt32 31)).toInt32) &&& 858993459)) + (((((u - (((u.toUInt32 >>> ((1 : Int32).toUInt32 &&& Int32.toUInt32 31)).toInt32) &&& 1431655765)) &&& 858993459) + ((((u - (((u.toUInt32 >>> ((1 : Int32).toUInt32 &&& Int32.toUInt32 31)).toInt32) &&& 1431655765)).toUInt32 >>> ((2 : Int32).toUInt32 &&& Int32.toUInt32 31)).toInt32) &&& 858993459)).toUInt32 >>> ((4 : Int32).toUInt32 &&& Int32.toUInt32 31)).toInt32)) &&& 252645135).toUInt32 >>> ((8 : Int32).toUInt32 &&& Int32.toUInt32 31)).toInt32) hx hb dJ6_bitCount_0f7a4_38 rfl ?_
  refine lv_iadd hx hb dJ6_bitCount_0f7a4_39 ?_
  refine lv_istore_n (lv' := [(0, .int ((((((u - (((u.toUInt32 >>> ((1 : Int32).toUInt32 &&& Int32.toUInt32 31)).toInt32) &&& 1431655765)) &&& 858993459) + ((((u - (((u.toUInt32 >>> ((1 : Int32).toUInt32 &&& Int32.toUInt32 31)).toInt32) &&& 1431655765)).toUInt32 >>> ((2 : Int32).toUInt32 &&& Int32.toUInt32 31)).toInt32) &&& 858993459)) + (((((u - (((u.toUInt32 >>> ((1 : Int32).toUInt32 &&& Int32.toUInt32 31)).toInt32) &&& 1431655765)) &&& 858993459) + ((((u - (((u.toUInt32 >>> ((1 : Int32).toUInt32 &&& Int32.toUInt32 31)).toInt32) &&& 1431655765)).toUInt32 >>> ((2 : Int32).toUInt32 &&& Int32.toUInt32 31)).toInt32) &&& 858993459)).toUInt32 >>> ((4 : Int32).toUInt32 &&& Int32.toUInt32 31)).toInt32)) &&& 252645135) + (((((((u - (((u.toUInt32 >>> ((1 : Int32).toUInt32 &&& Int32.toUInt32 31)).toInt32) &&& 1431655765)) &&& 858993459) + ((((u - (((u.toUInt32 >>> ((1 : Int32).toUInt32 &&& Int32.toUInt32 31)).toInt32) &&& 1431655765)).toUInt32 >>> ((2 : Int32).toUInt32 &&& Int32.toUInt32 31)).toInt32) &&& 858993459)) + (((((u - (((u.toUInt32 >>> ((1 : Int32).toUInt32 &&& Int32.toUInt32 31)).toInt32) &&& 1431655765)) &&& 858993459) + ((((u - (((u.toUInt32 >>> ((1 : Int32).toUInt32 &&& Int32.toUInt32 31)).toInt32) &&& 1431655765)).toUInt32 >>> ((2 : Int32).toUInt32 &&& Int32.toUInt32 31)).toInt32) &&& 858993459)).toUInt32 >>> ((4 : Int32).toUInt32 &&& Int32.toUInt32 31)).toInt32)) &&& 252645135).toUInt32 >>> ((8 : Int32).toUInt32 &&& Int32.toUInt32 31)).toInt32)))]) hx hb dJ6_bitCount_0f7a4_40 rfl hl (by decide) rfl (fun ls hl => ?_)
  refine lv_iload_n hx hb dJ6_bitCount_0f7a4_41 rfl (lv_at hl 0 rfl) ?_
  refine lv_iload_n hx hb dJ6_bitCount_0f7a4_42 rfl (lv_at hl 0 rfl) ?_
  refine lv_bipush (v := 16) hx hb dJ6_bitCount_0f7a4_43 (by decide) ?_
  refine lv_iushr (v := (((((((u - (((u.toUInt32 >>> ((1 : Int32).toUInt32 &&& Int32.toUInt32 31)).toInt32) &&& 1431655765)) &&& 858993459) + ((((u - (((u.toUInt32 >>> ((1 : Int32).toUInt32 &&& Int32.toUInt32 31)).toInt32) &&& 1431655765)).toUInt32 >>> ((2 : Int32).toUInt32 &&& Int32.toUInt32 31)).toInt32) &&& 858993459)) + (((((u - (((u.toUInt32 >>> ((1 : Int32).toUInt32 &&& Int32.toUInt32 31)).toInt32) &&& 1431655765)) &&& 858993459) + ((((u - (((u.toUInt32 >>> ((1 : Int32).toUInt32 &&& Int32.toUInt32 31)).toInt32) &&& 1431655765)).toUInt32 >>> ((2 : Int32).toUInt32 &&& Int32.toUInt32 31)).toInt32) &&& 858993459)).toUInt32 >>> ((4 : Int32).toUInt32 &&& Int32.toUInt32 31)).toInt32)) &&& 252645135) + (((((((u - (((u.toUInt32 >>> ((1 : Int32).toUInt32 &&& Int32.toUInt32 31)).toInt32) &&& 1431655765)) &&& 858993459) + ((((u - (((u.toUInt32 >>> ((1 : Int32).toUInt32 &&& Int32.toUInt32 31)).toInt32) &&& 1431655765)).toUInt32 >>> ((2 : Int32).toUInt32 &&& Int32.toUInt32 31)).toInt32) &&& 858993459)) + (((((u - (((u.toUInt32 >>> ((1 : Int32).toUInt32 &&& Int32.toUInt32 31)).toInt32) &&& 1431655765)) &&& 858993459) + ((((u - (((u.toUInt32 >>> ((1 : Int32).toUInt32 &&& Int32.toUInt32 31)).toInt32) &&& 1431655765)).toUInt32 >>> ((2 : Int32).toUInt32 &&& Int32.toUInt32 31)).toInt32) &&& 858993459)).toUInt32 >>> ((4 : Int32).toUInt32 &&& Int32.toUInt32 31)).toInt32)) &&& 252645135).toUInt32 >>> ((8 : Int32).toUInt32 &&& Int32.toUInt32 31)).toInt32)).toUInt32 >>> ((16 : Int32).toUInt32 &&& Int32.toUInt32 31)).toInt32) hx hb dJ6_bitCount_0f7a4_45 rfl ?_
  refine lv_iadd hx hb dJ6_bitCount_0f7a4_46 ?_
  refine lv_istore_n (lv' := [(0, .int (((((((u - (((u.toUInt32 >>> ((1 : Int32).toUInt32 &&& Int32.toUInt32 31)).toInt32) &&& 1431655765)) &&& 858993459) + ((((u - (((u.toUInt32 >>> ((1 : Int32).toUInt32 &&& Int32.toUInt32 31)).toInt32) &&& 1431655765)).toUInt32 >>> ((2 : Int32).toUInt32 &&& Int32.toUInt32 31)).toInt32) &&& 858993459)) + (((((u - (((u.toUInt32 >>> ((1 : Int32).toUInt32 &&& Int32.toUInt32 31)).toInt32) &&& 1431655765)) &&& 858993459) + ((((u - (((u.toUInt32 >>> ((1 : Int32).toUInt32 &&& Int32.toUInt32 31)).toInt32) &&& 1431655765)).toUInt32 >>> ((2 : Int32).toUInt32 &&& Int32.toUInt32 31)).toInt32) &&& 858993459)).toUInt32 >>> ((4 : Int32).toUInt32 &&& Int32.toUInt32 31)).toInt32)) &&& 252645135) + (((((((u - (((u.toUInt32 >>> ((1 : Int32).toUInt32 &&& Int32.toUInt32 31)).toInt32) &&& 1431655765)) &&& 858993459) + ((((u - (((u.toUInt32 >>> ((1 : Int32).toUInt32 &&& Int32.toUInt32 31)).toInt32) &&& 1431655765)).toUInt32 >>> ((2 : Int32).toUInt32 &&& Int32.toUInt32 31)).toInt32) &&& 858993459)) + (((((u - (((u.toUInt32 >>> ((1 : Int32).toUInt32 &&& Int32.toUInt32 31)).toInt32) &&& 1431655765)) &&& 858993459) + ((((u - (((u.toUInt32 >>> ((1 : Int32).toUInt32 &&& Int32.toUInt32 31)).toInt32) &&& 1431655765)).toUInt32 >>> ((2 : Int32).toUInt32 &&& Int32.toUInt32 31)).toInt32) &&& 858993459)).toUInt32 >>> ((4 : Int32).toUInt32 &&& Int32.toUInt32 31)).toInt32)) &&& 252645135).toUInt32 >>> ((8 : Int32).toUInt32 &&& Int32.toUInt32 31)).toInt32)) + ((((((((u - (((u.toUInt32 >>> ((1 : Int32).toUInt32 &&& Int32.toUInt32 31)).toInt32) &&& 1431655765)) &&& 858993459) + ((((u - (((u.toUInt32 >>> ((1 : Int32).toUInt32 &&& Int32.toUInt32 31)).toInt32) &&& 1431655765)).toUInt32 >>> ((2 : Int32).toUInt32 &&& Int32.toUInt32 31)).toInt32) &&& 858993459)) + (((((u - (((u.toUInt32 >>> ((1 : Int32).toUInt32 &&& Int32.toUInt32 31)).toInt32) &&& 1431655765)) &&& 858993459) + ((((u - (((u.toUInt32 >>> ((1 : Int32).toUInt32 &&& Int32.toUInt32 31)).toInt32) &&& 1431655765)).toUInt32 >>> ((2 : Int32).toUInt32 &&& Int32.toUInt32 31)).toInt32) &&& 858993459)).toUInt32 >>> ((4 : Int32).toUInt32 &&& Int32.toUInt32 31)).toInt32)) &&& 252645135) + (((((((u - (((u.toUInt32 >>> ((1 : Int32).toUInt32 &&& Int32.toUInt32 31)).toInt32) &&& 1431655765)) &&& 858993459) + ((((u - (((u.toUInt32 >>> ((1 : Int32).toUInt32 &&& Int32.toUInt32 31)).toInt32) &&& 1431655765)).toUInt32 >>> ((2 : Int32).toUInt32 &&& Int32.toUInt32 31)).toInt32) &&& 858993459)) + (((((u - (((u.toUInt32 >>> ((1 : Int32).toUInt32 &&& Int32.toUInt32 31)).toInt32) &&& 1431655765)) &&& 858993459) + ((((u - (((u.toUInt32 >>> ((1 : Int32).toUInt32 &&& Int32.toUInt32 31)).toInt32) &&& 1431655765)).toUInt32 >>> ((2 : Int32).toUInt32 &&& Int32.toUInt32 31)).toInt32) &&& 858993459)).toUInt32 >>> ((4 : Int32).toUInt32 &&& Int32.toUInt32 31)).toInt32)) &&& 252645135).toUInt32 >>> ((8 : Int32).toUInt32 &&& Int32.toUInt32 31)).toInt32)).toUInt32 >>> ((16 : Int32).toUInt32 &&& Int32.toUInt32 31)).toInt32)))]) hx hb dJ6_bitCount_0f7a4_47 rfl hl (by decide) rfl (fun ls hl => ?_)
  refine lv_iload_n hx hb dJ6_bitCount_0f7a4_48 rfl (lv_at hl 0 rfl) ?_
  refine lv_bipush (v := 63) hx hb dJ6_bitCount_0f7a4_49 (by decide) ?_
  refine lv_iand hx hb dJ6_bitCount_0f7a4_51 ?_
  exact hret hP hS dJ6_bitCount_0f7a4_52 rfl ⟨(by unfold R_J6_bitCount_0f7a4 <;> first | with_reducible rfl), rfl⟩

set_option maxRecDepth 100000 in
theorem bc_all : ∀ j, j < 1024 → R_J6_bitCount_0f7a4 (nI j) = bitsN (nI j) 10 := by decide +kernel
theorem bc_fall (fr : Nat → Int32) (u s : Int32) {n : Nat} (hn : n ≤ 10) : R_J6_bitCount_0f7a4 (fallN fr u s n) = bitsN (fallN fr u s n) 10 := by
  obtain ⟨j, hj, e⟩ := fallN_rng fr u s hn
  rw [e]; exact bc_all j hj

theorem in_X7_heaviest_X7 : ∀ w ∈ u_ws RX7 TX7 12, w ∈ wsX7_heaviest := by decide +kernel
set_option maxHeartbeats 1000000 in
set_option maxRecDepth 100000 in
theorem c_X7_heaviest (l : Launch) (D : va_G) (cy : Nat → ClassId) (ad : Nat → Nat) (y z : Nat) (σ : Nat → Nat → Int32) (fr : Nat → Int32) (b : Nat) (n : Nat) (u : Int32) (r_fr : σ (b + 5) = fr) (Hb : b = 3 ∨ b = 10) (hn : n ≤ 10) (en : σ b 5 = nI n) : MI l D (tysW cy) 109 ad (cfX ad cy y z) yX7_heaviest wsX7_heaviest ({ frames := 3, cells := 0, slots := 0, locals := 66 }) σ [.ref (ad b), .int u] (fun v_ τ_ => ((heavN fr u n n).1) = v_ ∧ σ = τ_) := by
  refine MI.go (cc := cX7_heaviest) (maxL := 6) .int (by decide) rfl (Nat.le_of_ble_eq_true rfl) ?_
  intro p_ e_ s_ m_ args_ bl_ mt_ c_ A_ Q_ ls hx hb hml hown hts hK hA hD hP hS hl hret
  have hl : lv_has ls 6 [(0, .ref (ad b)), (1, .int u)] := hl
  subst r_fr
  refine lv_iconst (v := (-1)) hx hb dX7_heaviest_0 (by decide) ?_
  refine lv_istore_n (lv' := [(2, .int (-1)), (0, .ref (ad b)), (1, .int u)]) hx hb dX7_heaviest_1 rfl hl (by decide) rfl (fun ls hl => ?_)
  refine lv_iconst (v := 0) hx hb dX7_heaviest_2 (by decide) ?_
  refine lv_istore_n (lv' := [(3, .int 0), (2, .int (-1)), (0, .ref (ad b)), (1, .int u)]) hx hb dX7_heaviest_3 rfl hl (by decide) rfl (fun ls hl => ?_)
  refine lv_iconst (v := 0) hx hb dX7_heaviest_4 (by decide) ?_
  refine lv_istore (lv' := [(4, .int 0), (3, .int 0), (2, .int (-1)), (0, .ref (ad b)), (1, .int u)]) hx hb dX7_heaviest_5 hl (by decide) rfl (fun ls hl => ?_)
  have L7 : ∀ (fu7 : Nat) (c : Nat), (c ≤ n) → n - c < fu7 → ∀ (x4 : Int32) (x3 : Int32) (x2 : Int32) (τ : Nat → Nat → Int32) (H : Heap) (locs : List Loc) (ls : Array Slot), (nI c) = x4 → ((heavN (σ (b + 5)) u n c).2) = x3 → ((heavN (σ (b + 5)) u n c).1) = x2 → σ = τ → va_P D classes (rw_ 109 ad (cfX ad cy y z) τ) H → va_S A_ s_.heap H locs → lv_has ls 6 [(4, .int x4), (3, .int x3), (2, .int x2), (0, .ref (ad b)), (1, .int u)] → W p_ l e_ ({ frames := 3, cells := 0, slots := 0, locals := 66 }) s_ m_ args_ bl_ mt_ c_ H locs 0 0 Q_ (F0 m_ 7 ls []) := by
    intro fu7
    induction fu7 with
    | zero => intro c hc hf; exact absurd hf (Nat.not_lt_zero _)
    | succ fu7 ih7 =>
      intro c hc hf7 x4 x3 x2 τ H locs ls ex4 ex3 ex2 eτ hP hS hl
      subst ex4
      subst ex3
      subst ex2
      subst eτ
      refine lv_iload hx hb dX7_heaviest_7 (lv_at hl 0 rfl) ?_
      refine lv_aload_n hx hb dX7_heaviest_9 rfl (lv_at hl 3 rfl) ?_
      refine rp_get (C := RX7) (T := TX7) (N := 12) hx hb hts in_X7_heaviest_X7 hown hK hP b (hX7 Hb).1 (kX7 Hb _) rfl 5 (by decide) (by decide +kernel) rfl dX7_heaviest_10 ?_
      rw [en]
      refine lv_icmp_ge (tgt := 46) hx hb dX7_heaviest_13 (by decide) (fun c13 => ?_) (fun c13 => ?_)
      · skip
        have ec := cl_ex hc (by omega) c13
        refine lv_iload_n hx hb dX7_heaviest_46 rfl (lv_at hl 2 rfl) ?_
        exact hret hP hS dX7_heaviest_47 rfl ⟨(by rw [ec]), rfl⟩
      · skip
        have hc2 := cl_in (by omega) (by omega) c13
        refine lv_aload_n hx hb dX7_heaviest_16 rfl (lv_at hl 3 rfl) ?_
        refine lv_iload hx hb dX7_heaviest_17 (lv_at hl 0 rfl) ?_
        refine lv_iload_n hx hb dX7_heaviest_19 rfl (lv_at hl 4 rfl) ?_
        refine rp_callVI (na := 2) hx hb hml hown hts hK hA hD hP hS hl.1 b (hX7 Hb).1 (kX7 Hb _) rfl [.int (nI c), .int u] (c_X7_fallsOf l D cy ad y z σ (σ (b + 5)) b n (nI c) u rfl Hb (by first | assumption | omega) (by first | assumption | rfl)) gX7_heaviest_X7_fallsOf rfl (by decide +kernel) rfl ⟨Nat.le_of_ble_eq_true rfl, Nat.le_of_ble_eq_true rfl⟩ ⟨rfl, rfl⟩ ⟨Nat.zero_le _, Nat.zero_le _⟩ rfl (Nat.le_of_ble_eq_true rfl) dX7_heaviest_20 (fun v_ τ_ H locs hq hP hS => ?_)
        obtain ⟨rfl, rfl⟩ := hq
        refine rp_callSI (na := 1) hx hb hml hown hts hK hA hD hP hS hl.1 [.int (fallN (σ (b + 5)) u (nI c) n)] (c_J6_bitCount_0f7a4 l D cy ad y z σ (fallN (σ (b + 5)) u (nI c) n) ) gX7_heaviest_J6_bitCount_0f7a4 rfl (by decide +kernel) rfl ⟨Nat.le_of_ble_eq_true rfl, Nat.le_of_ble_eq_true rfl⟩ ⟨rfl, rfl⟩ ⟨Nat.zero_le _, Nat.zero_le _⟩ rfl (Nat.le_of_ble_eq_true rfl) dX7_heaviest_23 (fun v_ τ_ H locs hq hP hS => ?_)
        obtain ⟨rfl, rfl⟩ := hq
        rw [bc_fall _ _ _ hn]
        refine lv_istore (lv' := [(5, .int (bitsN (fallN (σ (b + 5)) u (nI c) n) 10)), (4, .int (nI c)), (3, .int ((heavN (σ (b + 5)) u n c).2)), (2, .int ((heavN (σ (b + 5)) u n c).1)), (0, .ref (ad b)), (1, .int u)]) hx hb dX7_heaviest_26 hl (by decide) rfl (fun ls hl => ?_)
        refine lv_iload hx hb dX7_heaviest_28 (lv_at hl 0 rfl) ?_
        refine lv_iload_n hx hb dX7_heaviest_30 rfl (lv_at hl 2 rfl) ?_
        refine lv_icmp_le (tgt := 40) hx hb dX7_heaviest_31 (by decide) (fun c31 => ?_) (fun c31 => ?_)
        · skip
          refine lv_iinc (v := ((nI c) + 1)) (lv' := [(4, .int ((nI c) + 1)), (5, .int (bitsN (fallN (σ (b + 5)) u (nI c) n) 10)), (3, .int ((heavN (σ (b + 5)) u n c).2)), (2, .int ((heavN (σ (b + 5)) u n c).1)), (0, .ref (ad b)), (1, .int u)]) hx hb dX7_heaviest_40 hl (k := 1) rfl rfl (by decide) rfl (fun ls hl => ?_)
          refine lv_goto (tgt := 7) hx hb dX7_heaviest_43 (by decide) ?_
          exact ih7 (c + 1) (by omega) (by omega) _ _ _ _ _ _ _ ((nI_1 c).symm) (by first | exact heavN_f2 c31 | exact heavN_t2 c31) (by first | exact heavN_f1 c31 | exact heavN_t1 c31) rfl hP hS (lv_sub hl [0, 2, 3, 4, 5] rfl)
        · skip
          refine lv_iload hx hb dX7_heaviest_34 (lv_at hl 0 rfl) ?_
          refine lv_istore_n (lv' := [(3, .int (bitsN (fallN (σ (b + 5)) u (nI c) n) 10)), (5, .int (bitsN (fallN (σ (b + 5)) u (nI c) n) 10)), (4, .int (nI c)), (2, .int ((heavN (σ (b + 5)) u n c).1)), (0, .ref (ad b)), (1, .int u)]) hx hb dX7_heaviest_36 rfl hl (by decide) rfl (fun ls hl => ?_)
          refine lv_iload hx hb dX7_heaviest_37 (lv_at hl 2 rfl) ?_
          refine lv_istore_n (lv' := [(2, .int (nI c)), (3, .int (bitsN (fallN (σ (b + 5)) u (nI c) n) 10)), (5, .int (bitsN (fallN (σ (b + 5)) u (nI c) n) 10)), (4, .int (nI c)), (0, .ref (ad b)), (1, .int u)]) hx hb dX7_heaviest_39 rfl hl (by decide) rfl (fun ls hl => ?_)
          refine lv_iinc (v := ((nI c) + 1)) (lv' := [(4, .int ((nI c) + 1)), (2, .int (nI c)), (3, .int (bitsN (fallN (σ (b + 5)) u (nI c) n) 10)), (5, .int (bitsN (fallN (σ (b + 5)) u (nI c) n) 10)), (0, .ref (ad b)), (1, .int u)]) hx hb dX7_heaviest_40 hl (k := 3) rfl rfl (by decide) rfl (fun ls hl => ?_)
          refine lv_goto (tgt := 7) hx hb dX7_heaviest_43 (by decide) ?_
          exact ih7 (c + 1) (by omega) (by omega) _ _ _ _ _ _ _ ((nI_1 c).symm) (by first | exact heavN_f2 c31 | exact heavN_t2 c31) (by first | exact heavN_f1 c31 | exact heavN_t1 c31) rfl hP hS (lv_sub hl [0, 2, 1, 4, 5] rfl)
  exact L7 ((n - 0) + 1) 0 (Nat.zero_le _) (Nat.lt_succ_self _) _ _ _ _ _ _ _ (by first | rfl | simp [*]) (by first | rfl | simp [*]) (by first | rfl | simp [*]) rfl hP hS (lv_sub hl [0, 1, 2, 3, 4] rfl)

theorem in_X7_depthOf_X7 : ∀ w ∈ u_ws RX7 TX7 12, w ∈ wsX7_depthOf := by decide +kernel
set_option maxHeartbeats 1000000 in
set_option maxRecDepth 100000 in
theorem c_X7_depthOf (l : Launch) (D : va_G) (cy : Nat → ClassId) (ad : Nat → Nat) (y z : Nat) (σ : Nat → Nat → Int32) (fr : Nat → Int32) (DP : Nat → Int32) (b : Nat) (n : Nat) (s : Nat) (r_fr : σ (b + 5) = fr) (r_DP : σ (b + 6) = DP) (Hb : b = 3 ∨ b = 10) (hn : n ≤ 10) (en : σ b 5 = nI n) (hs : s < n) : MI l D (tysW cy) 109 ad (cfX ad cy y z) yX7_depthOf wsX7_depthOf ({ frames := 1, cells := 0, slots := 0, locals := 21 }) σ [.ref (ad b), .int (nI s)] (fun v_ τ_ => (dLast fr DP (s + 1)) = v_ ∧ (va_up σ (b + 6) (dRowX fr DP (s + 1))) = τ_) := by
  refine MI.go (cc := cX7_depthOf) (maxL := 5) .int (by decide) rfl (Nat.le_of_ble_eq_true rfl) ?_
  intro p_ e_ s_ m_ args_ bl_ mt_ c_ A_ Q_ ls hx hb hml hown hts hK hA hD hP hS hl hret
  have hl : lv_has ls 5 [(0, .ref (ad b)), (1, .int (nI s))] := hl
  subst r_fr r_DP
  have hP : va_P D classes (rw_ 109 ad (cfX ad cy y z) (va_up σ (b + 6) (σ (b + 6)))) s_.heap := by rw [va_selfR _ (b + 6) (rfl)]; exact hP
  refine lv_iconst (v := 0) hx hb dX7_depthOf_0 (by decide) ?_
  refine lv_istore_n (lv' := [(2, .int 0), (0, .ref (ad b)), (1, .int (nI s))]) hx hb dX7_depthOf_1 rfl hl (by decide) rfl (fun ls hl => ?_)
  refine lv_iconst (v := 0) hx hb dX7_depthOf_2 (by decide) ?_
  refine lv_istore_n (lv' := [(3, .int 0), (2, .int 0), (0, .ref (ad b)), (1, .int (nI s))]) hx hb dX7_depthOf_3 rfl hl (by decide) rfl (fun ls hl => ?_)
  have L4 : ∀ (fu4 : Nat) (c : Nat), (c ≤ s + 1) → s + 1 - c < fu4 → ∀ (x3 : Int32) (x2 : Int32) (τ : Nat → Nat → Int32) (H : Heap) (locs : List Loc) (ls : Array Slot), (nI c) = x3 → (dLast (σ (b + 5)) (σ (b + 6)) c) = x2 → (va_up σ (b + 6) (dRowX (σ (b + 5)) (σ (b + 6)) c)) = τ → va_P D classes (rw_ 109 ad (cfX ad cy y z) τ) H → va_S A_ s_.heap H locs → lv_has ls 5 [(3, .int x3), (2, .int x2), (0, .ref (ad b)), (1, .int (nI s))] → W p_ l e_ ({ frames := 1, cells := 0, slots := 0, locals := 21 }) s_ m_ args_ bl_ mt_ c_ H locs 0 0 Q_ (F0 m_ 4 ls []) := by
    intro fu4
    induction fu4 with
    | zero => intro c hc hf; exact absurd hf (Nat.not_lt_zero _)
    | succ fu4 ih4 =>
      intro c hc hf4 x3 x2 τ H locs ls ex3 ex2 eτ hP hS hl
      subst ex3
      subst ex2
      subst eτ
      refine lv_iload_n hx hb dX7_depthOf_4 rfl (lv_at hl 0 rfl) ?_
      refine lv_aload_n hx hb dX7_depthOf_5 rfl (lv_at hl 2 rfl) ?_
      refine rp_get (C := RX7) (T := TX7) (N := 12) hx hb hts in_X7_depthOf_X7 hown hK hP b (hX7 Hb).1 (kX7 Hb _) rfl 5 (by decide) (by decide +kernel) rfl dX7_depthOf_6 ?_
      rw [show (va_up σ (b + 6) (dRowX (σ (b + 5)) (σ (b + 6)) c)) b 5 = (σ b 5) from (va_R (by omega))]
      rw [en]
      refine lv_icmp_ge (tgt := 75) hx hb dX7_depthOf_9 (by decide) (fun c9 => ?_) (fun c9 => ?_)
      · skip
        have ec1 := cl_ex (i := c) (n := n) (by omega) (by omega) c9
        have ec : c = s + 1 := by omega
        refine lv_iload_n hx hb dX7_depthOf_75 rfl (lv_at hl 1 rfl) ?_
        exact hret hP hS dX7_depthOf_76 rfl ⟨(by rw [ec]), (by rw [ec])⟩
      · skip
        have hc1 := cl_in (by omega) (by omega) c9
        refine lv_iload_n hx hb dX7_depthOf_12 rfl (lv_at hl 0 rfl) ?_
        refine lv_iload_n hx hb dX7_depthOf_13 rfl (lv_at hl 3 rfl) ?_
        refine lv_icmp_gt (tgt := 75) hx hb dX7_depthOf_14 (by decide) (fun c14 => ?_) (fun c14 => ?_)
        · skip
          have ec := cl_gt (i := c) (n := s) hc (by omega) c14
          refine lv_iload_n hx hb dX7_depthOf_75 rfl (lv_at hl 1 rfl) ?_
          exact hret hP hS dX7_depthOf_76 rfl ⟨(by rw [ec]), (by rw [ec])⟩
        · skip
          have hc2 := cl_ngt (i := c) (n := s) (by omega) (by omega) c14
          refine lv_iconst (v := 0) hx hb dX7_depthOf_17 (by decide) ?_
          refine lv_istore_n (lv' := [(2, .int 0), (3, .int (nI c)), (0, .ref (ad b)), (1, .int (nI s))]) hx hb dX7_depthOf_18 rfl hl (by decide) rfl (fun ls hl => ?_)
          refine lv_iconst (v := 0) hx hb dX7_depthOf_19 (by decide) ?_
          refine lv_istore (lv' := [(4, .int 0), (2, .int 0), (3, .int (nI c)), (0, .ref (ad b)), (1, .int (nI s))]) hx hb dX7_depthOf_20 hl (by decide) rfl (fun ls hl => ?_)
          have L22 : ∀ (fu22 : Nat) (a : Nat), (a ≤ c) → c - a < fu22 → ∀ (x4 : Int32) (x2 : Int32) (τ : Nat → Nat → Int32) (H : Heap) (locs : List Loc) (ls : Array Slot), (nI a) = x4 → (dInX (σ (b + 5) c) (dRowX (σ (b + 5)) (σ (b + 6)) c) a) = x2 → (va_up σ (b + 6) (dRowX (σ (b + 5)) (σ (b + 6)) c)) = τ → va_P D classes (rw_ 109 ad (cfX ad cy y z) τ) H → va_S A_ s_.heap H locs → lv_has ls 5 [(4, .int x4), (2, .int x2), (3, .int (nI c)), (0, .ref (ad b)), (1, .int (nI s))] → W p_ l e_ ({ frames := 1, cells := 0, slots := 0, locals := 21 }) s_ m_ args_ bl_ mt_ c_ H locs 0 0 Q_ (F0 m_ 22 ls []) := by
            intro fu22
            induction fu22 with
            | zero => intro a ha hf; exact absurd hf (Nat.not_lt_zero _)
            | succ fu22 ih22 =>
              intro a ha hf22 x4 x2 τ H locs ls ex4 ex2 eτ hP hS hl
              subst ex4
              subst ex2
              subst eτ
              refine lv_iload hx hb dX7_depthOf_22 (lv_at hl 0 rfl) ?_
              refine lv_iload_n hx hb dX7_depthOf_24 rfl (lv_at hl 2 rfl) ?_
              refine lv_icmp_ge (tgt := 62) hx hb dX7_depthOf_25 (by decide) (fun c25 => ?_) (fun c25 => ?_)
              · skip
                have ea := cl_ex ha (by omega) c25
                refine lv_aload_n hx hb dX7_depthOf_62 rfl (lv_at hl 3 rfl) ?_
                refine rp_get (C := RX7) (T := TX7) (N := 12) hx hb hts in_X7_depthOf_X7 hown hK hP b (hX7 Hb).1 (kX7 Hb _) rfl 11 (by decide) (by decide +kernel) rfl dX7_depthOf_63 ?_
                refine lv_iload_n hx hb dX7_depthOf_66 rfl (lv_at hl 2 rfl) ?_
                refine lv_iload_n hx hb dX7_depthOf_67 rfl (lv_at hl 1 rfl) ?_
                refine rp_iast (x := (dInX (σ (b + 5) c) (dRowX (σ (b + 5)) (σ (b + 6)) c) a)) hx hb hK hP hD hS (b + 6) (hX7 Hb).2.2.2.2.2.2 (fun f => (kX7_11 Hb) f) 0 rfl c rfl (by omega) (by decide) dX7_depthOf_68 (fun H locs hP hS => ?_)
                rw [show up2 (va_up σ (b + 6) (dRowX (σ (b + 5)) (σ (b + 6)) c)) (b + 6) c (dInX (σ (b + 5) c) (dRowX (σ (b + 5)) (σ (b + 6)) c) a) = va_up σ (b + 6) (upd (dRowX (σ (b + 5)) (σ (b + 6)) c) c (dInX (σ (b + 5) c) (dRowX (σ (b + 5)) (σ (b + 6)) c) a)) from (vu_up _ _ _ _ _)] at hP
                refine lv_iinc (v := ((nI c) + 1)) (lv' := [(3, .int ((nI c) + 1)), (4, .int (nI a)), (2, .int (dInX (σ (b + 5) c) (dRowX (σ (b + 5)) (σ (b + 6)) c) a)), (0, .ref (ad b)), (1, .int (nI s))]) hx hb dX7_depthOf_69 hl (k := 2) rfl rfl (by decide) rfl (fun ls hl => ?_)
                refine lv_goto (tgt := 4) hx hb dX7_depthOf_72 (by decide) ?_
                exact ih4 (c + 1) (by omega) (by omega) _ _ _ _ _ _ ((nI_1 c).symm) (by rw [ea]; rfl) (by rw [ea]; rfl) hP hS (lv_sub hl [0, 2, 3, 4] rfl)
              · skip
                have ha2 := cl_in (by omega) (by omega) c25
                refine lv_iload hx hb dX7_depthOf_28 (lv_at hl 0 rfl) ?_
                refine lv_aload_n hx hb dX7_depthOf_30 rfl (lv_at hl 3 rfl) ?_
                refine rp_get (C := RX7) (T := TX7) (N := 12) hx hb hts in_X7_depthOf_X7 hown hK hP b (hX7 Hb).1 (kX7 Hb _) rfl 9 (by decide) (by decide +kernel) rfl dX7_depthOf_31 ?_
                refine lv_iload_n hx hb dX7_depthOf_34 rfl (lv_at hl 2 rfl) ?_
                refine rp_iald hx hb hK hP (b + 5) (hX7 Hb).2.2.2.2.2.1 ((kX7_9 Hb) _) 0 rfl c rfl (by omega) (by decide) dX7_depthOf_35 ?_
                rw [show (va_up σ (b + 6) (dRowX (σ (b + 5)) (σ (b + 6)) c)) (b + 5) c = (σ (b + 5) c) from (va_R (by omega))]
                refine rp_callSI (na := 2) hx hb hml hown hts hK hA hD hP hS hl.1 [.int (nI a), .int (σ (b + 5) c)] (c_X7_isIn l D cy ad y z (va_up σ (b + 6) (dRowX (σ (b + 5)) (σ (b + 6)) c)) (nI a) (σ (b + 5) c) ) gX7_depthOf_X7_isIn rfl (by decide +kernel) rfl ⟨Nat.le_of_ble_eq_true rfl, Nat.le_of_ble_eq_true rfl⟩ ⟨rfl, rfl⟩ ⟨Nat.zero_le _, Nat.zero_le _⟩ rfl (Nat.le_of_ble_eq_true rfl) dX7_depthOf_36 (fun v_ τ_ H locs hq hP hS => ?_)
                obtain ⟨rfl, rfl⟩ := hq
                refine lv_if_eq (tgt := 56) hx hb dX7_depthOf_39 (by decide) (fun c39 => ?_) (fun c39 => ?_)
                · skip
                  have c39 := bi_eq0.mp c39
                  refine lv_iinc (v := ((nI a) + 1)) (lv' := [(4, .int ((nI a) + 1)), (2, .int (dInX (σ (b + 5) c) (dRowX (σ (b + 5)) (σ (b + 6)) c) a)), (3, .int (nI c)), (0, .ref (ad b)), (1, .int (nI s))]) hx hb dX7_depthOf_56 hl (k := 0) rfl rfl (by decide) rfl (fun ls hl => ?_)
                  refine lv_goto (tgt := 22) hx hb dX7_depthOf_59 (by decide) ?_
                  exact ih22 (a + 1) (by omega) (by omega) _ _ _ _ _ _ ((nI_1 a).symm) (if_neg c39) rfl hP hS (lv_sub hl [0, 1, 2, 3, 4] rfl)
                · skip
                  have c39 := bi_ne0.mp c39
                  refine lv_iload_n hx hb dX7_depthOf_42 rfl (lv_at hl 1 rfl) ?_
                  refine lv_aload_n hx hb dX7_depthOf_43 rfl (lv_at hl 3 rfl) ?_
                  refine rp_get (C := RX7) (T := TX7) (N := 12) hx hb hts in_X7_depthOf_X7 hown hK hP b (hX7 Hb).1 (kX7 Hb _) rfl 11 (by decide) (by decide +kernel) rfl dX7_depthOf_44 ?_
                  refine lv_iload hx hb dX7_depthOf_47 (lv_at hl 0 rfl) ?_
                  refine rp_iald hx hb hK hP (b + 6) (hX7 Hb).2.2.2.2.2.2 ((kX7_11 Hb) _) 0 rfl a rfl (by omega) (by decide) dX7_depthOf_49 ?_
                  rw [show (va_up σ (b + 6) (dRowX (σ (b + 5)) (σ (b + 6)) c)) (b + 6) a = ((dRowX (σ (b + 5)) (σ (b + 6)) c) a) from va_S']
                  refine lv_iconst (v := 1) hx hb dX7_depthOf_50 (by decide) ?_
                  refine lv_iadd hx hb dX7_depthOf_51 ?_
                  refine va_mmax hx hb (hml.trans hl.1.symm) hown (hts (.methodLink RX7 71 Lib.Math.max.name) (by decide +kernel)) (hts (.static Lib.Math.max.name) (by decide +kernel)) (hts (.initialized "java/lang/Math") (by decide +kernel)) (hts (.code Lib.Math.max.name Lib.Math.max.code 2 (some .int)) (by decide +kernel)) (Nat.le_of_ble_eq_true rfl) (Nat.le_of_ble_eq_true rfl) (Nat.zero_le _) (Nat.zero_le _) dX7_depthOf_52 ?_
                  refine lv_istore_n (lv' := [(2, .int (if (dInX (σ (b + 5) c) (dRowX (σ (b + 5)) (σ (b + 6)) c) a) < (((dRowX (σ (b + 5)) (σ (b + 6)) c) a) + 1) then (((dRowX (σ (b + 5)) (σ (b + 6)) c) a) + 1) else (dInX (σ (b + 5) c) (dRowX (σ (b + 5)) (σ (b + 6)) c) a))), (4, .int (nI a)), (3, .int (nI c)), (0, .ref (ad b)), (1, .int (nI s))]) hx hb dX7_depthOf_55 rfl hl (by decide) rfl (fun ls hl => ?_)
                  refine lv_iinc (v := ((nI a) + 1)) (lv' := [(4, .int ((nI a) + 1)), (2, .int (if (dInX (σ (b + 5) c) (dRowX (σ (b + 5)) (σ (b + 6)) c) a) < (((dRowX (σ (b + 5)) (σ (b + 6)) c) a) + 1) then (((dRowX (σ (b + 5)) (σ (b + 6)) c) a) + 1) else (dInX (σ (b + 5) c) (dRowX (σ (b + 5)) (σ (b + 6)) c) a))), (3, .int (nI c)), (0, .ref (ad b)), (1, .int (nI s))]) hx hb dX7_depthOf_56 hl (k := 1) rfl rfl (by decide) rfl (fun ls hl => ?_)
                  refine lv_goto (tgt := 22) hx hb dX7_depthOf_59 (by decide) ?_
                  exact ih22 (a + 1) (by omega) (by omega) _ _ _ _ _ _ ((nI_1 a).symm) (if_pos c39) rfl hP hS (lv_sub hl [0, 1, 2, 3, 4] rfl)
          exact L22 ((c - 0) + 1) 0 (Nat.zero_le _) (Nat.lt_succ_self _) _ _ _ _ _ _ (by first | rfl | simp [*]) (by first | rfl | simp [*]) rfl hP hS (lv_sub hl [0, 1, 2, 3, 4] rfl)
  exact L4 ((s + 1 - 0) + 1) 0 (Nat.zero_le _) (Nat.lt_succ_self _) _ _ _ _ _ _ (by first | rfl | simp [*]) rfl rfl hP hS (lv_sub hl [0, 1, 2, 3] rfl)

theorem in_X7_rootsOf_X7 : ∀ w ∈ u_ws RX7 TX7 12, w ∈ wsX7_rootsOf := by decide +kernel
set_option maxHeartbeats 1000000 in
set_option maxRecDepth 100000 in
theorem c_X7_rootsOf (l : Launch) (D : va_G) (cy : Nat → ClassId) (ad : Nat → Nat) (y z : Nat) (σ : Nat → Nat → Int32) (fr : Nat → Int32) (b : Nat) (n : Nat) (s : Nat) (r_fr : σ (b + 5) = fr) (Hb : b = 3 ∨ b = 10) (hn : n ≤ 10) (en : σ b 5 = nI n) (hs : s < n) : MI l D (tysW cy) 109 ad (cfX ad cy y z) yX7_rootsOf wsX7_rootsOf ({ frames := 1, cells := 0, slots := 0, locals := 21 }) σ [.ref (ad b), .int (nI s)] (fun v_ τ_ => (rtD fr n ((1 : Int32) <<< (nI s &&& 31)) 0) = v_ ∧ σ = τ_) := by
  refine MI.go (cc := cX7_rootsOf) (maxL := 5) .int (by decide) rfl (Nat.le_of_ble_eq_true rfl) ?_
  intro p_ e_ s_ m_ args_ bl_ mt_ c_ A_ Q_ ls hx hb hml hown hts hK hA hD hP hS hl hret
  have hl : lv_has ls 5 [(0, .ref (ad b)), (1, .int (nI s))] := hl
  subst r_fr
  refine lv_iconst (v := 1) hx hb dX7_rootsOf_0 (by decide) ?_
  refine lv_iload_n hx hb dX7_rootsOf_1 rfl (lv_at hl 1 rfl) ?_
  refine lv_ishl hx hb dX7_rootsOf_2 ?_
  refine lv_istore_n (lv' := [(2, .int ((1 : Int32) <<< ((nI s) &&& 31))), (0, .ref (ad b)), (1, .int (nI s))]) hx hb dX7_rootsOf_3 rfl hl (by decide) rfl (fun ls hl => ?_)
  refine lv_iconst (v := 0) hx hb dX7_rootsOf_4 (by decide) ?_
  refine lv_istore_n (lv' := [(3, .int 0), (2, .int ((1 : Int32) <<< ((nI s) &&& 31))), (0, .ref (ad b)), (1, .int (nI s))]) hx hb dX7_rootsOf_5 rfl hl (by decide) rfl (fun ls hl => ?_)
  refine lv_aload_n hx hb dX7_rootsOf_6 rfl (lv_at hl 2 rfl) ?_
  refine rp_get (C := RX7) (T := TX7) (N := 12) hx hb hts in_X7_rootsOf_X7 hown hK hP b (hX7 Hb).1 (kX7 Hb _) rfl 5 (by decide) (by decide +kernel) rfl dX7_rootsOf_7 ?_
  rw [en]
  refine lv_iconst (v := 1) hx hb dX7_rootsOf_10 (by decide) ?_
  refine lv_isub hx hb dX7_rootsOf_11 ?_
  refine lv_istore (lv' := [(4, .int ((nI n) - 1)), (3, .int 0), (2, .int ((1 : Int32) <<< ((nI s) &&& 31))), (0, .ref (ad b)), (1, .int (nI s))]) hx hb dX7_rootsOf_12 hl (by decide) rfl (fun ls hl => ?_)
  have L14 : ∀ (fu14 : Nat) (j : Nat) (a : Int32) (r : Int32), (j ≤ n) → (rtD (σ (b + 5)) j a r = rtD (σ (b + 5)) n ((1 : Int32) <<< (nI s &&& 31)) 0) → j < fu14 → ∀ (x4 : Int32) (x3 : Int32) (x2 : Int32) (τ : Nat → Nat → Int32) (H : Heap) (locs : List Loc) (ls : Array Slot), (nI j + (-1)) = x4 → r = x3 → a = x2 → σ = τ → va_P D classes (rw_ 109 ad (cfX ad cy y z) τ) H → va_S A_ s_.heap H locs → lv_has ls 5 [(4, .int x4), (3, .int x3), (2, .int x2), (0, .ref (ad b)), (1, .int (nI s))] → W p_ l e_ ({ frames := 1, cells := 0, slots := 0, locals := 21 }) s_ m_ args_ bl_ mt_ c_ H locs 0 0 Q_ (F0 m_ 14 ls []) := by
    intro fu14
    induction fu14 with
    | zero => intro j a r hj hF hf; exact absurd hf (Nat.not_lt_zero _)
    | succ fu14 ih14 =>
      intro j a r hj hF hf14 x4 x3 x2 τ H locs ls ex4 ex3 ex2 eτ hP hS hl
      subst ex4
      subst ex3
      subst ex2
      subst eτ
      refine lv_iload hx hb dX7_rootsOf_14 (lv_at hl 0 rfl) ?_
      refine lv_if_lt (tgt := 65) hx hb dX7_rootsOf_16 (by decide) (fun c16 => ?_) (fun c16 => ?_)
      · skip
        have ej := dn_t (by omega) c16
        refine lv_iload_n hx hb dX7_rootsOf_65 rfl (lv_at hl 1 rfl) ?_
        exact hret hP hS dX7_rootsOf_66 rfl ⟨(by rw [← hF, ej]; rfl), rfl⟩
      · skip
        obtain ⟨q, rfl⟩ := dn_f c16
        rw [pk_m1] at hl
        refine lv_iload hx hb dX7_rootsOf_19 (lv_at hl 0 rfl) ?_
        refine lv_iload_n hx hb dX7_rootsOf_21 rfl (lv_at hl 2 rfl) ?_
        refine rp_callSI (na := 2) hx hb hml hown hts hK hA hD hP hS hl.1 [.int (nI q), .int a] (c_X7_isIn l D cy ad y z σ (nI q) a ) gX7_rootsOf_X7_isIn rfl (by decide +kernel) rfl ⟨Nat.le_of_ble_eq_true rfl, Nat.le_of_ble_eq_true rfl⟩ ⟨rfl, rfl⟩ ⟨Nat.zero_le _, Nat.zero_le _⟩ rfl (Nat.le_of_ble_eq_true rfl) dX7_rootsOf_22 (fun v_ τ_ H locs hq hP hS => ?_)
        obtain ⟨rfl, rfl⟩ := hq
        refine lv_if_eq (tgt := 59) hx hb dX7_rootsOf_25 (by decide) (fun c25 => ?_) (fun c25 => ?_)
        · skip
          have c25 := bi_eq0.mp c25
          refine lv_iinc (v := ((nI q) + (-1))) (lv' := [(4, .int ((nI q) + (-1))), (3, .int r), (2, .int a), (0, .ref (ad b)), (1, .int (nI s))]) hx hb dX7_rootsOf_59 hl (k := 0) rfl rfl (by decide) rfl (fun ls hl => ?_)
          refine lv_goto (tgt := 14) hx hb dX7_rootsOf_62 (by decide) ?_
          exact ih14 q _ _ (by omega) (by rw [← hF, rtD, if_neg c25]) (by omega) _ _ _ _ _ _ _ (by first | rfl | simp [*]) rfl rfl rfl hP hS (lv_sub hl [0, 1, 2, 3, 4] rfl)
        · skip
          have c25 := bi_ne0.mp c25
          refine lv_iload_n hx hb dX7_rootsOf_28 rfl (lv_at hl 2 rfl) ?_
          refine lv_aload_n hx hb dX7_rootsOf_29 rfl (lv_at hl 3 rfl) ?_
          refine rp_get (C := RX7) (T := TX7) (N := 12) hx hb hts in_X7_rootsOf_X7 hown hK hP b (hX7 Hb).1 (kX7 Hb _) rfl 9 (by decide) (by decide +kernel) rfl dX7_rootsOf_30 ?_
          refine lv_iload hx hb dX7_rootsOf_33 (lv_at hl 0 rfl) ?_
          refine rp_iald hx hb hK hP (b + 5) (hX7 Hb).2.2.2.2.2.1 ((kX7_9 Hb) _) 0 rfl q rfl (by omega) (by decide) dX7_rootsOf_35 ?_
          refine lv_ior hx hb dX7_rootsOf_36 ?_
          refine lv_istore_n (lv' := [(2, .int (a ||| (σ (b + 5) q))), (4, .int (nI q)), (3, .int r), (0, .ref (ad b)), (1, .int (nI s))]) hx hb dX7_rootsOf_37 rfl hl (by decide) rfl (fun ls hl => ?_)
          refine lv_iload_n hx hb dX7_rootsOf_38 rfl (lv_at hl 2 rfl) ?_
          refine lv_aload_n hx hb dX7_rootsOf_39 rfl (lv_at hl 3 rfl) ?_
          refine rp_get (C := RX7) (T := TX7) (N := 12) hx hb hts in_X7_rootsOf_X7 hown hK hP b (hX7 Hb).1 (kX7 Hb _) rfl 9 (by decide) (by decide +kernel) rfl dX7_rootsOf_40 ?_
          refine lv_iload hx hb dX7_rootsOf_43 (lv_at hl 1 rfl) ?_
          refine rp_iald hx hb hK hP (b + 5) (hX7 Hb).2.2.2.2.2.1 ((kX7_9 Hb) _) 0 rfl q rfl (by omega) (by decide) dX7_rootsOf_45 ?_
          refine lv_if_ne (tgt := 56) hx hb dX7_rootsOf_46 (by decide) (fun c46 => ?_) (fun c46 => ?_)
          · skip
            refine lv_iconst (v := 0) hx hb dX7_rootsOf_56 (by decide) ?_
            refine lv_ior hx hb dX7_rootsOf_57 ?_
            refine lv_istore_n (lv' := [(3, .int (r ||| 0)), (2, .int (a ||| (σ (b + 5) q))), (4, .int (nI q)), (0, .ref (ad b)), (1, .int (nI s))]) hx hb dX7_rootsOf_58 rfl hl (by decide) rfl (fun ls hl => ?_)
            refine lv_iinc (v := ((nI q) + (-1))) (lv' := [(4, .int ((nI q) + (-1))), (3, .int (r ||| 0)), (2, .int (a ||| (σ (b + 5) q))), (0, .ref (ad b)), (1, .int (nI s))]) hx hb dX7_rootsOf_59 hl (k := 2) rfl rfl (by decide) rfl (fun ls hl => ?_)
            refine lv_goto (tgt := 14) hx hb dX7_rootsOf_62 (by decide) ?_
            exact ih14 q _ _ (by omega) (by rw [← hF, rtD, if_pos c25, if_neg c46]) (by omega) _ _ _ _ _ _ _ (by first | rfl | simp [*]) rfl rfl rfl hP hS (lv_sub hl [0, 1, 2, 3, 4] rfl)
          · skip
            refine lv_iconst (v := 1) hx hb dX7_rootsOf_49 (by decide) ?_
            refine lv_iload hx hb dX7_rootsOf_50 (lv_at hl 1 rfl) ?_
            refine lv_ishl hx hb dX7_rootsOf_52 ?_
            refine lv_goto (tgt := 57) hx hb dX7_rootsOf_53 (by decide) ?_
            refine lv_ior hx hb dX7_rootsOf_57 ?_
            refine lv_istore_n (lv' := [(3, .int (r ||| ((1 : Int32) <<< ((nI q) &&& 31)))), (2, .int (a ||| (σ (b + 5) q))), (4, .int (nI q)), (0, .ref (ad b)), (1, .int (nI s))]) hx hb dX7_rootsOf_58 rfl hl (by decide) rfl (fun ls hl => ?_)
            refine lv_iinc (v := ((nI q) + (-1))) (lv' := [(4, .int ((nI q) + (-1))), (3, .int (r ||| ((1 : Int32) <<< ((nI q) &&& 31)))), (2, .int (a ||| (σ (b + 5) q))), (0, .ref (ad b)), (1, .int (nI s))]) hx hb dX7_rootsOf_59 hl (k := 2) rfl rfl (by decide) rfl (fun ls hl => ?_)
            refine lv_goto (tgt := 14) hx hb dX7_rootsOf_62 (by decide) ?_
            exact ih14 q _ _ (by omega) (by rw [← hF, rtD, if_pos c25, if_pos c46]) (by omega) _ _ _ _ _ _ _ (by first | rfl | simp [*]) rfl rfl rfl hP hS (lv_sub hl [0, 1, 2, 3, 4] rfl)
  exact L14 (n + 1) n ((1 : Int32) <<< (nI s &&& 31)) 0 (by omega) rfl (Nat.lt_succ_self _) _ _ _ _ _ _ _ (nI_m1 n) (by first | rfl | simp [*]) (by first | rfl | simp [*]) rfl hP hS (lv_sub hl [0, 1, 2, 3, 4] rfl)

theorem in_X7_sayingsOf_X7 : ∀ w ∈ u_ws RX7 TX7 12, w ∈ wsX7_sayingsOf := by decide +kernel
set_option maxHeartbeats 1000000 in
set_option maxRecDepth 100000 in
theorem c_X7_sayingsOf (l : Launch) (D : va_G) (cy : Nat → ClassId) (ad : Nat → Nat) (y z : Nat) (σ : Nat → Nat → Int32) (ow : Nat → Int32) (b : Nat) (n : Nat) (v : Int32) (r_ow : σ (b + 2) = ow) (Hb : b = 3 ∨ b = 10) (hn : n ≤ 10) (en : σ b 5 = nI n) : MI l D (tysW cy) 109 ad (cfX ad cy y z) yX7_sayingsOf wsX7_sayingsOf ({ frames := 0, cells := 0, slots := 0, locals := 0 }) σ [.ref (ad b), .int v] (fun v_ τ_ => (saidN ow v n) = v_ ∧ σ = τ_) := by
  refine MI.go (cc := cX7_sayingsOf) (maxL := 4) .int (by decide) rfl (Nat.le_of_ble_eq_true rfl) ?_
  intro p_ e_ s_ m_ args_ bl_ mt_ c_ A_ Q_ ls hx hb hml hown hts hK hA hD hP hS hl hret
  have hl : lv_has ls 4 [(0, .ref (ad b)), (1, .int v)] := hl
  subst r_ow
  refine lv_iconst (v := 0) hx hb dX7_sayingsOf_0 (by decide) ?_
  refine lv_istore_n (lv' := [(2, .int 0), (0, .ref (ad b)), (1, .int v)]) hx hb dX7_sayingsOf_1 rfl hl (by decide) rfl (fun ls hl => ?_)
  refine lv_iconst (v := 0) hx hb dX7_sayingsOf_2 (by decide) ?_
  refine lv_istore_n (lv' := [(3, .int 0), (2, .int 0), (0, .ref (ad b)), (1, .int v)]) hx hb dX7_sayingsOf_3 rfl hl (by decide) rfl (fun ls hl => ?_)
  have L4 : ∀ (fu4 : Nat) (c : Nat), (c ≤ n) → n - c < fu4 → ∀ (x3 : Int32) (x2 : Int32) (τ : Nat → Nat → Int32) (H : Heap) (locs : List Loc) (ls : Array Slot), (nI c) = x3 → (saidN (σ (b + 2)) v c) = x2 → σ = τ → va_P D classes (rw_ 109 ad (cfX ad cy y z) τ) H → va_S A_ s_.heap H locs → lv_has ls 4 [(3, .int x3), (2, .int x2), (0, .ref (ad b)), (1, .int v)] → W p_ l e_ ({ frames := 0, cells := 0, slots := 0, locals := 0 }) s_ m_ args_ bl_ mt_ c_ H locs 0 0 Q_ (F0 m_ 4 ls []) := by
    intro fu4
    induction fu4 with
    | zero => intro c hc hf; exact absurd hf (Nat.not_lt_zero _)
    | succ fu4 ih4 =>
      intro c hc hf4 x3 x2 τ H locs ls ex3 ex2 eτ hP hS hl
      subst ex3
      subst ex2
      subst eτ
      refine lv_iload_n hx hb dX7_sayingsOf_4 rfl (lv_at hl 0 rfl) ?_
      refine lv_aload_n hx hb dX7_sayingsOf_5 rfl (lv_at hl 2 rfl) ?_
      refine rp_get (C := RX7) (T := TX7) (N := 12) hx hb hts in_X7_sayingsOf_X7 hown hK hP b (hX7 Hb).1 (kX7 Hb _) rfl 5 (by decide) (by decide +kernel) rfl dX7_sayingsOf_6 ?_
      rw [en]
      refine lv_icmp_ge (tgt := 38) hx hb dX7_sayingsOf_9 (by decide) (fun c9 => ?_) (fun c9 => ?_)
      · skip
        have ec := cl_ex hc (by omega) c9
        refine lv_iload_n hx hb dX7_sayingsOf_38 rfl (lv_at hl 1 rfl) ?_
        exact hret hP hS dX7_sayingsOf_39 rfl ⟨(by rw [ec]), rfl⟩
      · skip
        have hc2 := cl_in (by omega) (by omega) c9
        refine lv_iload_n hx hb dX7_sayingsOf_12 rfl (lv_at hl 1 rfl) ?_
        refine lv_aload_n hx hb dX7_sayingsOf_13 rfl (lv_at hl 2 rfl) ?_
        refine rp_get (C := RX7) (T := TX7) (N := 12) hx hb hts in_X7_sayingsOf_X7 hown hK hP b (hX7 Hb).1 (kX7 Hb _) rfl 6 (by decide) (by decide +kernel) rfl dX7_sayingsOf_14 ?_
        refine lv_iload_n hx hb dX7_sayingsOf_17 rfl (lv_at hl 0 rfl) ?_
        refine rp_iald hx hb hK hP (b + 2) (hX7 Hb).2.2.1 ((kX7_6 Hb) _) 0 rfl c rfl (by omega) (by decide) dX7_sayingsOf_18 ?_
        refine lv_iload_n hx hb dX7_sayingsOf_19 rfl (lv_at hl 3 rfl) ?_
        refine lv_icmp_ne (tgt := 29) hx hb dX7_sayingsOf_20 (by decide) (fun c20 => ?_) (fun c20 => ?_)
        · skip
          refine lv_iconst (v := 0) hx hb dX7_sayingsOf_29 (by decide) ?_
          refine lv_ior hx hb dX7_sayingsOf_30 ?_
          refine lv_istore_n (lv' := [(2, .int ((saidN (σ (b + 2)) v c) ||| 0)), (3, .int (nI c)), (0, .ref (ad b)), (1, .int v)]) hx hb dX7_sayingsOf_31 rfl hl (by decide) rfl (fun ls hl => ?_)
          refine lv_iinc (v := ((nI c) + 1)) (lv' := [(3, .int ((nI c) + 1)), (2, .int ((saidN (σ (b + 2)) v c) ||| 0)), (0, .ref (ad b)), (1, .int v)]) hx hb dX7_sayingsOf_32 hl (k := 1) rfl rfl (by decide) rfl (fun ls hl => ?_)
          refine lv_goto (tgt := 4) hx hb dX7_sayingsOf_35 (by decide) ?_
          exact ih4 (c + 1) (by omega) (by omega) _ _ _ _ _ _ ((nI_1 c).symm) (by first | exact saidN_f c20 | exact saidN_t c20) rfl hP hS (lv_sub hl [0, 1, 2, 3] rfl)
        · skip
          refine lv_iconst (v := 1) hx hb dX7_sayingsOf_23 (by decide) ?_
          refine lv_iload_n hx hb dX7_sayingsOf_24 rfl (lv_at hl 0 rfl) ?_
          refine lv_ishl hx hb dX7_sayingsOf_25 ?_
          refine lv_goto (tgt := 30) hx hb dX7_sayingsOf_26 (by decide) ?_
          refine lv_ior hx hb dX7_sayingsOf_30 ?_
          refine lv_istore_n (lv' := [(2, .int ((saidN (σ (b + 2)) v c) ||| ((1 : Int32) <<< ((nI c) &&& 31)))), (3, .int (nI c)), (0, .ref (ad b)), (1, .int v)]) hx hb dX7_sayingsOf_31 rfl hl (by decide) rfl (fun ls hl => ?_)
          refine lv_iinc (v := ((nI c) + 1)) (lv' := [(3, .int ((nI c) + 1)), (2, .int ((saidN (σ (b + 2)) v c) ||| ((1 : Int32) <<< ((nI c) &&& 31)))), (0, .ref (ad b)), (1, .int v)]) hx hb dX7_sayingsOf_32 hl (k := 1) rfl rfl (by decide) rfl (fun ls hl => ?_)
          refine lv_goto (tgt := 4) hx hb dX7_sayingsOf_35 (by decide) ?_
          exact ih4 (c + 1) (by omega) (by omega) _ _ _ _ _ _ ((nI_1 c).symm) (by first | exact saidN_f c20 | exact saidN_t c20) rfl hP hS (lv_sub hl [0, 1, 2, 3] rfl)
  exact L4 ((n - 0) + 1) 0 (Nat.zero_le _) (Nat.lt_succ_self _) _ _ _ _ _ _ (by first | rfl | simp [*]) (by first | rfl | simp [*]) rfl hP hS (lv_sub hl [0, 1, 2, 3] rfl)

theorem in_X7_leansOf_X7 : ∀ w ∈ u_ws RX7 TX7 12, w ∈ wsX7_leansOf := by decide +kernel
set_option maxHeartbeats 1000000 in
set_option maxRecDepth 100000 in
theorem c_X7_leansOf (l : Launch) (D : va_G) (cy : Nat → ClassId) (ad : Nat → Nat) (y z : Nat) (σ : Nat → Nat → Int32) (ow : Nat → Int32) (fr : Nat → Int32) (b : Nat) (n : Nat) (v : Int32) (r_ow : σ (b + 2) = ow) (r_fr : σ (b + 5) = fr) (Hb : b = 3 ∨ b = 10) (hn : n ≤ 10) (en : σ b 5 = nI n) : MI l D (tysW cy) 109 ad (cfX ad cy y z) yX7_leansOf wsX7_leansOf ({ frames := 1, cells := 0, slots := 0, locals := 21 }) σ [.ref (ad b), .int v] (fun v_ τ_ => (lnX ow (strN ow fr v n) v n) = v_ ∧ σ = τ_) := by
  refine MI.go (cc := cX7_leansOf) (maxL := 5) .int (by decide) rfl (Nat.le_of_ble_eq_true rfl) ?_
  intro p_ e_ s_ m_ args_ bl_ mt_ c_ A_ Q_ ls hx hb hml hown hts hK hA hD hP hS hl hret
  have hl : lv_has ls 5 [(0, .ref (ad b)), (1, .int v)] := hl
  subst r_ow r_fr
  refine lv_iconst (v := 0) hx hb dX7_leansOf_0 (by decide) ?_
  refine lv_istore_n (lv' := [(2, .int 0), (0, .ref (ad b)), (1, .int v)]) hx hb dX7_leansOf_1 rfl hl (by decide) rfl (fun ls hl => ?_)
  refine lv_iconst (v := 0) hx hb dX7_leansOf_2 (by decide) ?_
  refine lv_istore_n (lv' := [(3, .int 0), (2, .int 0), (0, .ref (ad b)), (1, .int v)]) hx hb dX7_leansOf_3 rfl hl (by decide) rfl (fun ls hl => ?_)
  have L4 : ∀ (fu4 : Nat) (c : Nat), (c ≤ n) → n - c < fu4 → ∀ (x3 : Int32) (x2 : Int32) (τ : Nat → Nat → Int32) (H : Heap) (locs : List Loc) (ls : Array Slot), (nI c) = x3 → (strN (σ (b + 2)) (σ (b + 5)) v c) = x2 → σ = τ → va_P D classes (rw_ 109 ad (cfX ad cy y z) τ) H → va_S A_ s_.heap H locs → lv_has ls 5 [(3, .int x3), (2, .int x2), (0, .ref (ad b)), (1, .int v)] → W p_ l e_ ({ frames := 1, cells := 0, slots := 0, locals := 21 }) s_ m_ args_ bl_ mt_ c_ H locs 0 0 Q_ (F0 m_ 4 ls []) := by
    intro fu4
    induction fu4 with
    | zero => intro c hc hf; exact absurd hf (Nat.not_lt_zero _)
    | succ fu4 ih4 =>
      intro c hc hf4 x3 x2 τ H locs ls ex3 ex2 eτ hP hS hl
      subst ex3
      subst ex2
      subst eτ
      refine lv_iload_n hx hb dX7_leansOf_4 rfl (lv_at hl 0 rfl) ?_
      refine lv_aload_n hx hb dX7_leansOf_5 rfl (lv_at hl 2 rfl) ?_
      refine rp_get (C := RX7) (T := TX7) (N := 12) hx hb hts in_X7_leansOf_X7 hown hK hP b (hX7 Hb).1 (kX7 Hb _) rfl 5 (by decide) (by decide +kernel) rfl dX7_leansOf_6 ?_
      rw [en]
      refine lv_icmp_ge (tgt := 41) hx hb dX7_leansOf_9 (by decide) (fun c9 => ?_) (fun c9 => ?_)
      · skip
        have ec := cl_ex hc (by omega) c9
        refine lv_iconst (v := 0) hx hb dX7_leansOf_41 (by decide) ?_
        refine lv_istore_n (lv' := [(3, .int 0), (2, .int (strN (σ (b + 2)) (σ (b + 5)) v c)), (0, .ref (ad b)), (1, .int v)]) hx hb dX7_leansOf_42 rfl hl (by decide) rfl (fun ls hl => ?_)
        refine lv_iconst (v := 0) hx hb dX7_leansOf_43 (by decide) ?_
        refine lv_istore (lv' := [(4, .int 0), (3, .int 0), (2, .int (strN (σ (b + 2)) (σ (b + 5)) v c)), (0, .ref (ad b)), (1, .int v)]) hx hb dX7_leansOf_44 hl (by decide) rfl (fun ls hl => ?_)
        have L46 : ∀ (fu46 : Nat) (e : Nat), (e ≤ n) → n - e < fu46 → ∀ (x4 : Int32) (x3 : Int32) (τ : Nat → Nat → Int32) (H : Heap) (locs : List Loc) (ls : Array Slot), (nI e) = x4 → (lnX (σ (b + 2)) (strN (σ (b + 2)) (σ (b + 5)) v c) v e) = x3 → σ = τ → va_P D classes (rw_ 109 ad (cfX ad cy y z) τ) H → va_S A_ s_.heap H locs → lv_has ls 5 [(4, .int x4), (3, .int x3), (2, .int (strN (σ (b + 2)) (σ (b + 5)) v c)), (0, .ref (ad b)), (1, .int v)] → W p_ l e_ ({ frames := 1, cells := 0, slots := 0, locals := 21 }) s_ m_ args_ bl_ mt_ c_ H locs 0 0 Q_ (F0 m_ 46 ls []) := by
          intro fu46
          induction fu46 with
          | zero => intro e he hf; exact absurd hf (Nat.not_lt_zero _)
          | succ fu46 ih46 =>
            intro e he hf46 x4 x3 τ H locs ls ex4 ex3 eτ hP hS hl
            subst ex4
            subst ex3
            subst eτ
            refine lv_iload hx hb dX7_leansOf_46 (lv_at hl 0 rfl) ?_
            refine lv_aload_n hx hb dX7_leansOf_48 rfl (lv_at hl 3 rfl) ?_
            refine rp_get (C := RX7) (T := TX7) (N := 12) hx hb hts in_X7_leansOf_X7 hown hK hP b (hX7 Hb).1 (kX7 Hb _) rfl 5 (by decide) (by decide +kernel) rfl dX7_leansOf_49 ?_
            rw [en]
            refine lv_icmp_ge (tgt := 97) hx hb dX7_leansOf_52 (by decide) (fun c52 => ?_) (fun c52 => ?_)
            · skip
              have ee := cl_ex he (by omega) c52
              refine lv_iload_n hx hb dX7_leansOf_97 rfl (lv_at hl 1 rfl) ?_
              exact hret hP hS dX7_leansOf_98 rfl ⟨(by rw [ec, ee]), rfl⟩
            · skip
              have he2 := cl_in (by omega) (by omega) c52
              refine lv_iload_n hx hb dX7_leansOf_55 rfl (lv_at hl 1 rfl) ?_
              refine lv_iload hx hb dX7_leansOf_56 (lv_at hl 0 rfl) ?_
              refine lv_iload_n hx hb dX7_leansOf_58 rfl (lv_at hl 2 rfl) ?_
              refine rp_callSI (na := 2) hx hb hml hown hts hK hA hD hP hS hl.1 [.int (nI e), .int (strN (σ (b + 2)) (σ (b + 5)) v c)] (c_X7_isIn l D cy ad y z σ (nI e) (strN (σ (b + 2)) (σ (b + 5)) v c) ) gX7_leansOf_X7_isIn rfl (by decide +kernel) rfl ⟨Nat.le_of_ble_eq_true rfl, Nat.le_of_ble_eq_true rfl⟩ ⟨rfl, rfl⟩ ⟨Nat.zero_le _, Nat.zero_le _⟩ rfl (Nat.le_of_ble_eq_true rfl) dX7_leansOf_59 (fun v_ τ_ H locs hq hP hS => ?_)
              obtain ⟨rfl, rfl⟩ := hq
              refine lv_if_eq (tgt := 88) hx hb dX7_leansOf_62 (by decide) (fun c62 => ?_) (fun c62 => ?_)
              · skip
                have c62 := bi_eq0.mp c62
                refine lv_iconst (v := 0) hx hb dX7_leansOf_88 (by decide) ?_
                refine lv_ior hx hb dX7_leansOf_89 ?_
                refine lv_istore_n (lv' := [(3, .int ((lnX (σ (b + 2)) (strN (σ (b + 2)) (σ (b + 5)) v c) v e) ||| 0)), (4, .int (nI e)), (2, .int (strN (σ (b + 2)) (σ (b + 5)) v c)), (0, .ref (ad b)), (1, .int v)]) hx hb dX7_leansOf_90 rfl hl (by decide) rfl (fun ls hl => ?_)
                refine lv_iinc (v := ((nI e) + 1)) (lv' := [(4, .int ((nI e) + 1)), (3, .int ((lnX (σ (b + 2)) (strN (σ (b + 2)) (σ (b + 5)) v c) v e) ||| 0)), (2, .int (strN (σ (b + 2)) (σ (b + 5)) v c)), (0, .ref (ad b)), (1, .int v)]) hx hb dX7_leansOf_91 hl (k := 1) rfl rfl (by decide) rfl (fun ls hl => ?_)
                refine lv_goto (tgt := 46) hx hb dX7_leansOf_94 (by decide) ?_
                exact ih46 (e + 1) (by omega) (by omega) _ _ _ _ _ _ ((nI_1 e).symm) (congrArg (fun z => _ ||| z) (if_neg (fun q => c62 q.1))) rfl hP hS (lv_sub hl [0, 1, 2, 3, 4] rfl)
              · skip
                have c62 := bi_ne0.mp c62
                refine lv_aload_n hx hb dX7_leansOf_65 rfl (lv_at hl 3 rfl) ?_
                refine rp_get (C := RX7) (T := TX7) (N := 12) hx hb hts in_X7_leansOf_X7 hown hK hP b (hX7 Hb).1 (kX7 Hb _) rfl 6 (by decide) (by decide +kernel) rfl dX7_leansOf_66 ?_
                refine lv_iload hx hb dX7_leansOf_69 (lv_at hl 0 rfl) ?_
                refine rp_iald hx hb hK hP (b + 2) (hX7 Hb).2.2.1 ((kX7_6 Hb) _) 0 rfl e rfl (by omega) (by decide) dX7_leansOf_71 ?_
                refine lv_iload_n hx hb dX7_leansOf_72 rfl (lv_at hl 4 rfl) ?_
                refine lv_icmp_eq (tgt := 88) hx hb dX7_leansOf_73 (by decide) (fun c73 => ?_) (fun c73 => ?_)
                · skip
                  refine lv_iconst (v := 0) hx hb dX7_leansOf_88 (by decide) ?_
                  refine lv_ior hx hb dX7_leansOf_89 ?_
                  refine lv_istore_n (lv' := [(3, .int ((lnX (σ (b + 2)) (strN (σ (b + 2)) (σ (b + 5)) v c) v e) ||| 0)), (4, .int (nI e)), (2, .int (strN (σ (b + 2)) (σ (b + 5)) v c)), (0, .ref (ad b)), (1, .int v)]) hx hb dX7_leansOf_90 rfl hl (by decide) rfl (fun ls hl => ?_)
                  refine lv_iinc (v := ((nI e) + 1)) (lv' := [(4, .int ((nI e) + 1)), (3, .int ((lnX (σ (b + 2)) (strN (σ (b + 2)) (σ (b + 5)) v c) v e) ||| 0)), (2, .int (strN (σ (b + 2)) (σ (b + 5)) v c)), (0, .ref (ad b)), (1, .int v)]) hx hb dX7_leansOf_91 hl (k := 1) rfl rfl (by decide) rfl (fun ls hl => ?_)
                  refine lv_goto (tgt := 46) hx hb dX7_leansOf_94 (by decide) ?_
                  exact ih46 (e + 1) (by omega) (by omega) _ _ _ _ _ _ ((nI_1 e).symm) (congrArg (fun z => _ ||| z) (if_neg (fun q => q.2 c73))) rfl hP hS (lv_sub hl [0, 1, 2, 3, 4] rfl)
                · skip
                  refine lv_iconst (v := 1) hx hb dX7_leansOf_76 (by decide) ?_
                  refine lv_aload_n hx hb dX7_leansOf_77 rfl (lv_at hl 3 rfl) ?_
                  refine rp_get (C := RX7) (T := TX7) (N := 12) hx hb hts in_X7_leansOf_X7 hown hK hP b (hX7 Hb).1 (kX7 Hb _) rfl 6 (by decide) (by decide +kernel) rfl dX7_leansOf_78 ?_
                  refine lv_iload hx hb dX7_leansOf_81 (lv_at hl 0 rfl) ?_
                  refine rp_iald hx hb hK hP (b + 2) (hX7 Hb).2.2.1 ((kX7_6 Hb) _) 0 rfl e rfl (by omega) (by decide) dX7_leansOf_83 ?_
                  refine lv_ishl hx hb dX7_leansOf_84 ?_
                  refine lv_goto (tgt := 89) hx hb dX7_leansOf_85 (by decide) ?_
                  refine lv_ior hx hb dX7_leansOf_89 ?_
                  refine lv_istore_n (lv' := [(3, .int ((lnX (σ (b + 2)) (strN (σ (b + 2)) (σ (b + 5)) v c) v e) ||| ((1 : Int32) <<< ((σ (b + 2) e) &&& 31)))), (4, .int (nI e)), (2, .int (strN (σ (b + 2)) (σ (b + 5)) v c)), (0, .ref (ad b)), (1, .int v)]) hx hb dX7_leansOf_90 rfl hl (by decide) rfl (fun ls hl => ?_)
                  refine lv_iinc (v := ((nI e) + 1)) (lv' := [(4, .int ((nI e) + 1)), (3, .int ((lnX (σ (b + 2)) (strN (σ (b + 2)) (σ (b + 5)) v c) v e) ||| ((1 : Int32) <<< ((σ (b + 2) e) &&& 31)))), (2, .int (strN (σ (b + 2)) (σ (b + 5)) v c)), (0, .ref (ad b)), (1, .int v)]) hx hb dX7_leansOf_91 hl (k := 1) rfl rfl (by decide) rfl (fun ls hl => ?_)
                  refine lv_goto (tgt := 46) hx hb dX7_leansOf_94 (by decide) ?_
                  exact ih46 (e + 1) (by omega) (by omega) _ _ _ _ _ _ ((nI_1 e).symm) (congrArg (fun z => _ ||| z) (if_pos ⟨c62, c73⟩)) rfl hP hS (lv_sub hl [0, 1, 2, 3, 4] rfl)
        exact L46 ((n - 0) + 1) 0 (Nat.zero_le _) (Nat.lt_succ_self _) _ _ _ _ _ _ (by first | rfl | simp [*]) (by first | rfl | simp [*]) rfl hP hS (lv_sub hl [0, 1, 2, 3, 4] rfl)
      · skip
        have hc2 := cl_in (by omega) (by omega) c9
        refine lv_iload_n hx hb dX7_leansOf_12 rfl (lv_at hl 1 rfl) ?_
        refine lv_aload_n hx hb dX7_leansOf_13 rfl (lv_at hl 2 rfl) ?_
        refine rp_get (C := RX7) (T := TX7) (N := 12) hx hb hts in_X7_leansOf_X7 hown hK hP b (hX7 Hb).1 (kX7 Hb _) rfl 6 (by decide) (by decide +kernel) rfl dX7_leansOf_14 ?_
        refine lv_iload_n hx hb dX7_leansOf_17 rfl (lv_at hl 0 rfl) ?_
        refine rp_iald hx hb hK hP (b + 2) (hX7 Hb).2.2.1 ((kX7_6 Hb) _) 0 rfl c rfl (by omega) (by decide) dX7_leansOf_18 ?_
        refine lv_iload_n hx hb dX7_leansOf_19 rfl (lv_at hl 3 rfl) ?_
        refine lv_icmp_ne (tgt := 32) hx hb dX7_leansOf_20 (by decide) (fun c20 => ?_) (fun c20 => ?_)
        · skip
          refine lv_iconst (v := 0) hx hb dX7_leansOf_32 (by decide) ?_
          refine lv_ior hx hb dX7_leansOf_33 ?_
          refine lv_istore_n (lv' := [(2, .int ((strN (σ (b + 2)) (σ (b + 5)) v c) ||| 0)), (3, .int (nI c)), (0, .ref (ad b)), (1, .int v)]) hx hb dX7_leansOf_34 rfl hl (by decide) rfl (fun ls hl => ?_)
          refine lv_iinc (v := ((nI c) + 1)) (lv' := [(3, .int ((nI c) + 1)), (2, .int ((strN (σ (b + 2)) (σ (b + 5)) v c) ||| 0)), (0, .ref (ad b)), (1, .int v)]) hx hb dX7_leansOf_35 hl (k := 1) rfl rfl (by decide) rfl (fun ls hl => ?_)
          refine lv_goto (tgt := 4) hx hb dX7_leansOf_38 (by decide) ?_
          exact ih4 (c + 1) (by omega) (by omega) _ _ _ _ _ _ ((nI_1 c).symm) (congrArg (fun z => _ ||| z) (if_neg c20)) rfl hP hS (lv_sub hl [0, 1, 2, 3] rfl)
        · skip
          refine lv_aload_n hx hb dX7_leansOf_23 rfl (lv_at hl 2 rfl) ?_
          refine rp_get (C := RX7) (T := TX7) (N := 12) hx hb hts in_X7_leansOf_X7 hown hK hP b (hX7 Hb).1 (kX7 Hb _) rfl 9 (by decide) (by decide +kernel) rfl dX7_leansOf_24 ?_
          refine lv_iload_n hx hb dX7_leansOf_27 rfl (lv_at hl 0 rfl) ?_
          refine rp_iald hx hb hK hP (b + 5) (hX7 Hb).2.2.2.2.2.1 ((kX7_9 Hb) _) 0 rfl c rfl (by omega) (by decide) dX7_leansOf_28 ?_
          refine lv_goto (tgt := 33) hx hb dX7_leansOf_29 (by decide) ?_
          refine lv_ior hx hb dX7_leansOf_33 ?_
          refine lv_istore_n (lv' := [(2, .int ((strN (σ (b + 2)) (σ (b + 5)) v c) ||| (σ (b + 5) c))), (3, .int (nI c)), (0, .ref (ad b)), (1, .int v)]) hx hb dX7_leansOf_34 rfl hl (by decide) rfl (fun ls hl => ?_)
          refine lv_iinc (v := ((nI c) + 1)) (lv' := [(3, .int ((nI c) + 1)), (2, .int ((strN (σ (b + 2)) (σ (b + 5)) v c) ||| (σ (b + 5) c))), (0, .ref (ad b)), (1, .int v)]) hx hb dX7_leansOf_35 hl (k := 1) rfl rfl (by decide) rfl (fun ls hl => ?_)
          refine lv_goto (tgt := 4) hx hb dX7_leansOf_38 (by decide) ?_
          exact ih4 (c + 1) (by omega) (by omega) _ _ _ _ _ _ ((nI_1 c).symm) (congrArg (fun z => _ ||| z) (if_pos c20)) rfl hP hS (lv_sub hl [0, 1, 2, 3] rfl)
  exact L4 ((n - 0) + 1) 0 (Nat.zero_le _) (Nat.lt_succ_self _) _ _ _ _ _ _ (by first | rfl | simp [*]) (by first | rfl | simp [*]) rfl hP hS (lv_sub hl [0, 1, 2, 3] rfl)

theorem in_X7_shareOf_X7 : ∀ w ∈ u_ws RX7 TX7 12, w ∈ wsX7_shareOf := by decide +kernel
set_option maxHeartbeats 1000000 in
set_option maxRecDepth 100000 in
theorem c_X7_shareOf (l : Launch) (D : va_G) (cy : Nat → ClassId) (ad : Nat → Nat) (y z : Nat) (σ : Nat → Nat → Int32) (ar : Nat → Int32) (b : Nat) (k : Nat) (p : Nat) (w : Int32) (r_ar : σ (b + 1) = ar) (Hb : b = 3 ∨ b = 10) (hk : k ≤ 5) (ek : σ b 3 = nI k) (hp : p < k) : MI l D (tysW cy) 109 ad (cfX ad cy y z) yX7_shareOf wsX7_shareOf ({ frames := 1, cells := 0, slots := 0, locals := 21 }) σ [.ref (ad b), .int (nI p), .int w] (fun v_ τ_ => (if allN ar k = 0 then 0 else w * ar p / allN ar k + (if leftN w ar (allN ar k) k ≤ nI p then 0 else 1)) = v_ ∧ σ = τ_) := by
  refine MI.go (cc := cX7_shareOf) (maxL := 6) .int (by decide) rfl (Nat.le_of_ble_eq_true rfl) ?_
  intro p_ e_ s_ m_ args_ bl_ mt_ c_ A_ Q_ ls hx hb hml hown hts hK hA hD hP hS hl hret
  have hl : lv_has ls 6 [(0, .ref (ad b)), (1, .int (nI p)), (2, .int w)] := hl
  subst r_ar
  refine lv_iconst (v := 0) hx hb dX7_shareOf_0 (by decide) ?_
  refine lv_istore_n (lv' := [(3, .int 0), (0, .ref (ad b)), (1, .int (nI p)), (2, .int w)]) hx hb dX7_shareOf_1 rfl hl (by decide) rfl (fun ls hl => ?_)
  refine lv_iconst (v := 0) hx hb dX7_shareOf_2 (by decide) ?_
  refine lv_istore (lv' := [(4, .int 0), (3, .int 0), (0, .ref (ad b)), (1, .int (nI p)), (2, .int w)]) hx hb dX7_shareOf_3 hl (by decide) rfl (fun ls hl => ?_)
  have L5 : ∀ (fu5 : Nat) (c : Nat), (c ≤ k) → k - c < fu5 → ∀ (x4 : Int32) (x3 : Int32) (τ : Nat → Nat → Int32) (H : Heap) (locs : List Loc) (ls : Array Slot), (nI c) = x4 → (allN (σ (b + 1)) c) = x3 → σ = τ → va_P D classes (rw_ 109 ad (cfX ad cy y z) τ) H → va_S A_ s_.heap H locs → lv_has ls 6 [(4, .int x4), (3, .int x3), (0, .ref (ad b)), (1, .int (nI p)), (2, .int w)] → W p_ l e_ ({ frames := 1, cells := 0, slots := 0, locals := 21 }) s_ m_ args_ bl_ mt_ c_ H locs 0 0 Q_ (F0 m_ 5 ls []) := by
    intro fu5
    induction fu5 with
    | zero => intro c hc hf; exact absurd hf (Nat.not_lt_zero _)
    | succ fu5 ih5 =>
      intro c hc hf5 x4 x3 τ H locs ls ex4 ex3 eτ hP hS hl
      subst ex4
      subst ex3
      subst eτ
      refine lv_iload hx hb dX7_shareOf_5 (lv_at hl 0 rfl) ?_
      refine lv_aload_n hx hb dX7_shareOf_7 rfl (lv_at hl 2 rfl) ?_
      refine rp_get (C := RX7) (T := TX7) (N := 12) hx hb hts in_X7_shareOf_X7 hown hK hP b (hX7 Hb).1 (kX7 Hb _) rfl 3 (by decide) (by decide +kernel) rfl dX7_shareOf_8 ?_
      rw [ek]
      refine lv_icmp_ge (tgt := 30) hx hb dX7_shareOf_11 (by decide) (fun c11 => ?_) (fun c11 => ?_)
      · skip
        have ec := cl_ex hc (by omega) c11
        refine lv_iload_n hx hb dX7_shareOf_30 rfl (lv_at hl 1 rfl) ?_
        refine lv_if_eq (tgt := 42) hx hb dX7_shareOf_31 (by decide) (fun c31 => ?_) (fun c31 => ?_)
        · skip
          refine lv_iconst (v := 0) hx hb dX7_shareOf_42 (by decide) ?_
          exact hret hP hS dX7_shareOf_43 rfl ⟨(by rw [← ec, if_pos c31]), rfl⟩
        · skip
          refine lv_aload_n hx hb dX7_shareOf_34 rfl (lv_at hl 2 rfl) ?_
          refine lv_iload_n hx hb dX7_shareOf_35 rfl (lv_at hl 3 rfl) ?_
          refine rp_callVI (na := 1) hx hb hml hown hts hK hA hD hP hS hl.1 b (hX7 Hb).1 (kX7 Hb _) rfl [.int (nI p)] (c_X7_hasPerson l D cy ad y z σ b (nI p) Hb) gX7_shareOf_X7_hasPerson rfl (by decide +kernel) rfl ⟨Nat.le_of_ble_eq_true rfl, Nat.le_of_ble_eq_true rfl⟩ ⟨rfl, rfl⟩ ⟨Nat.zero_le _, Nat.zero_le _⟩ rfl (Nat.le_of_ble_eq_true rfl) dX7_shareOf_36 (fun v_ τ_ H locs hq hP hS => ?_)
          obtain ⟨rfl, rfl⟩ := hq
          refine lv_if_ne (tgt := 44) hx hb dX7_shareOf_39 (by decide) (fun c39 => ?_) (fun c39 => ?_)
          · skip
            have c39 := bi_ne0.mp c39
            refine lv_iload_n hx hb dX7_shareOf_44 rfl (lv_at hl 4 rfl) ?_
            refine lv_istore (lv' := [(4, .int w), (3, .int (allN (σ (b + 1)) c)), (0, .ref (ad b)), (1, .int (nI p)), (2, .int w)]) hx hb dX7_shareOf_45 hl (by decide) rfl (fun ls hl => ?_)
            refine lv_iconst (v := 0) hx hb dX7_shareOf_47 (by decide) ?_
            refine lv_istore (lv' := [(5, .int 0), (4, .int w), (3, .int (allN (σ (b + 1)) c)), (0, .ref (ad b)), (1, .int (nI p)), (2, .int w)]) hx hb dX7_shareOf_48 hl (by decide) rfl (fun ls hl => ?_)
            have L50 : ∀ (fu50 : Nat) (e : Nat), (e ≤ k) → k - e < fu50 → ∀ (x5 : Int32) (x4 : Int32) (τ : Nat → Nat → Int32) (H : Heap) (locs : List Loc) (ls : Array Slot), (nI e) = x5 → (leftN w (σ (b + 1)) (allN (σ (b + 1)) c) e) = x4 → σ = τ → va_P D classes (rw_ 109 ad (cfX ad cy y z) τ) H → va_S A_ s_.heap H locs → lv_has ls 6 [(5, .int x5), (4, .int x4), (3, .int (allN (σ (b + 1)) c)), (0, .ref (ad b)), (1, .int (nI p)), (2, .int w)] → W p_ l e_ ({ frames := 1, cells := 0, slots := 0, locals := 21 }) s_ m_ args_ bl_ mt_ c_ H locs 0 0 Q_ (F0 m_ 50 ls []) := by
              intro fu50
              induction fu50 with
              | zero => intro e he hf; exact absurd hf (Nat.not_lt_zero _)
              | succ fu50 ih50 =>
                intro e he hf50 x5 x4 τ H locs ls ex5 ex4 eτ hP hS hl
                subst ex5
                subst ex4
                subst eτ
                refine lv_iload hx hb dX7_shareOf_50 (lv_at hl 0 rfl) ?_
                refine lv_aload_n hx hb dX7_shareOf_52 rfl (lv_at hl 3 rfl) ?_
                refine rp_get (C := RX7) (T := TX7) (N := 12) hx hb hts in_X7_shareOf_X7 hown hK hP b (hX7 Hb).1 (kX7 Hb _) rfl 3 (by decide) (by decide +kernel) rfl dX7_shareOf_53 ?_
                rw [ek]
                refine lv_icmp_ge (tgt := 81) hx hb dX7_shareOf_56 (by decide) (fun c56 => ?_) (fun c56 => ?_)
                · skip
                  have ee := cl_ex he (by omega) c56
                  refine lv_iload_n hx hb dX7_shareOf_81 rfl (lv_at hl 5 rfl) ?_
                  refine lv_aload_n hx hb dX7_shareOf_82 rfl (lv_at hl 3 rfl) ?_
                  refine rp_get (C := RX7) (T := TX7) (N := 12) hx hb hts in_X7_shareOf_X7 hown hK hP b (hX7 Hb).1 (kX7 Hb _) rfl 4 (by decide) (by decide +kernel) rfl dX7_shareOf_83 ?_
                  refine lv_iload_n hx hb dX7_shareOf_86 rfl (lv_at hl 4 rfl) ?_
                  refine rp_iald hx hb hK hP (b + 1) (hX7 Hb).2.1 ((kX7_4 Hb) _) 0 rfl p rfl (by omega) (by decide) dX7_shareOf_87 ?_
                  refine lv_imul hx hb dX7_shareOf_88 ?_
                  refine lv_iload_n hx hb dX7_shareOf_89 rfl (lv_at hl 2 rfl) ?_
                  refine lv_idiv hx hb dX7_shareOf_90 c31 ?_
                  refine lv_iload_n hx hb dX7_shareOf_91 rfl (lv_at hl 4 rfl) ?_
                  refine lv_iload hx hb dX7_shareOf_92 (lv_at hl 1 rfl) ?_
                  refine lv_icmp_ge (tgt := 101) hx hb dX7_shareOf_94 (by decide) (fun c94 => ?_) (fun c94 => ?_)
                  · skip
                    refine lv_iconst (v := 0) hx hb dX7_shareOf_101 (by decide) ?_
                    refine lv_iadd hx hb dX7_shareOf_102 ?_
                    exact hret hP hS dX7_shareOf_103 rfl ⟨(by rw [ee] at c94; rw [ec] at c94 c31; rw [if_neg c31, if_pos c94, ec]), rfl⟩
                  · skip
                    refine lv_iconst (v := 1) hx hb dX7_shareOf_97 (by decide) ?_
                    refine lv_goto (tgt := 102) hx hb dX7_shareOf_98 (by decide) ?_
                    refine lv_iadd hx hb dX7_shareOf_102 ?_
                    exact hret hP hS dX7_shareOf_103 rfl ⟨(by rw [ee] at c94; rw [ec] at c94 c31; rw [if_neg c31, if_neg c94, ec]), rfl⟩
                · skip
                  have he2 := cl_in (by omega) (by omega) c56
                  refine lv_iload hx hb dX7_shareOf_59 (lv_at hl 1 rfl) ?_
                  refine lv_iload_n hx hb dX7_shareOf_61 rfl (lv_at hl 5 rfl) ?_
                  refine lv_aload_n hx hb dX7_shareOf_62 rfl (lv_at hl 3 rfl) ?_
                  refine rp_get (C := RX7) (T := TX7) (N := 12) hx hb hts in_X7_shareOf_X7 hown hK hP b (hX7 Hb).1 (kX7 Hb _) rfl 4 (by decide) (by decide +kernel) rfl dX7_shareOf_63 ?_
                  refine lv_iload hx hb dX7_shareOf_66 (lv_at hl 0 rfl) ?_
                  refine rp_iald hx hb hK hP (b + 1) (hX7 Hb).2.1 ((kX7_4 Hb) _) 0 rfl e rfl (by omega) (by decide) dX7_shareOf_68 ?_
                  refine lv_imul hx hb dX7_shareOf_69 ?_
                  refine lv_iload_n hx hb dX7_shareOf_70 rfl (lv_at hl 2 rfl) ?_
                  refine lv_idiv hx hb dX7_shareOf_71 c31 ?_
                  refine lv_isub hx hb dX7_shareOf_72 ?_
                  refine lv_istore (lv' := [(4, .int ((leftN w (σ (b + 1)) (allN (σ (b + 1)) c) e) - ((w * (σ (b + 1) e)) / (allN (σ (b + 1)) c)))), (5, .int (nI e)), (3, .int (allN (σ (b + 1)) c)), (0, .ref (ad b)), (1, .int (nI p)), (2, .int w)]) hx hb dX7_shareOf_73 hl (by decide) rfl (fun ls hl => ?_)
                  refine lv_iinc (v := ((nI e) + 1)) (lv' := [(5, .int ((nI e) + 1)), (4, .int ((leftN w (σ (b + 1)) (allN (σ (b + 1)) c) e) - ((w * (σ (b + 1) e)) / (allN (σ (b + 1)) c)))), (3, .int (allN (σ (b + 1)) c)), (0, .ref (ad b)), (1, .int (nI p)), (2, .int w)]) hx hb dX7_shareOf_75 hl (k := 1) rfl rfl (by decide) rfl (fun ls hl => ?_)
                  refine lv_goto (tgt := 50) hx hb dX7_shareOf_78 (by decide) ?_
                  exact ih50 (e + 1) (by omega) (by omega) _ _ _ _ _ _ ((nI_1 e).symm) rfl rfl hP hS (lv_sub hl [0, 1, 2, 3, 4, 5] rfl)
            exact L50 ((k - 0) + 1) 0 (Nat.zero_le _) (Nat.lt_succ_self _) _ _ _ _ _ _ (by first | rfl | simp [*]) (by first | rfl | simp [*]) rfl hP hS (lv_sub hl [0, 1, 2, 3, 4, 5] rfl)
          · skip
            have c39 := bi_eq0.mp c39
            exact absurd (rg_in (by omega) hp ek) c39
      · skip
        have hc2 := cl_in (by omega) (by omega) c11
        refine lv_iload_n hx hb dX7_shareOf_14 rfl (lv_at hl 1 rfl) ?_
        refine lv_aload_n hx hb dX7_shareOf_15 rfl (lv_at hl 2 rfl) ?_
        refine rp_get (C := RX7) (T := TX7) (N := 12) hx hb hts in_X7_shareOf_X7 hown hK hP b (hX7 Hb).1 (kX7 Hb _) rfl 4 (by decide) (by decide +kernel) rfl dX7_shareOf_16 ?_
        refine lv_iload hx hb dX7_shareOf_19 (lv_at hl 0 rfl) ?_
        refine rp_iald hx hb hK hP (b + 1) (hX7 Hb).2.1 ((kX7_4 Hb) _) 0 rfl c rfl (by omega) (by decide) dX7_shareOf_21 ?_
        refine lv_iadd hx hb dX7_shareOf_22 ?_
        refine lv_istore_n (lv' := [(3, .int ((allN (σ (b + 1)) c) + (σ (b + 1) c))), (4, .int (nI c)), (0, .ref (ad b)), (1, .int (nI p)), (2, .int w)]) hx hb dX7_shareOf_23 rfl hl (by decide) rfl (fun ls hl => ?_)
        refine lv_iinc (v := ((nI c) + 1)) (lv' := [(4, .int ((nI c) + 1)), (3, .int ((allN (σ (b + 1)) c) + (σ (b + 1) c))), (0, .ref (ad b)), (1, .int (nI p)), (2, .int w)]) hx hb dX7_shareOf_24 hl (k := 1) rfl rfl (by decide) rfl (fun ls hl => ?_)
        refine lv_goto (tgt := 5) hx hb dX7_shareOf_27 (by decide) ?_
        exact ih5 (c + 1) (by omega) (by omega) _ _ _ _ _ _ ((nI_1 c).symm) rfl rfl hP hS (lv_sub hl [0, 1, 2, 3, 4] rfl)
  exact L5 ((k - 0) + 1) 0 (Nat.zero_le _) (Nat.lt_succ_self _) _ _ _ _ _ _ (by first | rfl | simp [*]) (by first | rfl | simp [*]) rfl hP hS (lv_sub hl [0, 1, 2, 3, 4] rfl)

def T_X7_clear_Y (Y : Nat → Int32) : Nat → Int32 := upd (upd (upd (upd (upd (upd Y 0 0) 1 0) 2 0) 3 0) 5 0) 10 0
theorem in_X7_clear_X7 : ∀ w ∈ u_ws RX7 TX7 12, w ∈ wsX7_clear := by decide +kernel
set_option maxHeartbeats 1000000 in
set_option maxRecDepth 100000 in
theorem c_X7_clear (l : Launch) (D : va_G) (cy : Nat → ClassId) (ad : Nat → Nat) (y z : Nat) (σ : Nat → Nat → Int32) (Y : Nat → Int32) (b : Nat) (r_Y : σ b = Y) (Hb : b = 3 ∨ b = 10) : MV l D (tysW cy) 109 ad (cfX ad cy y z) yX7_clear wsX7_clear ({ frames := 0, cells := 0, slots := 0, locals := 0 }) σ [.ref (ad b)] (fun τ_ => (va_up σ b (T_X7_clear_Y Y)) = τ_) := by
  refine MV.go (cc := cX7_clear) (maxL := 1) (by decide) rfl (Nat.le_of_ble_eq_true rfl) ?_
  intro p_ e_ s_ m_ args_ bl_ mt_ c_ A_ Q_ ls hx hb hml hown hts hK hA hD hP hS hl hret
  have hl : lv_has ls 1 [(0, .ref (ad b))] := hl
  subst r_Y
  have hP : va_P D classes (rw_ 109 ad (cfX ad cy y z) (va_up σ b (σ b))) s_.heap := by rw [va_selfR _ b (rfl)]; exact hP
  refine lv_aload_n hx hb dX7_clear_0 rfl (lv_at hl 0 rfl) ?_
  refine lv_iconst (v := 0) hx hb dX7_clear_1 (by decide) ?_
  refine rp_put (C := RX7) (T := TX7) (N := 12) (v := 0) hx hb hts in_X7_clear_X7 tyX7 tyX7_ok nmX7 hown hK hP hD hS b (hX7 Hb).1 (kX7 Hb _) rfl 0 (by decide) (by decide +kernel) rfl rfl rfl (Nat.le_of_ble_eq_true rfl) (kX7 Hb _) dX7_clear_2 (fun H locs hP hS => ?_)
  rw [show up2 (va_up σ b (σ b)) b 0 0 = va_up σ b (upd (σ b) 0 0) from (vu_up _ _ _ _ _)] at hP
  refine lv_aload_n hx hb dX7_clear_5 rfl (lv_at hl 0 rfl) ?_
  refine lv_iconst (v := 0) hx hb dX7_clear_6 (by decide) ?_
  refine rp_put (C := RX7) (T := TX7) (N := 12) (v := 0) hx hb hts in_X7_clear_X7 tyX7 tyX7_ok nmX7 hown hK hP hD hS b (hX7 Hb).1 (kX7 Hb _) rfl 1 (by decide) (by decide +kernel) rfl rfl rfl (Nat.le_of_ble_eq_true rfl) (kX7 Hb _) dX7_clear_7 (fun H locs hP hS => ?_)
  rw [show up2 (va_up σ b (upd (σ b) 0 0)) b 1 0 = va_up σ b (upd (upd (σ b) 0 0) 1 0) from (vu_up _ _ _ _ _)] at hP
  refine lv_aload_n hx hb dX7_clear_10 rfl (lv_at hl 0 rfl) ?_
  refine lv_iconst (v := 0) hx hb dX7_clear_11 (by decide) ?_
  refine rp_put (C := RX7) (T := TX7) (N := 12) (v := 0) hx hb hts in_X7_clear_X7 tyX7 tyX7_ok nmX7 hown hK hP hD hS b (hX7 Hb).1 (kX7 Hb _) rfl 2 (by decide) (by decide +kernel) rfl rfl rfl (Nat.le_of_ble_eq_true rfl) (kX7 Hb _) dX7_clear_12 (fun H locs hP hS => ?_)
  rw [show up2 (va_up σ b (upd (upd (σ b) 0 0) 1 0)) b 2 0 = va_up σ b (upd (upd (upd (σ b) 0 0) 1 0) 2 0) from (vu_up _ _ _ _ _)] at hP
  refine lv_aload_n hx hb dX7_clear_15 rfl (lv_at hl 0 rfl) ?_
  refine lv_iconst (v := 0) hx hb dX7_clear_16 (by decide) ?_
  refine rp_put (C := RX7) (T := TX7) (N := 12) (v := 0) hx hb hts in_X7_clear_X7 tyX7 tyX7_ok nmX7 hown hK hP hD hS b (hX7 Hb).1 (kX7 Hb _) rfl 3 (by decide) (by decide +kernel) rfl rfl rfl (Nat.le_of_ble_eq_true rfl) (kX7 Hb _) dX7_clear_17 (fun H locs hP hS => ?_)
  rw [show up2 (va_up σ b (upd (upd (upd (σ b) 0 0) 1 0) 2 0)) b 3 0 = va_up σ b (upd (upd (upd (upd (σ b) 0 0) 1 0) 2 0) 3 0) from (vu_up _ _ _ _ _)] at hP
  refine lv_aload_n hx hb dX7_clear_20 rfl (lv_at hl 0 rfl) ?_
  refine lv_iconst (v := 0) hx hb dX7_clear_21 (by decide) ?_
  refine rp_put (C := RX7) (T := TX7) (N := 12) (v := 0) hx hb hts in_X7_clear_X7 tyX7 tyX7_ok nmX7 hown hK hP hD hS b (hX7 Hb).1 (kX7 Hb _) rfl 5 (by decide) (by decide +kernel) rfl rfl rfl (Nat.le_of_ble_eq_true rfl) (kX7 Hb _) dX7_clear_22 (fun H locs hP hS => ?_)
  rw [show up2 (va_up σ b (upd (upd (upd (upd (σ b) 0 0) 1 0) 2 0) 3 0)) b 5 0 = va_up σ b (upd (upd (upd (upd (upd (σ b) 0 0) 1 0) 2 0) 3 0) 5 0) from (vu_up _ _ _ _ _)] at hP
  refine lv_aload_n hx hb dX7_clear_25 rfl (lv_at hl 0 rfl) ?_
  refine lv_iconst (v := 0) hx hb dX7_clear_26 (by decide) ?_
  refine rp_put (C := RX7) (T := TX7) (N := 12) (v := 0) hx hb hts in_X7_clear_X7 tyX7 tyX7_ok nmX7 hown hK hP hD hS b (hX7 Hb).1 (kX7 Hb _) rfl 10 (by decide) (by decide +kernel) rfl rfl rfl (Nat.le_of_ble_eq_true rfl) (kX7 Hb _) dX7_clear_27 (fun H locs hP hS => ?_)
  rw [show up2 (va_up σ b (upd (upd (upd (upd (upd (σ b) 0 0) 1 0) 2 0) 3 0) 5 0)) b 10 0 = va_up σ b (upd (upd (upd (upd (upd (upd (σ b) 0 0) 1 0) 2 0) 3 0) 5 0) 10 0) from (vu_up _ _ _ _ _)] at hP
  exact hret hP hS dX7_clear_30 (by unfold T_X7_clear_Y <;> rfl)

def T_X7_addPerson_Y (Y : Nat → Int32) (ar : Nat → Int32) (k : Nat) (v : Int32) : Nat → Int32 := upd Y 3 ((nI k) + 1)
def T_X7_addPerson_ar (Y : Nat → Int32) (ar : Nat → Int32) (k : Nat) (v : Int32) : Nat → Int32 := upd ar k v
theorem in_X7_addPerson_X7 : ∀ w ∈ u_ws RX7 TX7 12, w ∈ wsX7_addPerson := by decide +kernel
set_option maxHeartbeats 1000000 in
set_option maxRecDepth 100000 in
theorem c_X7_addPerson (l : Launch) (D : va_G) (cy : Nat → ClassId) (ad : Nat → Nat) (y z : Nat) (σ : Nat → Nat → Int32) (Y : Nat → Int32) (ar : Nat → Int32) (b : Nat) (k : Nat) (v : Int32) (r_Y : σ b = Y) (r_ar : σ (b + 1) = ar) (Hb : b = 3 ∨ b = 10) (hk : k < 5) (ek : Y 3 = nI k) : MV l D (tysW cy) 109 ad (cfX ad cy y z) yX7_addPerson wsX7_addPerson ({ frames := 0, cells := 0, slots := 0, locals := 0 }) σ [.ref (ad b), .int v] (fun τ_ => (va_up (va_up σ b (T_X7_addPerson_Y Y ar k v)) (b + 1) (T_X7_addPerson_ar Y ar k v)) = τ_) := by
  refine MV.go (cc := cX7_addPerson) (maxL := 2) (by decide) rfl (Nat.le_of_ble_eq_true rfl) ?_
  intro p_ e_ s_ m_ args_ bl_ mt_ c_ A_ Q_ ls hx hb hml hown hts hK hA hD hP hS hl hret
  have hl : lv_has ls 2 [(0, .ref (ad b)), (1, .int v)] := hl
  subst r_Y r_ar
  have hP : va_P D classes (rw_ 109 ad (cfX ad cy y z) (va_up (va_up σ b (σ b)) (b + 1) (σ (b + 1)))) s_.heap := by rw [va_selfR _ (b + 1) ((va_Q (by omega))), va_selfR _ b (rfl)]; exact hP
  refine lv_aload_n hx hb dX7_addPerson_0 rfl (lv_at hl 0 rfl) ?_
  refine rp_get (C := RX7) (T := TX7) (N := 12) hx hb hts in_X7_addPerson_X7 hown hK hP b (hX7 Hb).1 (kX7 Hb _) rfl 3 (by decide) (by decide +kernel) rfl dX7_addPerson_1 ?_
  rw [show (va_up (va_up σ b (σ b)) (b + 1) (σ (b + 1))) b 3 = (σ b 3) from ((va_R (by omega)).trans va_S')]
  rw [ek]
  refine lv_iconst (v := 5) hx hb dX7_addPerson_4 (by decide) ?_
  refine lv_icmp_ge (tgt := 28) hx hb dX7_addPerson_5 (by decide) (fun c5 => ?_) (fun c5 => ?_)
  · skip
    exact absurd c5 (nI_ge (b := 5) hk (by decide))
  · skip
    refine lv_aload_n hx hb dX7_addPerson_8 rfl (lv_at hl 0 rfl) ?_
    refine rp_get (C := RX7) (T := TX7) (N := 12) hx hb hts in_X7_addPerson_X7 hown hK hP b (hX7 Hb).1 (kX7 Hb _) rfl 4 (by decide) (by decide +kernel) rfl dX7_addPerson_9 ?_
    refine lv_aload_n hx hb dX7_addPerson_12 rfl (lv_at hl 0 rfl) ?_
    refine rp_get (C := RX7) (T := TX7) (N := 12) hx hb hts in_X7_addPerson_X7 hown hK hP b (hX7 Hb).1 (kX7 Hb _) rfl 3 (by decide) (by decide +kernel) rfl dX7_addPerson_13 ?_
    rw [show (va_up (va_up σ b (σ b)) (b + 1) (σ (b + 1))) b 3 = (σ b 3) from ((va_R (by omega)).trans va_S')]
    rw [ek]
    refine lv_iload_n hx hb dX7_addPerson_16 rfl (lv_at hl 1 rfl) ?_
    refine rp_iast (x := v) hx hb hK hP hD hS (b + 1) (hX7 Hb).2.1 (fun f => (kX7_4 Hb) f) 0 rfl k rfl (by omega) (by decide) dX7_addPerson_17 (fun H locs hP hS => ?_)
    rw [show up2 (va_up (va_up σ b (σ b)) (b + 1) (σ (b + 1))) (b + 1) k v = va_up (va_up σ b (σ b)) (b + 1) (upd (σ (b + 1)) k v) from (vu_up _ _ _ _ _)] at hP
    refine lv_aload_n hx hb dX7_addPerson_18 rfl (lv_at hl 0 rfl) ?_
    refine lv_dup hx hb dX7_addPerson_19 rfl ?_
    refine rp_get (C := RX7) (T := TX7) (N := 12) hx hb hts in_X7_addPerson_X7 hown hK hP b (hX7 Hb).1 (kX7 Hb _) rfl 3 (by decide) (by decide +kernel) rfl dX7_addPerson_20 ?_
    rw [show (va_up (va_up σ b (σ b)) (b + 1) (upd (σ (b + 1)) k v)) b 3 = (σ b 3) from ((va_R (by omega)).trans va_S')]
    rw [ek]
    refine lv_iconst (v := 1) hx hb dX7_addPerson_23 (by decide) ?_
    refine lv_iadd hx hb dX7_addPerson_24 ?_
    refine rp_put (C := RX7) (T := TX7) (N := 12) (v := ((nI k) + 1)) hx hb hts in_X7_addPerson_X7 tyX7 tyX7_ok nmX7 hown hK hP hD hS b (hX7 Hb).1 (kX7 Hb _) rfl 3 (by decide) (by decide +kernel) rfl rfl rfl (Nat.le_of_ble_eq_true rfl) (kX7 Hb _) dX7_addPerson_25 (fun H locs hP hS => ?_)
    rw [show up2 (va_up (va_up σ b (σ b)) (b + 1) (upd (σ (b + 1)) k v)) b 3 ((nI k) + 1) = va_up (va_up σ b (upd (σ b) 3 ((nI k) + 1))) (b + 1) (upd (σ (b + 1)) k v) from ((up2_in (by omega)).trans (congrArg (fun z => va_up z (b + 1) _) (vu_up _ _ _ _ _)))] at hP
    exact hret hP hS dX7_addPerson_28 (by unfold T_X7_addPerson_Y T_X7_addPerson_ar <;> rfl)

def T_X7_addSaying_Y (Y : Nat → Int32) (ow : Nat → Int32) (wt : Nat → Int32) (wo : Nat → Int32) (fr : Nat → Int32) (n : Nat) (v : Int32) (w : Int32) (x : Int32) : Nat → Int32 := upd Y 5 ((nI n) + 1)
def T_X7_addSaying_ow (Y : Nat → Int32) (ow : Nat → Int32) (wt : Nat → Int32) (wo : Nat → Int32) (fr : Nat → Int32) (n : Nat) (v : Int32) (w : Int32) (x : Int32) : Nat → Int32 := upd ow n v
def T_X7_addSaying_wt (Y : Nat → Int32) (ow : Nat → Int32) (wt : Nat → Int32) (wo : Nat → Int32) (fr : Nat → Int32) (n : Nat) (v : Int32) (w : Int32) (x : Int32) : Nat → Int32 := upd wt n w
def T_X7_addSaying_wo (Y : Nat → Int32) (ow : Nat → Int32) (wt : Nat → Int32) (wo : Nat → Int32) (fr : Nat → Int32) (n : Nat) (v : Int32) (w : Int32) (x : Int32) : Nat → Int32 := upd wo n x
def T_X7_addSaying_fr (Y : Nat → Int32) (ow : Nat → Int32) (wt : Nat → Int32) (wo : Nat → Int32) (fr : Nat → Int32) (n : Nat) (v : Int32) (w : Int32) (x : Int32) : Nat → Int32 := upd fr n 0
theorem in_X7_addSaying_X7 : ∀ w ∈ u_ws RX7 TX7 12, w ∈ wsX7_addSaying := by decide +kernel
set_option maxHeartbeats 1000000 in
set_option maxRecDepth 100000 in
theorem c_X7_addSaying (l : Launch) (D : va_G) (cy : Nat → ClassId) (ad : Nat → Nat) (y z : Nat) (σ : Nat → Nat → Int32) (Y : Nat → Int32) (ow : Nat → Int32) (wt : Nat → Int32) (wo : Nat → Int32) (fr : Nat → Int32) (b : Nat) (n : Nat) (v : Int32) (w : Int32) (x : Int32) (r_Y : σ b = Y) (r_ow : σ (b + 2) = ow) (r_wt : σ (b + 3) = wt) (r_wo : σ (b + 4) = wo) (r_fr : σ (b + 5) = fr) (Hb : b = 3 ∨ b = 10) (hn : n < 10) (en : Y 5 = nI n) : MV l D (tysW cy) 109 ad (cfX ad cy y z) yX7_addSaying wsX7_addSaying ({ frames := 0, cells := 0, slots := 0, locals := 0 }) σ [.ref (ad b), .int v, .int w, .int x] (fun τ_ => (va_up (va_up (va_up (va_up (va_up σ b (T_X7_addSaying_Y Y ow wt wo fr n v w x)) (b + 2) (T_X7_addSaying_ow Y ow wt wo fr n v w x)) (b + 3) (T_X7_addSaying_wt Y ow wt wo fr n v w x)) (b + 4) (T_X7_addSaying_wo Y ow wt wo fr n v w x)) (b + 5) (T_X7_addSaying_fr Y ow wt wo fr n v w x)) = τ_) := by
  refine MV.go (cc := cX7_addSaying) (maxL := 4) (by decide) rfl (Nat.le_of_ble_eq_true rfl) ?_
  intro p_ e_ s_ m_ args_ bl_ mt_ c_ A_ Q_ ls hx hb hml hown hts hK hA hD hP hS hl hret
  have hl : lv_has ls 4 [(0, .ref (ad b)), (1, .int v), (2, .int w), (3, .int x)] := hl
  subst r_Y r_ow r_wt r_wo r_fr
  have hP : va_P D classes (rw_ 109 ad (cfX ad cy y z) (va_up (va_up (va_up (va_up (va_up σ b (σ b)) (b + 2) (σ (b + 2))) (b + 3) (σ (b + 3))) (b + 4) (σ (b + 4))) (b + 5) (σ (b + 5)))) s_.heap := by rw [va_selfR _ (b + 5) (((va_Q (by omega)).trans ((va_Q (by omega)).trans ((va_Q (by omega)).trans (va_Q (by omega)))))), va_selfR _ (b + 4) (((va_Q (by omega)).trans ((va_Q (by omega)).trans (va_Q (by omega))))), va_selfR _ (b + 3) (((va_Q (by omega)).trans (va_Q (by omega)))), va_selfR _ (b + 2) ((va_Q (by omega))), va_selfR _ b (rfl)]; exact hP
  refine lv_aload_n hx hb dX7_addSaying_0 rfl (lv_at hl 0 rfl) ?_
  refine rp_get (C := RX7) (T := TX7) (N := 12) hx hb hts in_X7_addSaying_X7 hown hK hP b (hX7 Hb).1 (kX7 Hb _) rfl 5 (by decide) (by decide +kernel) rfl dX7_addSaying_1 ?_
  rw [show (va_up (va_up (va_up (va_up (va_up σ b (σ b)) (b + 2) (σ (b + 2))) (b + 3) (σ (b + 3))) (b + 4) (σ (b + 4))) (b + 5) (σ (b + 5))) b 5 = (σ b 5) from ((va_R (by omega)).trans ((va_R (by omega)).trans ((va_R (by omega)).trans ((va_R (by omega)).trans va_S'))))]
  rw [en]
  refine lv_bipush (v := 10) hx hb dX7_addSaying_4 (by decide) ?_
  refine lv_icmp_ge (tgt := 59) hx hb dX7_addSaying_6 (by decide) (fun c6 => ?_) (fun c6 => ?_)
  · skip
    exact absurd c6 (nI_ge (b := 10) hn (by decide))
  · skip
    refine lv_aload_n hx hb dX7_addSaying_9 rfl (lv_at hl 0 rfl) ?_
    refine rp_get (C := RX7) (T := TX7) (N := 12) hx hb hts in_X7_addSaying_X7 hown hK hP b (hX7 Hb).1 (kX7 Hb _) rfl 6 (by decide) (by decide +kernel) rfl dX7_addSaying_10 ?_
    refine lv_aload_n hx hb dX7_addSaying_13 rfl (lv_at hl 0 rfl) ?_
    refine rp_get (C := RX7) (T := TX7) (N := 12) hx hb hts in_X7_addSaying_X7 hown hK hP b (hX7 Hb).1 (kX7 Hb _) rfl 5 (by decide) (by decide +kernel) rfl dX7_addSaying_14 ?_
    rw [show (va_up (va_up (va_up (va_up (va_up σ b (σ b)) (b + 2) (σ (b + 2))) (b + 3) (σ (b + 3))) (b + 4) (σ (b + 4))) (b + 5) (σ (b + 5))) b 5 = (σ b 5) from ((va_R (by omega)).trans ((va_R (by omega)).trans ((va_R (by omega)).trans ((va_R (by omega)).trans va_S'))))]
    rw [en]
    refine lv_iload_n hx hb dX7_addSaying_17 rfl (lv_at hl 1 rfl) ?_
    refine rp_iast (x := v) hx hb hK hP hD hS (b + 2) (hX7 Hb).2.2.1 (fun f => (kX7_6 Hb) f) 0 rfl n rfl (by omega) (by decide) dX7_addSaying_18 (fun H locs hP hS => ?_)
    rw [show up2 (va_up (va_up (va_up (va_up (va_up σ b (σ b)) (b + 2) (σ (b + 2))) (b + 3) (σ (b + 3))) (b + 4) (σ (b + 4))) (b + 5) (σ (b + 5))) (b + 2) n v = va_up (va_up (va_up (va_up (va_up σ b (σ b)) (b + 2) (upd (σ (b + 2)) n v)) (b + 3) (σ (b + 3))) (b + 4) (σ (b + 4))) (b + 5) (σ (b + 5)) from ((up2_in (by omega)).trans (congrArg (fun z => va_up z (b + 5) _) ((up2_in (by omega)).trans (congrArg (fun z => va_up z (b + 4) _) ((up2_in (by omega)).trans (congrArg (fun z => va_up z (b + 3) _) (vu_up _ _ _ _ _)))))))] at hP
    refine lv_aload_n hx hb dX7_addSaying_19 rfl (lv_at hl 0 rfl) ?_
    refine rp_get (C := RX7) (T := TX7) (N := 12) hx hb hts in_X7_addSaying_X7 hown hK hP b (hX7 Hb).1 (kX7 Hb _) rfl 7 (by decide) (by decide +kernel) rfl dX7_addSaying_20 ?_
    refine lv_aload_n hx hb dX7_addSaying_23 rfl (lv_at hl 0 rfl) ?_
    refine rp_get (C := RX7) (T := TX7) (N := 12) hx hb hts in_X7_addSaying_X7 hown hK hP b (hX7 Hb).1 (kX7 Hb _) rfl 5 (by decide) (by decide +kernel) rfl dX7_addSaying_24 ?_
    rw [show (va_up (va_up (va_up (va_up (va_up σ b (σ b)) (b + 2) (upd (σ (b + 2)) n v)) (b + 3) (σ (b + 3))) (b + 4) (σ (b + 4))) (b + 5) (σ (b + 5))) b 5 = (σ b 5) from ((va_R (by omega)).trans ((va_R (by omega)).trans ((va_R (by omega)).trans ((va_R (by omega)).trans va_S'))))]
    rw [en]
    refine lv_iload_n hx hb dX7_addSaying_27 rfl (lv_at hl 2 rfl) ?_
    refine rp_iast (x := w) hx hb hK hP hD hS (b + 3) (hX7 Hb).2.2.2.1 (fun f => (kX7_7 Hb) f) 0 rfl n rfl (by omega) (by decide) dX7_addSaying_28 (fun H locs hP hS => ?_)
    rw [show up2 (va_up (va_up (va_up (va_up (va_up σ b (σ b)) (b + 2) (upd (σ (b + 2)) n v)) (b + 3) (σ (b + 3))) (b + 4) (σ (b + 4))) (b + 5) (σ (b + 5))) (b + 3) n w = va_up (va_up (va_up (va_up (va_up σ b (σ b)) (b + 2) (upd (σ (b + 2)) n v)) (b + 3) (upd (σ (b + 3)) n w)) (b + 4) (σ (b + 4))) (b + 5) (σ (b + 5)) from ((up2_in (by omega)).trans (congrArg (fun z => va_up z (b + 5) _) ((up2_in (by omega)).trans (congrArg (fun z => va_up z (b + 4) _) (vu_up _ _ _ _ _)))))] at hP
    refine lv_aload_n hx hb dX7_addSaying_29 rfl (lv_at hl 0 rfl) ?_
    refine rp_get (C := RX7) (T := TX7) (N := 12) hx hb hts in_X7_addSaying_X7 hown hK hP b (hX7 Hb).1 (kX7 Hb _) rfl 8 (by decide) (by decide +kernel) rfl dX7_addSaying_30 ?_
    refine lv_aload_n hx hb dX7_addSaying_33 rfl (lv_at hl 0 rfl) ?_
    refine rp_get (C := RX7) (T := TX7) (N := 12) hx hb hts in_X7_addSaying_X7 hown hK hP b (hX7 Hb).1 (kX7 Hb _) rfl 5 (by decide) (by decide +kernel) rfl dX7_addSaying_34 ?_
    rw [show (va_up (va_up (va_up (va_up (va_up σ b (σ b)) (b + 2) (upd (σ (b + 2)) n v)) (b + 3) (upd (σ (b + 3)) n w)) (b + 4) (σ (b + 4))) (b + 5) (σ (b + 5))) b 5 = (σ b 5) from ((va_R (by omega)).trans ((va_R (by omega)).trans ((va_R (by omega)).trans ((va_R (by omega)).trans va_S'))))]
    rw [en]
    refine lv_iload_n hx hb dX7_addSaying_37 rfl (lv_at hl 3 rfl) ?_
    refine rp_iast (x := x) hx hb hK hP hD hS (b + 4) (hX7 Hb).2.2.2.2.1 (fun f => (kX7_8 Hb) f) 0 rfl n rfl (by omega) (by decide) dX7_addSaying_38 (fun H locs hP hS => ?_)
    rw [show up2 (va_up (va_up (va_up (va_up (va_up σ b (σ b)) (b + 2) (upd (σ (b + 2)) n v)) (b + 3) (upd (σ (b + 3)) n w)) (b + 4) (σ (b + 4))) (b + 5) (σ (b + 5))) (b + 4) n x = va_up (va_up (va_up (va_up (va_up σ b (σ b)) (b + 2) (upd (σ (b + 2)) n v)) (b + 3) (upd (σ (b + 3)) n w)) (b + 4) (upd (σ (b + 4)) n x)) (b + 5) (σ (b + 5)) from ((up2_in (by omega)).trans (congrArg (fun z => va_up z (b + 5) _) (vu_up _ _ _ _ _)))] at hP
    refine lv_aload_n hx hb dX7_addSaying_39 rfl (lv_at hl 0 rfl) ?_
    refine rp_get (C := RX7) (T := TX7) (N := 12) hx hb hts in_X7_addSaying_X7 hown hK hP b (hX7 Hb).1 (kX7 Hb _) rfl 9 (by decide) (by decide +kernel) rfl dX7_addSaying_40 ?_
    refine lv_aload_n hx hb dX7_addSaying_43 rfl (lv_at hl 0 rfl) ?_
    refine rp_get (C := RX7) (T := TX7) (N := 12) hx hb hts in_X7_addSaying_X7 hown hK hP b (hX7 Hb).1 (kX7 Hb _) rfl 5 (by decide) (by decide +kernel) rfl dX7_addSaying_44 ?_
    rw [show (va_up (va_up (va_up (va_up (va_up σ b (σ b)) (b + 2) (upd (σ (b + 2)) n v)) (b + 3) (upd (σ (b + 3)) n w)) (b + 4) (upd (σ (b + 4)) n x)) (b + 5) (σ (b + 5))) b 5 = (σ b 5) from ((va_R (by omega)).trans ((va_R (by omega)).trans ((va_R (by omega)).trans ((va_R (by omega)).trans va_S'))))]
    rw [en]
    refine lv_iconst (v := 0) hx hb dX7_addSaying_47 (by decide) ?_
    refine rp_iast (x := 0) hx hb hK hP hD hS (b + 5) (hX7 Hb).2.2.2.2.2.1 (fun f => (kX7_9 Hb) f) 0 rfl n rfl (by omega) (by decide) dX7_addSaying_48 (fun H locs hP hS => ?_)
    rw [show up2 (va_up (va_up (va_up (va_up (va_up σ b (σ b)) (b + 2) (upd (σ (b + 2)) n v)) (b + 3) (upd (σ (b + 3)) n w)) (b + 4) (upd (σ (b + 4)) n x)) (b + 5) (σ (b + 5))) (b + 5) n 0 = va_up (va_up (va_up (va_up (va_up σ b (σ b)) (b + 2) (upd (σ (b + 2)) n v)) (b + 3) (upd (σ (b + 3)) n w)) (b + 4) (upd (σ (b + 4)) n x)) (b + 5) (upd (σ (b + 5)) n 0) from (vu_up _ _ _ _ _)] at hP
    refine lv_aload_n hx hb dX7_addSaying_49 rfl (lv_at hl 0 rfl) ?_
    refine lv_dup hx hb dX7_addSaying_50 rfl ?_
    refine rp_get (C := RX7) (T := TX7) (N := 12) hx hb hts in_X7_addSaying_X7 hown hK hP b (hX7 Hb).1 (kX7 Hb _) rfl 5 (by decide) (by decide +kernel) rfl dX7_addSaying_51 ?_
    rw [show (va_up (va_up (va_up (va_up (va_up σ b (σ b)) (b + 2) (upd (σ (b + 2)) n v)) (b + 3) (upd (σ (b + 3)) n w)) (b + 4) (upd (σ (b + 4)) n x)) (b + 5) (upd (σ (b + 5)) n 0)) b 5 = (σ b 5) from ((va_R (by omega)).trans ((va_R (by omega)).trans ((va_R (by omega)).trans ((va_R (by omega)).trans va_S'))))]
    rw [en]
    refine lv_iconst (v := 1) hx hb dX7_addSaying_54 (by decide) ?_
    refine lv_iadd hx hb dX7_addSaying_55 ?_
    refine rp_put (C := RX7) (T := TX7) (N := 12) (v := ((nI n) + 1)) hx hb hts in_X7_addSaying_X7 tyX7 tyX7_ok nmX7 hown hK hP hD hS b (hX7 Hb).1 (kX7 Hb _) rfl 5 (by decide) (by decide +kernel) rfl rfl rfl (Nat.le_of_ble_eq_true rfl) (kX7 Hb _) dX7_addSaying_56 (fun H locs hP hS => ?_)
    rw [show up2 (va_up (va_up (va_up (va_up (va_up σ b (σ b)) (b + 2) (upd (σ (b + 2)) n v)) (b + 3) (upd (σ (b + 3)) n w)) (b + 4) (upd (σ (b + 4)) n x)) (b + 5) (upd (σ (b + 5)) n 0)) b 5 ((nI n) + 1) = va_up (va_up (va_up (va_up (va_up σ b (upd (σ b) 5 ((nI n) + 1))) (b + 2) (upd (σ (b + 2)) n v)) (b + 3) (upd (σ (b + 3)) n w)) (b + 4) (upd (σ (b + 4)) n x)) (b + 5) (upd (σ (b + 5)) n 0) from ((up2_in (by omega)).trans (congrArg (fun z => va_up z (b + 5) _) ((up2_in (by omega)).trans (congrArg (fun z => va_up z (b + 4) _) ((up2_in (by omega)).trans (congrArg (fun z => va_up z (b + 3) _) ((up2_in (by omega)).trans (congrArg (fun z => va_up z (b + 2) _) (vu_up _ _ _ _ _)))))))))] at hP
    exact hret hP hS dX7_addSaying_59 (by unfold T_X7_addSaying_Y T_X7_addSaying_ow T_X7_addSaying_wt T_X7_addSaying_wo T_X7_addSaying_fr <;> rfl)

theorem in_X7_isLinked_X7 : ∀ w ∈ u_ws RX7 TX7 12, w ∈ wsX7_isLinked := by decide +kernel
set_option maxHeartbeats 1000000 in
set_option maxRecDepth 100000 in
theorem c_X7_isLinked (l : Launch) (D : va_G) (cy : Nat → ClassId) (ad : Nat → Nat) (y z : Nat) (σ : Nat → Nat → Int32) (fr : Nat → Int32) (b : Nat) (n : Nat) (p : Nat) (s : Nat) (r_fr : σ (b + 5) = fr) (Hb : b = 3 ∨ b = 10) (hn : n ≤ 10) (en : σ b 5 = nI n) (hs : s < n) : MI l D (tysW cy) 109 ad (cfX ad cy y z) yX7_isLinked wsX7_isLinked ({ frames := 1, cells := 0, slots := 0, locals := 21 }) σ [.ref (ad b), .int (nI p), .int (nI s)] (fun v_ τ_ => (bi (hasB (fr s) (nI p))) = v_ ∧ σ = τ_) := by
  refine MI.go (cc := cX7_isLinked) (maxL := 3) .boolean (by decide) rfl (Nat.le_of_ble_eq_true rfl) ?_
  intro p_ e_ s_ m_ args_ bl_ mt_ c_ A_ Q_ ls hx hb hml hown hts hK hA hD hP hS hl hret
  have hl : lv_has ls 3 [(0, .ref (ad b)), (1, .int (nI p)), (2, .int (nI s))] := hl
  subst r_fr
  refine lv_aload_n hx hb dX7_isLinked_0 rfl (lv_at hl 0 rfl) ?_
  refine lv_iload_n hx hb dX7_isLinked_1 rfl (lv_at hl 2 rfl) ?_
  refine rp_callVI (na := 1) hx hb hml hown hts hK hA hD hP hS hl.1 b (hX7 Hb).1 (kX7 Hb _) rfl [.int (nI s)] (c_X7_hasSaying l D cy ad y z σ b (nI s) Hb) gX7_isLinked_X7_hasSaying rfl (by decide +kernel) rfl ⟨Nat.le_of_ble_eq_true rfl, Nat.le_of_ble_eq_true rfl⟩ ⟨rfl, rfl⟩ ⟨Nat.zero_le _, Nat.zero_le _⟩ rfl (Nat.le_of_ble_eq_true rfl) dX7_isLinked_2 (fun v_ τ_ H locs hq hP hS => ?_)
  obtain ⟨rfl, rfl⟩ := hq
  refine lv_if_eq (tgt := 25) hx hb dX7_isLinked_5 (by decide) (fun c5 => ?_) (fun c5 => ?_)
  · skip
    have c5 := bi_eq0.mp c5
    exact absurd (rg_in (by omega) hs en) c5
  · skip
    have c5 := bi_ne0.mp c5
    refine lv_iload_n hx hb dX7_isLinked_8 rfl (lv_at hl 1 rfl) ?_
    refine lv_aload_n hx hb dX7_isLinked_9 rfl (lv_at hl 0 rfl) ?_
    refine rp_get (C := RX7) (T := TX7) (N := 12) hx hb hts in_X7_isLinked_X7 hown hK hP b (hX7 Hb).1 (kX7 Hb _) rfl 9 (by decide) (by decide +kernel) rfl dX7_isLinked_10 ?_
    refine lv_iload_n hx hb dX7_isLinked_13 rfl (lv_at hl 2 rfl) ?_
    refine rp_iald hx hb hK hP (b + 5) (hX7 Hb).2.2.2.2.2.1 ((kX7_9 Hb) _) 0 rfl s rfl (by omega) (by decide) dX7_isLinked_14 ?_
    refine rp_callSI (na := 2) hx hb hml hown hts hK hA hD hP hS hl.1 [.int (nI p), .int (σ (b + 5) s)] (c_X7_isIn l D cy ad y z σ (nI p) (σ (b + 5) s) ) gX7_isLinked_X7_isIn rfl (by decide +kernel) rfl ⟨Nat.le_of_ble_eq_true rfl, Nat.le_of_ble_eq_true rfl⟩ ⟨rfl, rfl⟩ ⟨Nat.zero_le _, Nat.zero_le _⟩ rfl (Nat.le_of_ble_eq_true rfl) dX7_isLinked_15 (fun v_ τ_ H locs hq hP hS => ?_)
    obtain ⟨rfl, rfl⟩ := hq
    refine lv_if_eq (tgt := 25) hx hb dX7_isLinked_18 (by decide) (fun c18 => ?_) (fun c18 => ?_)
    · skip
      have c18 := bi_eq0.mp c18
      refine lv_iconst (v := 0) hx hb dX7_isLinked_25 (by decide) ?_
      exact hret hP hS dX7_isLinked_26 rfl ⟨(by first | exact bi_f c18 | exact bi_t c18), rfl⟩
    · skip
      have c18 := bi_ne0.mp c18
      refine lv_iconst (v := 1) hx hb dX7_isLinked_21 (by decide) ?_
      refine lv_goto (tgt := 26) hx hb dX7_isLinked_22 (by decide) ?_
      exact hret hP hS dX7_isLinked_26 rfl ⟨(by first | exact bi_f c18 | exact bi_t c18), rfl⟩

def T_X7_addLink_Y (Y : Nat → Int32) (fr : Nat → Int32) (p : Nat) (s : Nat) : Nat → Int32 := upd Y 10 ((Y 10) + 1)
def T_X7_addLink_fr (Y : Nat → Int32) (fr : Nat → Int32) (p : Nat) (s : Nat) : Nat → Int32 := upd fr s ((fr s) ||| ((1 : Int32) <<< ((nI p) &&& 31)))
theorem in_X7_addLink_X7 : ∀ w ∈ u_ws RX7 TX7 12, w ∈ wsX7_addLink := by decide +kernel
set_option maxHeartbeats 1000000 in
set_option maxRecDepth 100000 in
theorem c_X7_addLink (l : Launch) (D : va_G) (cy : Nat → ClassId) (ad : Nat → Nat) (y z : Nat) (σ : Nat → Nat → Int32) (Y : Nat → Int32) (fr : Nat → Int32) (b : Nat) (n : Nat) (p : Nat) (s : Nat) (r_Y : σ b = Y) (r_fr : σ (b + 5) = fr) (Hb : b = 3 ∨ b = 10) (hn : n ≤ 10) (en : Y 5 = nI n) (hp : p < n) (hs : s < n) : MV l D (tysW cy) 109 ad (cfX ad cy y z) yX7_addLink wsX7_addLink ({ frames := 1, cells := 0, slots := 0, locals := 21 }) σ [.ref (ad b), .int (nI p), .int (nI s)] (fun τ_ => (va_up (va_up σ b (T_X7_addLink_Y Y fr p s)) (b + 5) (T_X7_addLink_fr Y fr p s)) = τ_) := by
  refine MV.go (cc := cX7_addLink) (maxL := 3) (by decide) rfl (Nat.le_of_ble_eq_true rfl) ?_
  intro p_ e_ s_ m_ args_ bl_ mt_ c_ A_ Q_ ls hx hb hml hown hts hK hA hD hP hS hl hret
  have hl : lv_has ls 3 [(0, .ref (ad b)), (1, .int (nI p)), (2, .int (nI s))] := hl
  subst r_Y r_fr
  have hP : va_P D classes (rw_ 109 ad (cfX ad cy y z) (va_up (va_up σ b (σ b)) (b + 5) (σ (b + 5)))) s_.heap := by rw [va_selfR _ (b + 5) ((va_Q (by omega))), va_selfR _ b (rfl)]; exact hP
  refine lv_aload_n hx hb dX7_addLink_0 rfl (lv_at hl 0 rfl) ?_
  refine lv_iload_n hx hb dX7_addLink_1 rfl (lv_at hl 1 rfl) ?_
  refine rp_callVI (na := 1) hx hb hml hown hts hK hA hD hP hS hl.1 b (hX7 Hb).1 (kX7 Hb _) rfl [.int (nI p)] (c_X7_hasSaying l D cy ad y z (va_up (va_up σ b (σ b)) (b + 5) (σ (b + 5))) b (nI p) Hb) gX7_addLink_X7_hasSaying rfl (by decide +kernel) rfl ⟨Nat.le_of_ble_eq_true rfl, Nat.le_of_ble_eq_true rfl⟩ ⟨rfl, rfl⟩ ⟨Nat.zero_le _, Nat.zero_le _⟩ rfl (Nat.le_of_ble_eq_true rfl) dX7_addLink_2 (fun v_ τ_ H locs hq hP hS => ?_)
  obtain ⟨rfl, rfl⟩ := hq
  refine lv_if_eq (tgt := 38) hx hb dX7_addLink_5 (by decide) (fun c5 => ?_) (fun c5 => ?_)
  · skip
    have c5 := bi_eq0.mp c5
    exact absurd (rg_in (by omega) hp (((va_R (by omega)).trans va_S').trans en)) c5
  · skip
    have c5 := bi_ne0.mp c5
    refine lv_aload_n hx hb dX7_addLink_8 rfl (lv_at hl 0 rfl) ?_
    refine lv_iload_n hx hb dX7_addLink_9 rfl (lv_at hl 2 rfl) ?_
    refine rp_callVI (na := 1) hx hb hml hown hts hK hA hD hP hS hl.1 b (hX7 Hb).1 (kX7 Hb _) rfl [.int (nI s)] (c_X7_hasSaying l D cy ad y z (va_up (va_up σ b (σ b)) (b + 5) (σ (b + 5))) b (nI s) Hb) gX7_addLink_X7_hasSaying rfl (by decide +kernel) rfl ⟨Nat.le_of_ble_eq_true rfl, Nat.le_of_ble_eq_true rfl⟩ ⟨rfl, rfl⟩ ⟨Nat.zero_le _, Nat.zero_le _⟩ rfl (Nat.le_of_ble_eq_true rfl) dX7_addLink_10 (fun v_ τ_ H locs hq hP hS => ?_)
    obtain ⟨rfl, rfl⟩ := hq
    refine lv_if_eq (tgt := 38) hx hb dX7_addLink_13 (by decide) (fun c13 => ?_) (fun c13 => ?_)
    · skip
      have c13 := bi_eq0.mp c13
      exact absurd (rg_in (by omega) hs (((va_R (by omega)).trans va_S').trans en)) c13
    · skip
      have c13 := bi_ne0.mp c13
      refine lv_aload_n hx hb dX7_addLink_16 rfl (lv_at hl 0 rfl) ?_
      refine rp_get (C := RX7) (T := TX7) (N := 12) hx hb hts in_X7_addLink_X7 hown hK hP b (hX7 Hb).1 (kX7 Hb _) rfl 9 (by decide) (by decide +kernel) rfl dX7_addLink_17 ?_
      refine lv_iload_n hx hb dX7_addLink_20 rfl (lv_at hl 2 rfl) ?_
      refine lv_dup2_11 hx hb dX7_addLink_21 rfl rfl ?_
      refine rp_iald hx hb hK hP (b + 5) (hX7 Hb).2.2.2.2.2.1 ((kX7_9 Hb) _) 0 rfl s rfl (by omega) (by decide) dX7_addLink_22 ?_
      rw [show (va_up (va_up σ b (σ b)) (b + 5) (σ (b + 5))) (b + 5) s = (σ (b + 5) s) from va_S']
      refine lv_iconst (v := 1) hx hb dX7_addLink_23 (by decide) ?_
      refine lv_iload_n hx hb dX7_addLink_24 rfl (lv_at hl 1 rfl) ?_
      refine lv_ishl hx hb dX7_addLink_25 ?_
      refine lv_ior hx hb dX7_addLink_26 ?_
      refine rp_iast (x := ((σ (b + 5) s) ||| ((1 : Int32) <<< ((nI p) &&& 31)))) hx hb hK hP hD hS (b + 5) (hX7 Hb).2.2.2.2.2.1 (fun f => (kX7_9 Hb) f) 0 rfl s rfl (by omega) (by decide) dX7_addLink_27 (fun H locs hP hS => ?_)
      rw [show up2 (va_up (va_up σ b (σ b)) (b + 5) (σ (b + 5))) (b + 5) s ((σ (b + 5) s) ||| ((1 : Int32) <<< ((nI p) &&& 31))) = va_up (va_up σ b (σ b)) (b + 5) (upd (σ (b + 5)) s ((σ (b + 5) s) ||| ((1 : Int32) <<< ((nI p) &&& 31)))) from (vu_up _ _ _ _ _)] at hP
      refine lv_aload_n hx hb dX7_addLink_28 rfl (lv_at hl 0 rfl) ?_
      refine lv_dup hx hb dX7_addLink_29 rfl ?_
      refine rp_get (C := RX7) (T := TX7) (N := 12) hx hb hts in_X7_addLink_X7 hown hK hP b (hX7 Hb).1 (kX7 Hb _) rfl 10 (by decide) (by decide +kernel) rfl dX7_addLink_30 ?_
      rw [show (va_up (va_up σ b (σ b)) (b + 5) (upd (σ (b + 5)) s ((σ (b + 5) s) ||| ((1 : Int32) <<< ((nI p) &&& 31))))) b 10 = (σ b 10) from ((va_R (by omega)).trans va_S')]
      refine lv_iconst (v := 1) hx hb dX7_addLink_33 (by decide) ?_
      refine lv_iadd hx hb dX7_addLink_34 ?_
      refine rp_put (C := RX7) (T := TX7) (N := 12) (v := ((σ b 10) + 1)) hx hb hts in_X7_addLink_X7 tyX7 tyX7_ok nmX7 hown hK hP hD hS b (hX7 Hb).1 (kX7 Hb _) rfl 10 (by decide) (by decide +kernel) rfl rfl rfl (Nat.le_of_ble_eq_true rfl) (kX7 Hb _) dX7_addLink_35 (fun H locs hP hS => ?_)
      rw [show up2 (va_up (va_up σ b (σ b)) (b + 5) (upd (σ (b + 5)) s ((σ (b + 5) s) ||| ((1 : Int32) <<< ((nI p) &&& 31))))) b 10 ((σ b 10) + 1) = va_up (va_up σ b (upd (σ b) 10 ((σ b 10) + 1))) (b + 5) (upd (σ (b + 5)) s ((σ (b + 5) s) ||| ((1 : Int32) <<< ((nI p) &&& 31)))) from ((up2_in (by omega)).trans (congrArg (fun z => va_up z (b + 5) _) (vu_up _ _ _ _ _)))] at hP
      exact hret hP hS dX7_addLink_38 (by unfold T_X7_addLink_Y T_X7_addLink_fr <;> rfl)

def T_X5_tally_RI (RI : Nat → Int32) (WI : Nat → Int32) (u : Int32) : Nat → Int32 := upd (upd RI 0 ((RI 0) + 1)) 1 ((RI 1) &&& u)
def T_X5_tally_WI (RI : Nat → Int32) (WI : Nat → Int32) (u : Int32) : Nat → Int32 := tlN WI u 10
theorem in_X5_tally_X5 : ∀ w ∈ u_ws RX5 TX5 3, w ∈ wsX5_tally := by decide +kernel
set_option maxHeartbeats 1000000 in
set_option maxRecDepth 100000 in
theorem c_X5_tally (l : Launch) (D : va_G) (cy : Nat → ClassId) (ad : Nat → Nat) (y z : Nat) (σ : Nat → Nat → Int32) (RI : Nat → Int32) (WI : Nat → Int32) (u : Int32) (r_RI : σ 27 = RI) (r_WI : σ 28 = WI) : MV l D (tysW cy) 109 ad (cfX ad cy y z) yX5_tally wsX5_tally ({ frames := 0, cells := 0, slots := 0, locals := 0 }) σ [.ref (ad 27), .int u] (fun τ_ => (va_up (va_up σ 27 (T_X5_tally_RI RI WI u)) 28 (T_X5_tally_WI RI WI u)) = τ_) := by
  refine MV.go (cc := cX5_tally) (maxL := 3) (by decide) rfl (Nat.le_of_ble_eq_true rfl) ?_
  intro p_ e_ s_ m_ args_ bl_ mt_ c_ A_ Q_ ls hx hb hml hown hts hK hA hD hP hS hl hret
  have hl : lv_has ls 3 [(0, .ref (ad 27)), (1, .int u)] := hl
  subst r_RI r_WI
  have hP : va_P D classes (rw_ 109 ad (cfX ad cy y z) (va_up (va_up σ 27 (σ 27)) 28 (σ 28))) s_.heap := by rw [va_selfR _ 28 ((va_Q (by decide))), va_selfR _ 27 (rfl)]; exact hP
  refine lv_aload_n hx hb dX5_tally_0 rfl (lv_at hl 0 rfl) ?_
  refine lv_dup hx hb dX5_tally_1 rfl ?_
  refine rp_get (C := RX5) (T := TX5) (N := 3) hx hb hts in_X5_tally_X5 hown hK hP 27 (by decide) (kX5 _) rfl 0 (by decide) (by decide +kernel) rfl dX5_tally_2 ?_
  rw [show (va_up (va_up σ 27 (σ 27)) 28 (σ 28)) 27 0 = (σ 27 0) from ((va_R (by decide)).trans va_S')]
  refine lv_iconst (v := 1) hx hb dX5_tally_5 (by decide) ?_
  refine lv_iadd hx hb dX5_tally_6 ?_
  refine rp_put (C := RX5) (T := TX5) (N := 3) (v := ((σ 27 0) + 1)) hx hb hts in_X5_tally_X5 tyX5 tyX5_ok nmX5 hown hK hP hD hS 27 (by decide) (kX5 _) rfl 0 (by decide) (by decide +kernel) rfl rfl rfl (Nat.le_of_ble_eq_true rfl) (kX5 _) dX5_tally_7 (fun H locs hP hS => ?_)
  rw [show up2 (va_up (va_up σ 27 (σ 27)) 28 (σ 28)) 27 0 ((σ 27 0) + 1) = va_up (va_up σ 27 (upd (σ 27) 0 ((σ 27 0) + 1))) 28 (σ 28) from ((up2_in (by decide)).trans (congrArg (fun z => va_up z 28 _) (vu_up _ _ _ _ _)))] at hP
  refine lv_aload_n hx hb dX5_tally_10 rfl (lv_at hl 0 rfl) ?_
  refine lv_dup hx hb dX5_tally_11 rfl ?_
  refine rp_get (C := RX5) (T := TX5) (N := 3) hx hb hts in_X5_tally_X5 hown hK hP 27 (by decide) (kX5 _) rfl 1 (by decide) (by decide +kernel) rfl dX5_tally_12 ?_
  rw [show (va_up (va_up σ 27 (upd (σ 27) 0 ((σ 27 0) + 1))) 28 (σ 28)) 27 1 = (σ 27 1) from ((va_R (by decide)).trans (va_S'.trans (pk_un (by decide))))]
  refine lv_iload_n hx hb dX5_tally_15 rfl (lv_at hl 1 rfl) ?_
  refine lv_iand hx hb dX5_tally_16 ?_
  refine rp_put (C := RX5) (T := TX5) (N := 3) (v := ((σ 27 1) &&& u)) hx hb hts in_X5_tally_X5 tyX5 tyX5_ok nmX5 hown hK hP hD hS 27 (by decide) (kX5 _) rfl 1 (by decide) (by decide +kernel) rfl rfl rfl (Nat.le_of_ble_eq_true rfl) (kX5 _) dX5_tally_17 (fun H locs hP hS => ?_)
  rw [show up2 (va_up (va_up σ 27 (upd (σ 27) 0 ((σ 27 0) + 1))) 28 (σ 28)) 27 1 ((σ 27 1) &&& u) = va_up (va_up σ 27 (upd (upd (σ 27) 0 ((σ 27 0) + 1)) 1 ((σ 27 1) &&& u))) 28 (σ 28) from ((up2_in (by decide)).trans (congrArg (fun z => va_up z 28 _) (vu_up _ _ _ _ _)))] at hP
  refine lv_iconst (v := 0) hx hb dX5_tally_20 (by decide) ?_
  refine lv_istore_n (lv' := [(2, .int 0), (0, .ref (ad 27)), (1, .int u)]) hx hb dX5_tally_21 rfl hl (by decide) rfl (fun ls hl => ?_)
  have L22 : ∀ (fu22 : Nat) (c : Nat), (c ≤ 10) → 10 - c < fu22 → ∀ (x2 : Int32) (τ : Nat → Nat → Int32) (H : Heap) (locs : List Loc) (ls : Array Slot), (nI c) = x2 → (va_up (va_up σ 27 (upd (upd (σ 27) 0 ((σ 27 0) + 1)) 1 ((σ 27 1) &&& u))) 28 (tlN (σ 28) u c)) = τ → va_P D classes (rw_ 109 ad (cfX ad cy y z) τ) H → va_S A_ s_.heap H locs → lv_has ls 3 [(2, .int x2), (0, .ref (ad 27)), (1, .int u)] → W p_ l e_ ({ frames := 0, cells := 0, slots := 0, locals := 0 }) s_ m_ args_ bl_ mt_ c_ H locs 0 0 Q_ (F0 m_ 22 ls []) := by
    intro fu22
    induction fu22 with
    | zero => intro c hc hf; exact absurd hf (Nat.not_lt_zero _)
    | succ fu22 ih22 =>
      intro c hc hf22 x2 τ H locs ls ex2 eτ hP hS hl
      subst ex2
      subst eτ
      refine lv_iload_n hx hb dX5_tally_22 rfl (lv_at hl 0 rfl) ?_
      refine lv_bipush (v := 10) hx hb dX5_tally_23 (by decide) ?_
      refine lv_icmp_ge (tgt := 48) hx hb dX5_tally_25 (by decide) (fun c25 => ?_) (fun c25 => ?_)
      · skip
        have ec : c = 10 := cl_ex hc (by omega) c25
        exact hret hP hS dX5_tally_48 (by unfold T_X5_tally_RI T_X5_tally_WI <;> simp only [ec])
      · skip
        have hc2 : c < 10 := cl_in (by omega) (by omega) c25
        refine lv_aload_n hx hb dX5_tally_28 rfl (lv_at hl 1 rfl) ?_
        refine rp_get (C := RX5) (T := TX5) (N := 3) hx hb hts in_X5_tally_X5 hown hK hP 27 (by decide) (kX5 _) rfl 2 (by decide) (by decide +kernel) rfl dX5_tally_29 ?_
        refine lv_iload_n hx hb dX5_tally_32 rfl (lv_at hl 0 rfl) ?_
        refine lv_dup2_11 hx hb dX5_tally_33 rfl rfl ?_
        refine rp_iald hx hb hK hP 28 (by decide) (kX5_2 _) 0 rfl c rfl (by omega) (by decide) dX5_tally_34 ?_
        rw [show (va_up (va_up σ 27 (upd (upd (σ 27) 0 ((σ 27 0) + 1)) 1 ((σ 27 1) &&& u))) 28 (tlN (σ 28) u c)) 28 c = ((tlN (σ 28) u c) c) from va_S']
        rw [tlN_at _ _ (Nat.le_refl c)]
        refine lv_iload_n hx hb dX5_tally_35 rfl (lv_at hl 2 rfl) ?_
        refine lv_iload_n hx hb dX5_tally_36 rfl (lv_at hl 0 rfl) ?_
        refine lv_ishr hx hb dX5_tally_37 ?_
        refine lv_iconst (v := 1) hx hb dX5_tally_38 (by decide) ?_
        refine lv_iand hx hb dX5_tally_39 ?_
        refine lv_iadd hx hb dX5_tally_40 ?_
        refine rp_iast (x := ((σ 28 c) + ((u >>> ((nI c) &&& 31)) &&& 1))) hx hb hK hP hD hS 28 (by decide) (fun f => kX5_2 f) 0 rfl c rfl (by omega) (by decide) dX5_tally_41 (fun H locs hP hS => ?_)
        rw [show up2 (va_up (va_up σ 27 (upd (upd (σ 27) 0 ((σ 27 0) + 1)) 1 ((σ 27 1) &&& u))) 28 (tlN (σ 28) u c)) 28 c ((σ 28 c) + ((u >>> ((nI c) &&& 31)) &&& 1)) = va_up (va_up σ 27 (upd (upd (σ 27) 0 ((σ 27 0) + 1)) 1 ((σ 27 1) &&& u))) 28 (upd (tlN (σ 28) u c) c ((σ 28 c) + ((u >>> ((nI c) &&& 31)) &&& 1))) from (vu_up _ _ _ _ _)] at hP
        refine lv_iinc (v := ((nI c) + 1)) (lv' := [(2, .int ((nI c) + 1)), (0, .ref (ad 27)), (1, .int u)]) hx hb dX5_tally_42 hl (k := 0) rfl rfl (by decide) rfl (fun ls hl => ?_)
        refine lv_goto (tgt := 22) hx hb dX5_tally_45 (by decide) ?_
        exact ih22 (c + 1) (by omega) (by omega) _ _ _ _ _ ((nI_1 c).symm) (by rw [tlN_s]) hP hS (lv_sub hl [0, 1, 2] rfl)
  exact L22 ((10 - 0) + 1) 0 (Nat.zero_le _) (Nat.lt_succ_self _) _ _ _ _ _ (by first | rfl | simp [*]) (by rw [tlN_0]) hP hS (lv_sub hl [0, 1, 2] rfl)
