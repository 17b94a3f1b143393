def wX0 (cy : Nat → ClassId) (h0 q7 q15 : Nat) : va_W := [(h0, .inr (0, [.int 0, .ref q7, .ref q15])), (q7, .inl (cy 0, 15, .inl (fun _ => 0))), (q15, .inl (cy 1, 15, .inl (fun _ => 0)))]
theorem in_X0_init_X0 : ∀ w ∈ u_ws RX0 TX0 3, w ∈ wsX0_init := by decide +kernel
set_option maxHeartbeats 1000000 in
set_option maxRecDepth 100000 in
theorem c_X0_init (l : Launch) (D : va_G) (cy : Nat → ClassId) (h0 : Nat) : MC l D cy yX0_init wsX0_init ({ frames := 1, cells := 2, slots := 30, locals := 12 }) h0 (.inr (0, [.int 0, .null, .null])) 2 30 (fun u => ∃ q7 q15 : Nat, u = wX0 cy h0 q7 q15) := by
  refine MC.go (cc := cX0_init) (maxL := 1) (by decide) rfl rfl (Nat.le_of_ble_eq_true rfl) ?_
  intro p_ e_ s_ m_ args_ bl_ mt_ c_ A_ Q_ ls hx hb hml hin hown hts hK hN hA hD hP hS hl hret
  refine lv_aload_n hx hb dX0_init_0 rfl (lv_at hl 0 rfl) ?_
  refine W.objInit hx hb hown (hts (.methodLink RX0 3 objectInit) (by decide +kernel)) (hts (.instanceMethod objectInit) (by decide +kernel)) (hts (.code objectInit ⟨#[0xb1]⟩ 1 none) (List.mem_of_getElem? (i := 3) rfl)) rfl (by rw [hml]; exact hl.1) rfl dX0_init_1 (Nat.le_of_ble_eq_true rfl) (Nat.le_of_ble_eq_true rfl) ?_
  refine W.eq (g2 := F0 m_ 4 ls []) rfl ?_
  refine lv_aload_n hx hb dX0_init_4 rfl (lv_at hl 0 rfl) ?_
  refine lv_bipush (v := 15) hx hb dX0_init_5 (by decide) ?_
  refine rp_newI (N' := 15) hx hb (hts (.arrayClass .int) (by decide +kernel)) hK hP hD hS hA (by decide) (by decide) (by decide) (Nat.le_of_ble_eq_true rfl) (Nat.le_of_ble_eq_true rfl) dX0_init_7 (fun q7 H hP hD hS => ?_)
  have hP : va_P D classes [(h0, .inr (0, [.int 0, .null, .null])), (q7, .inl (cy 0, 15, .inl (fun _ => 0)))] H := hP
  have hD : va_D A_ [(h0, .inr (0, [.int 0, .null, .null])), (q7, .inl (cy 0, 15, .inl (fun _ => 0)))] := hD
  refine W.widen (k := 1) (n := 15) (by omega) (by omega) ?_
  refine va_putF (C := RX0) (T := TX0) (N := 3) hx hb hts in_X0_init_X0 tyX0 tyX0_ok nmX0 hown hK hP hD hS 0 rfl rfl 1 (by decide) (hts (.fieldLink RX0 9 "UnsaidWell$Book" "sayings" "[I") (by decide +kernel)) (fun _ h => h) rfl hin rfl (tyX0_ok 1 (by decide)) rfl rfl (Nat.le_of_ble_eq_true rfl) dX0_init_9 (fun H locs hP hD hS => ?_)
  have hP : va_P D classes [(h0, .inr (0, [.int 0, .ref q7, .null])), (q7, .inl (cy 0, 15, .inl (fun _ => 0)))] H := hP
  have hD : va_D A_ [(h0, .inr (0, [.int 0, .ref q7, .null])), (q7, .inl (cy 0, 15, .inl (fun _ => 0)))] := hD
  refine lv_aload_n hx hb dX0_init_12 rfl (lv_at hl 0 rfl) ?_
  refine lv_bipush (v := 15) hx hb dX0_init_13 (by decide) ?_
  refine rp_newZ (N' := 15) hx hb (hts (.arrayClass .boolean) (by decide +kernel)) hK hP hD hS hA (by decide) (by decide) (by decide) (Nat.le_of_ble_eq_true rfl) (Nat.le_of_ble_eq_true rfl) dX0_init_15 (fun q15 H hP hD hS => ?_)
  have hP : va_P D classes [(h0, .inr (0, [.int 0, .ref q7, .null])), (q7, .inl (cy 0, 15, .inl (fun _ => 0))), (q15, .inl (cy 1, 15, .inl (fun _ => 0)))] H := hP
  have hD : va_D A_ [(h0, .inr (0, [.int 0, .ref q7, .null])), (q7, .inl (cy 0, 15, .inl (fun _ => 0))), (q15, .inl (cy 1, 15, .inl (fun _ => 0)))] := hD
  refine W.widen (k := 2) (n := 30) (by omega) (by omega) ?_
  refine va_putF (C := RX0) (T := TX0) (N := 3) hx hb hts in_X0_init_X0 tyX0 tyX0_ok nmX0 hown hK hP hD hS 0 rfl rfl 2 (by decide) (hts (.fieldLink RX0 15 "UnsaidWell$Book" "holds" "[Z") (by decide +kernel)) (fun _ h => h) rfl hin rfl (tyX0_ok 2 (by decide)) rfl rfl (Nat.le_of_ble_eq_true rfl) dX0_init_17 (fun H locs hP hD hS => ?_)
  have hP : va_P D classes [(h0, .inr (0, [.int 0, .ref q7, .ref q15])), (q7, .inl (cy 0, 15, .inl (fun _ => 0))), (q15, .inl (cy 1, 15, .inl (fun _ => 0)))] H := hP
  have hD : va_D A_ [(h0, .inr (0, [.int 0, .ref q7, .ref q15])), (q7, .inl (cy 0, 15, .inl (fun _ => 0))), (q15, .inl (cy 1, 15, .inl (fun _ => 0)))] := hD
  exact hret hP hD hS dX0_init_20 ⟨q7, q15, rfl⟩

def wX1 (cy : Nat → ClassId) (h0 : Nat) : va_W := [(h0, .inr (1, [.int 0]))]
set_option maxHeartbeats 1000000 in
set_option maxRecDepth 100000 in
theorem c_X1_init (l : Launch) (D : va_G) (cy : Nat → ClassId) (h0 : Nat) : MC l D cy yX1_init wsX1_init ({ frames := 1, cells := 0, slots := 0, locals := 12 }) h0 (.inr (1, [.int 0])) 0 0 (fun u => u = wX1 cy h0 ) := by
  refine MC.go (cc := cX1_init) (maxL := 1) (by decide) rfl rfl (Nat.le_of_ble_eq_true rfl) ?_
  intro p_ e_ s_ m_ args_ bl_ mt_ c_ A_ Q_ ls hx hb hml hin hown hts hK hN hA hD hP hS hl hret
  refine lv_aload_n hx hb dX1_init_0 rfl (lv_at hl 0 rfl) ?_
  refine W.objInit hx hb hown (hts (.methodLink RX1 1 objectInit) (by decide +kernel)) (hts (.instanceMethod objectInit) (by decide +kernel)) (hts (.code objectInit ⟨#[0xb1]⟩ 1 none) (List.mem_of_getElem? (i := 3) rfl)) rfl (by rw [hml]; exact hl.1) rfl dX1_init_1 (Nat.le_of_ble_eq_true rfl) (Nat.le_of_ble_eq_true rfl) ?_
  refine W.eq (g2 := F0 m_ 4 ls []) rfl ?_
  exact hret hP hD hS dX1_init_4 rfl

def wX4 (cy : Nat → ClassId) (h0 q8 : Nat) : va_W := [(h0, .inr (4, [.ref q8, .int 0, .int (-1), .int 0, .int 0, .int 0])), (q8, .inl (cy 0, 240, .inl (fun _ => 0)))]
theorem in_X4_init_X4 : ∀ w ∈ u_ws RX4 TX4 6, w ∈ wsX4_init := by decide +kernel
set_option maxHeartbeats 1000000 in
set_option maxRecDepth 100000 in
theorem c_X4_init (l : Launch) (D : va_G) (cy : Nat → ClassId) (h0 : Nat) : MC l D cy yX4_init wsX4_init ({ frames := 1, cells := 1, slots := 240, locals := 12 }) h0 (.inr (4, [.null, .int 0, .int 0, .int 0, .int 0, .int 0])) 1 240 (fun u => ∃ q8 : Nat, u = wX4 cy h0 q8) := by
  refine MC.go (cc := cX4_init) (maxL := 1) (by decide) rfl rfl (Nat.le_of_ble_eq_true rfl) ?_
  intro p_ e_ s_ m_ args_ bl_ mt_ c_ A_ Q_ ls hx hb hml hin hown hts hK hN hA hD hP hS hl hret
  refine lv_aload_n hx hb dX4_init_0 rfl (lv_at hl 0 rfl) ?_
  refine W.objInit hx hb hown (hts (.methodLink RX4 3 objectInit) (by decide +kernel)) (hts (.instanceMethod objectInit) (by decide +kernel)) (hts (.code objectInit ⟨#[0xb1]⟩ 1 none) (List.mem_of_getElem? (i := 3) rfl)) rfl (by rw [hml]; exact hl.1) rfl dX4_init_1 (Nat.le_of_ble_eq_true rfl) (Nat.le_of_ble_eq_true rfl) ?_
  refine W.eq (g2 := F0 m_ 4 ls []) rfl ?_
  refine lv_aload_n hx hb dX4_init_4 rfl (lv_at hl 0 rfl) ?_
  refine lv_sipush (v := 240) hx hb dX4_init_5 (by decide) ?_
  refine rp_newI (N' := 240) hx hb (hts (.arrayClass .int) (by decide +kernel)) hK hP hD hS hA (by decide) (by decide) (by decide) (Nat.le_of_ble_eq_true rfl) (Nat.le_of_ble_eq_true rfl) dX4_init_8 (fun q8 H hP hD hS => ?_)
  have hP : va_P D classes [(h0, .inr (4, [.null, .int 0, .int 0, .int 0, .int 0, .int 0])), (q8, .inl (cy 0, 240, .inl (fun _ => 0)))] H := hP
  have hD : va_D A_ [(h0, .inr (4, [.null, .int 0, .int 0, .int 0, .int 0, .int 0])), (q8, .inl (cy 0, 240, .inl (fun _ => 0)))] := hD
  refine W.widen (k := 1) (n := 240) (by omega) (by omega) ?_
  refine va_putF (C := RX4) (T := TX4) (N := 6) hx hb hts in_X4_init_X4 tyX4 tyX4_ok nmX4 hown hK hP hD hS 0 rfl rfl 0 (by decide) (hts (.fieldLink RX4 9 "UnsaidWell$Reader" "letters" "[I") (by decide +kernel)) (fun _ h => h) rfl hin rfl (tyX4_ok 0 (by decide)) rfl rfl (Nat.le_of_ble_eq_true rfl) dX4_init_10 (fun H locs hP hD hS => ?_)
  have hP : va_P D classes [(h0, .inr (4, [.ref q8, .int 0, .int 0, .int 0, .int 0, .int 0])), (q8, .inl (cy 0, 240, .inl (fun _ => 0)))] H := hP
  have hD : va_D A_ [(h0, .inr (4, [.ref q8, .int 0, .int 0, .int 0, .int 0, .int 0])), (q8, .inl (cy 0, 240, .inl (fun _ => 0)))] := hD
  refine lv_aload_n hx hb dX4_init_13 rfl (lv_at hl 0 rfl) ?_
  refine lv_iconst (v := (-1)) hx hb dX4_init_14 (by decide) ?_
  refine va_put (C := RX4) (T := TX4) (N := 6) hx hb hts in_X4_init_X4 tyX4 tyX4_ok nmX4 hown hK hP hD hS 0 rfl rfl 2 (by decide) (hts (.fieldLink RX4 15 "UnsaidWell$Reader" "faultAt" "I") (by decide +kernel)) (fun _ h => h) rfl (tyX4_ok 2 (by decide)) rfl rfl (Nat.le_of_ble_eq_true rfl) dX4_init_15 (fun H locs hP hD hS => ?_)
  have hP : va_P D classes [(h0, .inr (4, [.ref q8, .int 0, .int (-1), .int 0, .int 0, .int 0])), (q8, .inl (cy 0, 240, .inl (fun _ => 0)))] H := hP
  have hD : va_D A_ [(h0, .inr (4, [.ref q8, .int 0, .int (-1), .int 0, .int 0, .int 0])), (q8, .inl (cy 0, 240, .inl (fun _ => 0)))] := hD
  exact hret hP hD hS dX4_init_18 ⟨q8, rfl⟩

def wX5 (cy : Nat → ClassId) (h0 q7 : Nat) : va_W := [(h0, .inr (5, [.int 0, .int 0, .ref q7])), (q7, .inl (cy 0, 10, .inl (fun _ => 0)))]
theorem in_X5_init_X5 : ∀ w ∈ u_ws RX5 TX5 3, w ∈ wsX5_init := by decide +kernel
set_option maxHeartbeats 1000000 in
set_option maxRecDepth 100000 in
theorem c_X5_init (l : Launch) (D : va_G) (cy : Nat → ClassId) (h0 : Nat) : MC l D cy yX5_init wsX5_init ({ frames := 1, cells := 1, slots := 10, locals := 12 }) h0 (.inr (5, [.int 0, .int 0, .null])) 1 10 (fun u => ∃ q7 : Nat, u = wX5 cy h0 q7) := by
  refine MC.go (cc := cX5_init) (maxL := 1) (by decide) rfl rfl (Nat.le_of_ble_eq_true rfl) ?_
  intro p_ e_ s_ m_ args_ bl_ mt_ c_ A_ Q_ ls hx hb hml hin hown hts hK hN hA hD hP hS hl hret
  refine lv_aload_n hx hb dX5_init_0 rfl (lv_at hl 0 rfl) ?_
  refine W.objInit hx hb hown (hts (.methodLink RX5 3 objectInit) (by decide +kernel)) (hts (.instanceMethod objectInit) (by decide +kernel)) (hts (.code objectInit ⟨#[0xb1]⟩ 1 none) (List.mem_of_getElem? (i := 3) rfl)) rfl (by rw [hml]; exact hl.1) rfl dX5_init_1 (Nat.le_of_ble_eq_true rfl) (Nat.le_of_ble_eq_true rfl) ?_
  refine W.eq (g2 := F0 m_ 4 ls []) rfl ?_
  refine lv_aload_n hx hb dX5_init_4 rfl (lv_at hl 0 rfl) ?_
  refine lv_bipush (v := 10) hx hb dX5_init_5 (by decide) ?_
  refine rp_newI (N' := 10) hx hb (hts (.arrayClass .int) (by decide +kernel)) hK hP hD hS hA (by decide) (by decide) (by decide) (Nat.le_of_ble_eq_true rfl) (Nat.le_of_ble_eq_true rfl) dX5_init_7 (fun q7 H hP hD hS => ?_)
  have hP : va_P D classes [(h0, .inr (5, [.int 0, .int 0, .null])), (q7, .inl (cy 0, 10, .inl (fun _ => 0)))] H := hP
  have hD : va_D A_ [(h0, .inr (5, [.int 0, .int 0, .null])), (q7, .inl (cy 0, 10, .inl (fun _ => 0)))] := hD
  refine W.widen (k := 1) (n := 10) (by omega) (by omega) ?_
  refine va_putF (C := RX5) (T := TX5) (N := 3) hx hb hts in_X5_init_X5 tyX5 tyX5_ok nmX5 hown hK hP hD hS 0 rfl rfl 2 (by decide) (hts (.fieldLink RX5 9 "UnsaidWell$Riddle" "with" "[I") (by decide +kernel)) (fun _ h => h) rfl hin rfl (tyX5_ok 2 (by decide)) rfl rfl (Nat.le_of_ble_eq_true rfl) dX5_init_9 (fun H locs hP hD hS => ?_)
  have hP : va_P D classes [(h0, .inr (5, [.int 0, .int 0, .ref q7])), (q7, .inl (cy 0, 10, .inl (fun _ => 0)))] H := hP
  have hD : va_D A_ [(h0, .inr (5, [.int 0, .int 0, .ref q7])), (q7, .inl (cy 0, 10, .inl (fun _ => 0)))] := hD
  exact hret hP hD hS dX5_init_12 ⟨q7, rfl⟩

def wX6 (cy : Nat → ClassId) (h0 q7 q15 q23 : Nat) : va_W := [(h0, .inr (6, [.int 0, .int 0, .int 0, .int 0, .int 0, .int 0, .ref q7, .int 0, .ref q15, .ref q23])), (q7, .inl (cy 0, 10, .inl (fun _ => 0))), (q15, .inl (cy 0, 6, .inl (fun _ => 0))), (q23, .inl (cy 0, 6, .inl (fun _ => 0)))]
theorem in_X6_init_X6 : ∀ w ∈ u_ws RX6 TX6 10, w ∈ wsX6_init := by decide +kernel
set_option maxHeartbeats 1000000 in
set_option maxRecDepth 100000 in
theorem c_X6_init (l : Launch) (D : va_G) (cy : Nat → ClassId) (h0 : Nat) : MC l D cy yX6_init wsX6_init ({ frames := 1, cells := 3, slots := 22, locals := 12 }) h0 (.inr (6, [.int 0, .int 0, .int 0, .int 0, .int 0, .int 0, .null, .int 0, .null, .null])) 3 22 (fun u => ∃ q7 q15 q23 : Nat, u = wX6 cy h0 q7 q15 q23) := by
  refine MC.go (cc := cX6_init) (maxL := 1) (by decide) rfl rfl (Nat.le_of_ble_eq_true rfl) ?_
  intro p_ e_ s_ m_ args_ bl_ mt_ c_ A_ Q_ ls hx hb hml hin hown hts hK hN hA hD hP hS hl hret
  refine lv_aload_n hx hb dX6_init_0 rfl (lv_at hl 0 rfl) ?_
  refine W.objInit hx hb hown (hts (.methodLink RX6 3 objectInit) (by decide +kernel)) (hts (.instanceMethod objectInit) (by decide +kernel)) (hts (.code objectInit ⟨#[0xb1]⟩ 1 none) (List.mem_of_getElem? (i := 3) rfl)) rfl (by rw [hml]; exact hl.1) rfl dX6_init_1 (Nat.le_of_ble_eq_true rfl) (Nat.le_of_ble_eq_true rfl) ?_
  refine W.eq (g2 := F0 m_ 4 ls []) rfl ?_
  refine lv_aload_n hx hb dX6_init_4 rfl (lv_at hl 0 rfl) ?_
  refine lv_bipush (v := 10) hx hb dX6_init_5 (by decide) ?_
  refine rp_newI (N' := 10) hx hb (hts (.arrayClass .int) (by decide +kernel)) hK hP hD hS hA (by decide) (by decide) (by decide) (Nat.le_of_ble_eq_true rfl) (Nat.le_of_ble_eq_true rfl) dX6_init_7 (fun q7 H hP hD hS => ?_)
  have hP : va_P D classes [(h0, .inr (6, [.int 0, .int 0, .int 0, .int 0, .int 0, .int 0, .null, .int 0, .null, .null])), (q7, .inl (cy 0, 10, .inl (fun _ => 0)))] H := hP
  have hD : va_D A_ [(h0, .inr (6, [.int 0, .int 0, .int 0, .int 0, .int 0, .int 0, .null, .int 0, .null, .null])), (q7, .inl (cy 0, 10, .inl (fun _ => 0)))] := hD
  refine W.widen (k := 1) (n := 10) (by omega) (by omega) ?_
  refine va_putF (C := RX6) (T := TX6) (N := 10) hx hb hts in_X6_init_X6 tyX6 tyX6_ok nmX6 hown hK hP hD hS 0 rfl rfl 6 (by decide) (hts (.fieldLink RX6 9 "UnsaidWell$Well" "wet" "[I") (by decide +kernel)) (fun _ h => h) rfl hin rfl (tyX6_ok 6 (by decide)) rfl rfl (Nat.le_of_ble_eq_true rfl) dX6_init_9 (fun H locs hP hD hS => ?_)
  have hP : va_P D classes [(h0, .inr (6, [.int 0, .int 0, .int 0, .int 0, .int 0, .int 0, .ref q7, .int 0, .null, .null])), (q7, .inl (cy 0, 10, .inl (fun _ => 0)))] H := hP
  have hD : va_D A_ [(h0, .inr (6, [.int 0, .int 0, .int 0, .int 0, .int 0, .int 0, .ref q7, .int 0, .null, .null])), (q7, .inl (cy 0, 10, .inl (fun _ => 0)))] := hD
  refine lv_aload_n hx hb dX6_init_12 rfl (lv_at hl 0 rfl) ?_
  refine lv_bipush (v := 6) hx hb dX6_init_13 (by decide) ?_
  refine rp_newI (N' := 6) hx hb (hts (.arrayClass .int) (by decide +kernel)) hK hP hD hS hA (by decide) (by decide) (by decide) (Nat.le_of_ble_eq_true rfl) (Nat.le_of_ble_eq_true rfl) dX6_init_15 (fun q15 H hP hD hS => ?_)
  have hP : va_P D classes [(h0, .inr (6, [.int 0, .int 0, .int 0, .int 0, .int 0, .int 0, .ref q7, .int 0, .null, .null])), (q7, .inl (cy 0, 10, .inl (fun _ => 0))), (q15, .inl (cy 0, 6, .inl (fun _ => 0)))] H := hP
  have hD : va_D A_ [(h0, .inr (6, [.int 0, .int 0, .int 0, .int 0, .int 0, .int 0, .ref q7, .int 0, .null, .null])), (q7, .inl (cy 0, 10, .inl (fun _ => 0))), (q15, .inl (cy 0, 6, .inl (fun _ => 0)))] := hD
  refine W.widen (k := 2) (n := 16) (by omega) (by omega) ?_
  refine va_putF (C := RX6) (T := TX6) (N := 10) hx hb hts in_X6_init_X6 tyX6 tyX6_ok nmX6 hown hK hP hD hS 0 rfl rfl 8 (by decide) (hts (.fieldLink RX6 15 "UnsaidWell$Well" "queuedPersons" "[I") (by decide +kernel)) (fun _ h => h) rfl hin rfl (tyX6_ok 8 (by decide)) rfl rfl (Nat.le_of_ble_eq_true rfl) dX6_init_17 (fun H locs hP hD hS => ?_)
  have hP : va_P D classes [(h0, .inr (6, [.int 0, .int 0, .int 0, .int 0, .int 0, .int 0, .ref q7, .int 0, .ref q15, .null])), (q7, .inl (cy 0, 10, .inl (fun _ => 0))), (q15, .inl (cy 0, 6, .inl (fun _ => 0)))] H := hP
  have hD : va_D A_ [(h0, .inr (6, [.int 0, .int 0, .int 0, .int 0, .int 0, .int 0, .ref q7, .int 0, .ref q15, .null])), (q7, .inl (cy 0, 10, .inl (fun _ => 0))), (q15, .inl (cy 0, 6, .inl (fun _ => 0)))] := hD
  refine lv_aload_n hx hb dX6_init_20 rfl (lv_at hl 0 rfl) ?_
  refine lv_bipush (v := 6) hx hb dX6_init_21 (by decide) ?_
  refine rp_newI (N' := 6) hx hb (hts (.arrayClass .int) (by decide +kernel)) hK hP hD hS hA (by decide) (by decide) (by decide) (Nat.le_of_ble_eq_true rfl) (Nat.le_of_ble_eq_true rfl) dX6_init_23 (fun q23 H hP hD hS => ?_)
  have hP : va_P D classes [(h0, .inr (6, [.int 0, .int 0, .int 0, .int 0, .int 0, .int 0, .ref q7, .int 0, .ref q15, .null])), (q7, .inl (cy 0, 10, .inl (fun _ => 0))), (q15, .inl (cy 0, 6, .inl (fun _ => 0))), (q23, .inl (cy 0, 6, .inl (fun _ => 0)))] H := hP
  have hD : va_D A_ [(h0, .inr (6, [.int 0, .int 0, .int 0, .int 0, .int 0, .int 0, .ref q7, .int 0, .ref q15, .null])), (q7, .inl (cy 0, 10, .inl (fun _ => 0))), (q15, .inl (cy 0, 6, .inl (fun _ => 0))), (q23, .inl (cy 0, 6, .inl (fun _ => 0)))] := hD
  refine W.widen (k := 3) (n := 22) (by omega) (by omega) ?_
  refine va_putF (C := RX6) (T := TX6) (N := 10) hx hb hts in_X6_init_X6 tyX6 tyX6_ok nmX6 hown hK hP hD hS 0 rfl rfl 9 (by decide) (hts (.fieldLink RX6 18 "UnsaidWell$Well" "queuedSayings" "[I") (by decide +kernel)) (fun _ h => h) rfl hin rfl (tyX6_ok 9 (by decide)) rfl rfl (Nat.le_of_ble_eq_true rfl) dX6_init_25 (fun H locs hP hD hS => ?_)
  have hP : va_P D classes [(h0, .inr (6, [.int 0, .int 0, .int 0, .int 0, .int 0, .int 0, .ref q7, .int 0, .ref q15, .ref q23])), (q7, .inl (cy 0, 10, .inl (fun _ => 0))), (q15, .inl (cy 0, 6, .inl (fun _ => 0))), (q23, .inl (cy 0, 6, .inl (fun _ => 0)))] H := hP
  have hD : va_D A_ [(h0, .inr (6, [.int 0, .int 0, .int 0, .int 0, .int 0, .int 0, .ref q7, .int 0, .ref q15, .ref q23])), (q7, .inl (cy 0, 10, .inl (fun _ => 0))), (q15, .inl (cy 0, 6, .inl (fun _ => 0))), (q23, .inl (cy 0, 6, .inl (fun _ => 0)))] := hD
  exact hret hP hD hS dX6_init_28 ⟨q7, q15, q23, rfl⟩

def wX7 (cy : Nat → ClassId) (h0 q6 q14 q22 q30 q38 q46 : Nat) : va_W := [(h0, .inr (7, [.int 0, .int 0, .int 0, .int 0, .ref q6, .int 0, .ref q14, .ref q22, .ref q30, .ref q38, .int 0, .ref q46])), (q6, .inl (cy 0, 5, .inl (fun _ => 0))), (q14, .inl (cy 0, 10, .inl (fun _ => 0))), (q22, .inl (cy 0, 10, .inl (fun _ => 0))), (q30, .inl (cy 0, 10, .inl (fun _ => 0))), (q38, .inl (cy 0, 10, .inl (fun _ => 0))), (q46, .inl (cy 0, 10, .inl (fun _ => 0)))]
theorem in_X7_init_X7 : ∀ w ∈ u_ws RX7 TX7 12, w ∈ wsX7_init := by decide +kernel
set_option maxHeartbeats 1000000 in
set_option maxRecDepth 100000 in
theorem c_X7_init (l : Launch) (D : va_G) (cy : Nat → ClassId) (h0 : Nat) : MC l D cy yX7_init wsX7_init ({ frames := 1, cells := 6, slots := 55, locals := 12 }) h0 (.inr (7, [.int 0, .int 0, .int 0, .int 0, .null, .int 0, .null, .null, .null, .null, .int 0, .null])) 6 55 (fun u => ∃ q6 q14 q22 q30 q38 q46 : Nat, u = wX7 cy h0 q6 q14 q22 q30 q38 q46) := by
  refine MC.go (cc := cX7_init) (maxL := 1) (by decide) rfl rfl (Nat.le_of_ble_eq_true rfl) ?_
  intro p_ e_ s_ m_ args_ bl_ mt_ c_ A_ Q_ ls hx hb hml hin hown hts hK hN hA hD hP hS hl hret
  refine lv_aload_n hx hb dX7_init_0 rfl (lv_at hl 0 rfl) ?_
  refine W.objInit hx hb hown (hts (.methodLink RX7 3 objectInit) (by decide +kernel)) (hts (.instanceMethod objectInit) (by decide +kernel)) (hts (.code objectInit ⟨#[0xb1]⟩ 1 none) (List.mem_of_getElem? (i := 3) rfl)) rfl (by rw [hml]; exact hl.1) rfl dX7_init_1 (Nat.le_of_ble_eq_true rfl) (Nat.le_of_ble_eq_true rfl) ?_
  refine W.eq (g2 := F0 m_ 4 ls []) rfl ?_
  refine lv_aload_n hx hb dX7_init_4 rfl (lv_at hl 0 rfl) ?_
  refine lv_iconst (v := 5) hx hb dX7_init_5 (by decide) ?_
  refine rp_newI (N' := 5) hx hb (hts (.arrayClass .int) (by decide +kernel)) hK hP hD hS hA (by decide) (by decide) (by decide) (Nat.le_of_ble_eq_true rfl) (Nat.le_of_ble_eq_true rfl) dX7_init_6 (fun q6 H hP hD hS => ?_)
  have hP : va_P D classes [(h0, .inr (7, [.int 0, .int 0, .int 0, .int 0, .null, .int 0, .null, .null, .null, .null, .int 0, .null])), (q6, .inl (cy 0, 5, .inl (fun _ => 0)))] H := hP
  have hD : va_D A_ [(h0, .inr (7, [.int 0, .int 0, .int 0, .int 0, .null, .int 0, .null, .null, .null, .null, .int 0, .null])), (q6, .inl (cy 0, 5, .inl (fun _ => 0)))] := hD
  refine W.widen (k := 1) (n := 5) (by omega) (by omega) ?_
  refine va_putF (C := RX7) (T := TX7) (N := 12) hx hb hts in_X7_init_X7 tyX7 tyX7_ok nmX7 hown hK hP hD hS 0 rfl rfl 4 (by decide) (hts (.fieldLink RX7 9 "UnsaidWell$Yard" "arms" "[I") (by decide +kernel)) (fun _ h => h) rfl hin rfl (tyX7_ok 4 (by decide)) rfl rfl (Nat.le_of_ble_eq_true rfl) dX7_init_8 (fun H locs hP hD hS => ?_)
  have hP : va_P D classes [(h0, .inr (7, [.int 0, .int 0, .int 0, .int 0, .ref q6, .int 0, .null, .null, .null, .null, .int 0, .null])), (q6, .inl (cy 0, 5, .inl (fun _ => 0)))] H := hP
  have hD : va_D A_ [(h0, .inr (7, [.int 0, .int 0, .int 0, .int 0, .ref q6, .int 0, .null, .null, .null, .null, .int 0, .null])), (q6, .inl (cy 0, 5, .inl (fun _ => 0)))] := hD
  refine lv_aload_n hx hb dX7_init_11 rfl (lv_at hl 0 rfl) ?_
  refine lv_bipush (v := 10) hx hb dX7_init_12 (by decide) ?_
  refine rp_newI (N' := 10) hx hb (hts (.arrayClass .int) (by decide +kernel)) hK hP hD hS hA (by decide) (by decide) (by decide) (Nat.le_of_ble_eq_true rfl) (Nat.le_of_ble_eq_true rfl) dX7_init_14 (fun q14 H hP hD hS => ?_)
  have hP : va_P D classes [(h0, .inr (7, [.int 0, .int 0, .int 0, .int 0, .ref q6, .int 0, .null, .null, .null, .null, .int 0, .null])), (q6, .inl (cy 0, 5, .inl (fun _ => 0))), (q14, .inl (cy 0, 10, .inl (fun _ => 0)))] H := hP
  have hD : va_D A_ [(h0, .inr (7, [.int 0, .int 0, .int 0, .int 0, .ref q6, .int 0, .null, .null, .null, .null, .int 0, .null])), (q6, .inl (cy 0, 5, .inl (fun _ => 0))), (q14, .inl (cy 0, 10, .inl (fun _ => 0)))] := hD
  refine W.widen (k := 2) (n := 15) (by omega) (by omega) ?_
  refine va_putF (C := RX7) (T := TX7) (N := 12) hx hb hts in_X7_init_X7 tyX7 tyX7_ok nmX7 hown hK hP hD hS 0 rfl rfl 6 (by decide) (hts (.fieldLink RX7 15 "UnsaidWell$Yard" "owners" "[I") (by decide +kernel)) (fun _ h => h) rfl hin rfl (tyX7_ok 6 (by decide)) rfl rfl (Nat.le_of_ble_eq_true rfl) dX7_init_16 (fun H locs hP hD hS => ?_)
  have hP : va_P D classes [(h0, .inr (7, [.int 0, .int 0, .int 0, .int 0, .ref q6, .int 0, .ref q14, .null, .null, .null, .int 0, .null])), (q6, .inl (cy 0, 5, .inl (fun _ => 0))), (q14, .inl (cy 0, 10, .inl (fun _ => 0)))] H := hP
  have hD : va_D A_ [(h0, .inr (7, [.int 0, .int 0, .int 0, .int 0, .ref q6, .int 0, .ref q14, .null, .null, .null, .int 0, .null])), (q6, .inl (cy 0, 5, .inl (fun _ => 0))), (q14, .inl (cy 0, 10, .inl (fun _ => 0)))] := hD
  refine lv_aload_n hx hb dX7_init_19 rfl (lv_at hl 0 rfl) ?_
  refine lv_bipush (v := 10) hx hb dX7_init_20 (by decide) ?_
  refine rp_newI (N' := 10) hx hb (hts (.arrayClass .int) (by decide +kernel)) hK hP hD hS hA (by decide) (by decide) (by decide) (Nat.le_of_ble_eq_true rfl) (Nat.le_of_ble_eq_true rfl) dX7_init_22 (fun q22 H hP hD hS => ?_)
  have hP : va_P D classes [(h0, .inr (7, [.int 0, .int 0, .int 0, .int 0, .ref q6, .int 0, .ref q14, .null, .null, .null, .int 0, .null])), (q6, .inl (cy 0, 5, .inl (fun _ => 0))), (q14, .inl (cy 0, 10, .inl (fun _ => 0))), (q22, .inl (cy 0, 10, .inl (fun _ => 0)))] H := hP
  have hD : va_D A_ [(h0, .inr (7, [.int 0, .int 0, .int 0, .int 0, .ref q6, .int 0, .ref q14, .null, .null, .null, .int 0, .null])), (q6, .inl (cy 0, 5, .inl (fun _ => 0))), (q14, .inl (cy 0, 10, .inl (fun _ => 0))), (q22, .inl (cy 0, 10, .inl (fun _ => 0)))] := hD
  refine W.widen (k := 3) (n := 25) (by omega) (by omega) ?_
  refine va_putF (C := RX7) (T := TX7) (N := 12) hx hb hts in_X7_init_X7 tyX7 tyX7_ok nmX7 hown hK hP hD hS 0 rfl rfl 7 (by decide) (hts (.fieldLink RX7 18 "UnsaidWell$Yard" "weights" "[I") (by decide +kernel)) (fun _ h => h) rfl hin rfl (tyX7_ok 7 (by decide)) rfl rfl (Nat.le_of_ble_eq_true rfl) dX7_init_24 (fun H locs hP hD hS => ?_)
  have hP : va_P D classes [(h0, .inr (7, [.int 0, .int 0, .int 0, .int 0, .ref q6, .int 0, .ref q14, .ref q22, .null, .null, .int 0, .null])), (q6, .inl (cy 0, 5, .inl (fun _ => 0))), (q14, .inl (cy 0, 10, .inl (fun _ => 0))), (q22, .inl (cy 0, 10, .inl (fun _ => 0)))] H := hP
  have hD : va_D A_ [(h0, .inr (7, [.int 0, .int 0, .int 0, .int 0, .ref q6, .int 0, .ref q14, .ref q22, .null, .null, .int 0, .null])), (q6, .inl (cy 0, 5, .inl (fun _ => 0))), (q14, .inl (cy 0, 10, .inl (fun _ => 0))), (q22, .inl (cy 0, 10, .inl (fun _ => 0)))] := hD
  refine lv_aload_n hx hb dX7_init_27 rfl (lv_at hl 0 rfl) ?_
  refine lv_bipush (v := 10) hx hb dX7_init_28 (by decide) ?_
  refine rp_newI (N' := 10) hx hb (hts (.arrayClass .int) (by decide +kernel)) hK hP hD hS hA (by decide) (by decide) (by decide) (Nat.le_of_ble_eq_true rfl) (Nat.le_of_ble_eq_true rfl) dX7_init_30 (fun q30 H hP hD hS => ?_)
  have hP : va_P D classes [(h0, .inr (7, [.int 0, .int 0, .int 0, .int 0, .ref q6, .int 0, .ref q14, .ref q22, .null, .null, .int 0, .null])), (q6, .inl (cy 0, 5, .inl (fun _ => 0))), (q14, .inl (cy 0, 10, .inl (fun _ => 0))), (q22, .inl (cy 0, 10, .inl (fun _ => 0))), (q30, .inl (cy 0, 10, .inl (fun _ => 0)))] H := hP
  have hD : va_D A_ [(h0, .inr (7, [.int 0, .int 0, .int 0, .int 0, .ref q6, .int 0, .ref q14, .ref q22, .null, .null, .int 0, .null])), (q6, .inl (cy 0, 5, .inl (fun _ => 0))), (q14, .inl (cy 0, 10, .inl (fun _ => 0))), (q22, .inl (cy 0, 10, .inl (fun _ => 0))), (q30, .inl (cy 0, 10, .inl (fun _ => 0)))] := hD
  refine W.widen (k := 4) (n := 35) (by omega) (by omega) ?_
  refine va_putF (C := RX7) (T := TX7) (N := 12) hx hb hts in_X7_init_X7 tyX7 tyX7_ok nmX7 hown hK hP hD hS 0 rfl rfl 8 (by decide) (hts (.fieldLink RX7 21 "UnsaidWell$Yard" "worths" "[I") (by decide +kernel)) (fun _ h => h) rfl hin rfl (tyX7_ok 8 (by decide)) rfl rfl (Nat.le_of_ble_eq_true rfl) dX7_init_32 (fun H locs hP hD hS => ?_)
  have hP : va_P D classes [(h0, .inr (7, [.int 0, .int 0, .int 0, .int 0, .ref q6, .int 0, .ref q14, .ref q22, .ref q30, .null, .int 0, .null])), (q6, .inl (cy 0, 5, .inl (fun _ => 0))), (q14, .inl (cy 0, 10, .inl (fun _ => 0))), (q22, .inl (cy 0, 10, .inl (fun _ => 0))), (q30, .inl (cy 0, 10, .inl (fun _ => 0)))] H := hP
  have hD : va_D A_ [(h0, .inr (7, [.int 0, .int 0, .int 0, .int 0, .ref q6, .int 0, .ref q14, .ref q22, .ref q30, .null, .int 0, .null])), (q6, .inl (cy 0, 5, .inl (fun _ => 0))), (q14, .inl (cy 0, 10, .inl (fun _ => 0))), (q22, .inl (cy 0, 10, .inl (fun _ => 0))), (q30, .inl (cy 0, 10, .inl (fun _ => 0)))] := hD
  refine lv_aload_n hx hb dX7_init_35 rfl (lv_at hl 0 rfl) ?_
  refine lv_bipush (v := 10) hx hb dX7_init_36 (by decide) ?_
  refine rp_newI (N' := 10) hx hb (hts (.arrayClass .int) (by decide +kernel)) hK hP hD hS hA (by decide) (by decide) (by decide) (Nat.le_of_ble_eq_true rfl) (Nat.le_of_ble_eq_true rfl) dX7_init_38 (fun q38 H hP hD hS => ?_)
  have hP : va_P D classes [(h0, .inr (7, [.int 0, .int 0, .int 0, .int 0, .ref q6, .int 0, .ref q14, .ref q22, .ref q30, .null, .int 0, .null])), (q6, .inl (cy 0, 5, .inl (fun _ => 0))), (q14, .inl (cy 0, 10, .inl (fun _ => 0))), (q22, .inl (cy 0, 10, .inl (fun _ => 0))), (q30, .inl (cy 0, 10, .inl (fun _ => 0))), (q38, .inl (cy 0, 10, .inl (fun _ => 0)))] H := hP
  have hD : va_D A_ [(h0, .inr (7, [.int 0, .int 0, .int 0, .int 0, .ref q6, .int 0, .ref q14, .ref q22, .ref q30, .null, .int 0, .null])), (q6, .inl (cy 0, 5, .inl (fun _ => 0))), (q14, .inl (cy 0, 10, .inl (fun _ => 0))), (q22, .inl (cy 0, 10, .inl (fun _ => 0))), (q30, .inl (cy 0, 10, .inl (fun _ => 0))), (q38, .inl (cy 0, 10, .inl (fun _ => 0)))] := hD
  refine W.widen (k := 5) (n := 45) (by omega) (by omega) ?_
  refine va_putF (C := RX7) (T := TX7) (N := 12) hx hb hts in_X7_init_X7 tyX7 tyX7_ok nmX7 hown hK hP hD hS 0 rfl rfl 9 (by decide) (hts (.fieldLink RX7 24 "UnsaidWell$Yard" "sources" "[I") (by decide +kernel)) (fun _ h => h) rfl hin rfl (tyX7_ok 9 (by decide)) rfl rfl (Nat.le_of_ble_eq_true rfl) dX7_init_40 (fun H locs hP hD hS => ?_)
  have hP : va_P D classes [(h0, .inr (7, [.int 0, .int 0, .int 0, .int 0, .ref q6, .int 0, .ref q14, .ref q22, .ref q30, .ref q38, .int 0, .null])), (q6, .inl (cy 0, 5, .inl (fun _ => 0))), (q14, .inl (cy 0, 10, .inl (fun _ => 0))), (q22, .inl (cy 0, 10, .inl (fun _ => 0))), (q30, .inl (cy 0, 10, .inl (fun _ => 0))), (q38, .inl (cy 0, 10, .inl (fun _ => 0)))] H := hP
  have hD : va_D A_ [(h0, .inr (7, [.int 0, .int 0, .int 0, .int 0, .ref q6, .int 0, .ref q14, .ref q22, .ref q30, .ref q38, .int 0, .null])), (q6, .inl (cy 0, 5, .inl (fun _ => 0))), (q14, .inl (cy 0, 10, .inl (fun _ => 0))), (q22, .inl (cy 0, 10, .inl (fun _ => 0))), (q30, .inl (cy 0, 10, .inl (fun _ => 0))), (q38, .inl (cy 0, 10, .inl (fun _ => 0)))] := hD
  refine lv_aload_n hx hb dX7_init_43 rfl (lv_at hl 0 rfl) ?_
  refine lv_bipush (v := 10) hx hb dX7_init_44 (by decide) ?_
  refine rp_newI (N' := 10) hx hb (hts (.arrayClass .int) (by decide +kernel)) hK hP hD hS hA (by decide) (by decide) (by decide) (Nat.le_of_ble_eq_true rfl) (Nat.le_of_ble_eq_true rfl) dX7_init_46 (fun q46 H hP hD hS => ?_)
  have hP : va_P D classes [(h0, .inr (7, [.int 0, .int 0, .int 0, .int 0, .ref q6, .int 0, .ref q14, .ref q22, .ref q30, .ref q38, .int 0, .null])), (q6, .inl (cy 0, 5, .inl (fun _ => 0))), (q14, .inl (cy 0, 10, .inl (fun _ => 0))), (q22, .inl (cy 0, 10, .inl (fun _ => 0))), (q30, .inl (cy 0, 10, .inl (fun _ => 0))), (q38, .inl (cy 0, 10, .inl (fun _ => 0))), (q46, .inl (cy 0, 10, .inl (fun _ => 0)))] H := hP
  have hD : va_D A_ [(h0, .inr (7, [.int 0, .int 0, .int 0, .int 0, .ref q6, .int 0, .ref q14, .ref q22, .ref q30, .ref q38, .int 0, .null])), (q6, .inl (cy 0, 5, .inl (fun _ => 0))), (q14, .inl (cy 0, 10, .inl (fun _ => 0))), (q22, .inl (cy 0, 10, .inl (fun _ => 0))), (q30, .inl (cy 0, 10, .inl (fun _ => 0))), (q38, .inl (cy 0, 10, .inl (fun _ => 0))), (q46, .inl (cy 0, 10, .inl (fun _ => 0)))] := hD
  refine W.widen (k := 6) (n := 55) (by omega) (by omega) ?_
  refine va_putF (C := RX7) (T := TX7) (N := 12) hx hb hts in_X7_init_X7 tyX7 tyX7_ok nmX7 hown hK hP hD hS 0 rfl rfl 11 (by decide) (hts (.fieldLink RX7 27 "UnsaidWell$Yard" "depths" "[I") (by decide +kernel)) (fun _ h => h) rfl hin rfl (tyX7_ok 11 (by decide)) rfl rfl (Nat.le_of_ble_eq_true rfl) dX7_init_48 (fun H locs hP hD hS => ?_)
  have hP : va_P D classes [(h0, .inr (7, [.int 0, .int 0, .int 0, .int 0, .ref q6, .int 0, .ref q14, .ref q22, .ref q30, .ref q38, .int 0, .ref q46])), (q6, .inl (cy 0, 5, .inl (fun _ => 0))), (q14, .inl (cy 0, 10, .inl (fun _ => 0))), (q22, .inl (cy 0, 10, .inl (fun _ => 0))), (q30, .inl (cy 0, 10, .inl (fun _ => 0))), (q38, .inl (cy 0, 10, .inl (fun _ => 0))), (q46, .inl (cy 0, 10, .inl (fun _ => 0)))] H := hP
  have hD : va_D A_ [(h0, .inr (7, [.int 0, .int 0, .int 0, .int 0, .ref q6, .int 0, .ref q14, .ref q22, .ref q30, .ref q38, .int 0, .ref q46])), (q6, .inl (cy 0, 5, .inl (fun _ => 0))), (q14, .inl (cy 0, 10, .inl (fun _ => 0))), (q22, .inl (cy 0, 10, .inl (fun _ => 0))), (q30, .inl (cy 0, 10, .inl (fun _ => 0))), (q38, .inl (cy 0, 10, .inl (fun _ => 0))), (q46, .inl (cy 0, 10, .inl (fun _ => 0)))] := hD
  exact hret hP hD hS dX7_init_51 ⟨q6, q14, q22, q30, q38, q46, rfl⟩
