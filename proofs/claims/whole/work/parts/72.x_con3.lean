theorem in_X8_init_X4 : ∀ w ∈ u_ws RX4 TX4 6, w ∈ wsX8_init := by decide +kernel
theorem in_X8_init_X7 : ∀ w ∈ u_ws RX7 TX7 12, w ∈ wsX8_init := by decide +kernel
theorem in_X8_init_X6 : ∀ w ∈ u_ws RX6 TX6 10, w ∈ wsX8_init := by decide +kernel
theorem in_X8_init_X3 : ∀ w ∈ u_ws RX3 TX3 3, w ∈ wsX8_init := by decide +kernel
theorem in_X8_init_X0 : ∀ w ∈ u_ws RX0 TX0 3, w ∈ wsX8_init := by decide +kernel
theorem in_X8_init_X1 : ∀ w ∈ u_ws RX1 TX1 1, w ∈ wsX8_init := by decide +kernel
theorem in_X8_init_X2 : ∀ w ∈ u_ws RX2 TX2 3, w ∈ wsX8_init := by decide +kernel
theorem in_X8_init_X5 : ∀ w ∈ u_ws RX5 TX5 3, w ∈ wsX8_init := by decide +kernel
theorem in_X8_init_X8 : ∀ w ∈ u_ws RX8 TX8 10, w ∈ wsX8_init := by decide +kernel
set_option maxHeartbeats 1000000 in
set_option maxRecDepth 100000 in
theorem c_X8_init (l : Launch) (D : va_G) (cy : Nat → ClassId) (h0 : Nat) : MC l D cy yX8_init wsX8_init ({ frames := 3, cells := 108, slots := 1095, locals := 53 }) h0 (.inr (8, [.null, .null, .null, .null, .null, .null, .null, .null, .null, .null])) 108 1095 (fun u => ∃ ad : Nat → Nat, ad 0 = h0 ∧ u = rw_ 109 ad (cfX ad cy 3 10) sX0) := by
  refine MC.go (cc := cX8_init) (maxL := 1) (by decide) rfl rfl (Nat.le_of_ble_eq_true rfl) ?_
  intro p_ e_ s_ m_ args_ bl_ mt_ c_ A_ Q_ ls hx hb hml hin hown hts hK hN hA hD hP hS hl hret
  refine lv_aload_n hx hb dX8_init_0 rfl (lv_at hl 0 rfl) ?_
  refine W.objInit hx hb hown (hts (.methodLink RX8 1 objectInit) (by decide +kernel)) (hts (.instanceMethod objectInit) (by decide +kernel)) (hts (.code objectInit ⟨#[0xb1]⟩ 1 none) (List.mem_of_getElem? (i := 3) rfl)) rfl (by rw [hml]; exact hl.1) rfl dX8_init_1 (Nat.le_of_ble_eq_true rfl) (Nat.le_of_ble_eq_true rfl) ?_
  refine W.eq (g2 := F0 m_ 4 ls []) rfl ?_
  refine lv_aload_n hx hb dX8_init_4 rfl (lv_at hl 0 rfl) ?_
  refine va_new (ci := 4) (fs := [.null, .int 0, .int 0, .int 0, .int 0, .int 0]) (C := RX4) (T := TX4) (N := 6) hx hb hts in_X8_init_X4 tyX4 tyX4_ok hown (hts (.classLink RX8 7 RX4) (by decide +kernel)) (hts (.instantiable RX4 6) (by decide +kernel)) (hts (.initialized RX4) (by decide +kernel)) hK hP hD hS hA rfl (fun j hj => by rcases (show j = 0 ∨ j = 1 ∨ j = 2 ∨ j = 3 ∨ j = 4 ∨ j = 5 by omega) with rfl | rfl | rfl | rfl | rfl | rfl <;> rfl) (Nat.le_of_ble_eq_true rfl) (Nat.le_of_ble_eq_true rfl) dX8_init_5 (fun o5 H hP hD hS => ?_)
  refine W.widen (k := 1) (n := 6) (by omega) (by omega) ?_
  refine lv_dup hx hb dX8_init_8 rfl ?_
  refine rp_callN (Ts := wsX8_init) hx hb hml hown hts hK hN hA hD hP hS hl.1 (c_X4_init l D cy o5) gX8_init_X4_init_n9 rfl ⟨rfl, rfl⟩ (by decide +kernel) hN.2.1 (by decide +kernel) rfl (by decide +kernel) ⟨Nat.le_of_ble_eq_true rfl, Nat.le_of_ble_eq_true rfl⟩ ⟨Nat.le_of_ble_eq_true rfl, Nat.le_of_ble_eq_true rfl⟩ (Nat.le_of_ble_eq_true rfl) dX8_init_9 (fun u H locs hq hP hD hS => ?_)
  obtain ⟨o5a, rfl⟩ := hq
  refine W.widen (k := 2) (n := 246) (by omega) (by omega) ?_
  refine va_putF (C := RX8) (T := TX8) (N := 10) hx hb hts in_X8_init_X8 tyX8 tyX8_ok nmX8 hown hK hP hD hS 0 rfl rfl 0 (by decide) (hts (.fieldLink RX8 10 "UnsaidWell" "reader" "LUnsaidWell$Reader;") (by decide +kernel)) (fun _ h => h) rfl hin rfl (tyX8_ok 0 (by decide)) rfl rfl (Nat.le_of_ble_eq_true rfl) dX8_init_12 (fun H locs hP hD hS => ?_)
  have hP : va_P D classes ([(h0, .inr (8, [.ref o5, .null, .null, .null, .null, .null, .null, .null, .null, .null]))] ++ wX4 cy o5 o5a) H := hP
  have hD : va_D A_ ([(h0, .inr (8, [.ref o5, .null, .null, .null, .null, .null, .null, .null, .null, .null]))] ++ wX4 cy o5 o5a) := hD
  refine lv_aload_n hx hb dX8_init_15 rfl (lv_at hl 0 rfl) ?_
  refine va_new (ci := 7) (fs := [.int 0, .int 0, .int 0, .int 0, .null, .int 0, .null, .null, .null, .null, .int 0, .null]) (C := RX7) (T := TX7) (N := 12) hx hb hts in_X8_init_X7 tyX7 tyX7_ok hown (hts (.classLink RX8 16 RX7) (by decide +kernel)) (hts (.instantiable RX7 12) (by decide +kernel)) (hts (.initialized RX7) (by decide +kernel)) hK hP hD hS hA rfl (fun j hj => by rcases (show j = 0 ∨ j = 1 ∨ j = 2 ∨ j = 3 ∨ j = 4 ∨ j = 5 ∨ j = 6 ∨ j = 7 ∨ j = 8 ∨ j = 9 ∨ j = 10 ∨ j = 11 by omega) with rfl | rfl | rfl | rfl | rfl | rfl | rfl | rfl | rfl | rfl | rfl | rfl <;> rfl) (Nat.le_of_ble_eq_true rfl) (Nat.le_of_ble_eq_true rfl) dX8_init_16 (fun o16 H hP hD hS => ?_)
  refine W.widen (k := 3) (n := 258) (by omega) (by omega) ?_
  refine lv_dup hx hb dX8_init_19 rfl ?_
  refine rp_callN (Ts := wsX8_init) hx hb hml hown hts hK hN hA hD hP hS hl.1 (c_X7_init l D cy o16) gX8_init_X7_init_n18 rfl ⟨rfl, rfl⟩ (by decide +kernel) hN.2.2.1 (by decide +kernel) rfl (by decide +kernel) ⟨Nat.le_of_ble_eq_true rfl, Nat.le_of_ble_eq_true rfl⟩ ⟨Nat.le_of_ble_eq_true rfl, Nat.le_of_ble_eq_true rfl⟩ (Nat.le_of_ble_eq_true rfl) dX8_init_20 (fun u H locs hq hP hD hS => ?_)
  obtain ⟨o16a, o16b, o16c, o16d, o16e, o16f, rfl⟩ := hq
  refine W.widen (k := 9) (n := 313) (by omega) (by omega) ?_
  refine va_put (C := RX8) (T := TX8) (N := 10) hx hb hts in_X8_init_X8 tyX8 tyX8_ok nmX8 hown hK hP hD hS 0 rfl rfl 1 (by decide) (hts (.fieldLink RX8 19 "UnsaidWell" "place" "LUnsaidWell$Yard;") (by decide +kernel)) (fun _ h => h) rfl (tyX8_ok 1 (by decide)) rfl rfl (Nat.le_of_ble_eq_true rfl) dX8_init_23 (fun H locs hP hD hS => ?_)
  have hP : va_P D classes ([(h0, .inr (8, [.ref o5, .ref o16, .null, .null, .null, .null, .null, .null, .null, .null]))] ++ wX4 cy o5 o5a ++ wX7 cy o16 o16a o16b o16c o16d o16e o16f) H := hP
  have hD : va_D A_ ([(h0, .inr (8, [.ref o5, .ref o16, .null, .null, .null, .null, .null, .null, .null, .null]))] ++ wX4 cy o5 o5a ++ wX7 cy o16 o16a o16b o16c o16d o16e o16f) := hD
  refine lv_aload_n hx hb dX8_init_26 rfl (lv_at hl 0 rfl) ?_
  refine va_new (ci := 7) (fs := [.int 0, .int 0, .int 0, .int 0, .null, .int 0, .null, .null, .null, .null, .int 0, .null]) (C := RX7) (T := TX7) (N := 12) hx hb hts in_X8_init_X7 tyX7 tyX7_ok hown (hts (.classLink RX8 16 RX7) (by decide +kernel)) (hts (.instantiable RX7 12) (by decide +kernel)) (hts (.initialized RX7) (by decide +kernel)) hK hP hD hS hA rfl (fun j hj => by rcases (show j = 0 ∨ j = 1 ∨ j = 2 ∨ j = 3 ∨ j = 4 ∨ j = 5 ∨ j = 6 ∨ j = 7 ∨ j = 8 ∨ j = 9 ∨ j = 10 ∨ j = 11 by omega) with rfl | rfl | rfl | rfl | rfl | rfl | rfl | rfl | rfl | rfl | rfl | rfl <;> rfl) (Nat.le_of_ble_eq_true rfl) (Nat.le_of_ble_eq_true rfl) dX8_init_27 (fun o27 H hP hD hS => ?_)
  refine W.widen (k := 10) (n := 325) (by omega) (by omega) ?_
  refine lv_dup hx hb dX8_init_30 rfl ?_
  refine rp_callN (Ts := wsX8_init) hx hb hml hown hts hK hN hA hD hP hS hl.1 (c_X7_init l D cy o27) gX8_init_X7_init_n18 rfl ⟨rfl, rfl⟩ (by decide +kernel) hN.2.2.1 (by decide +kernel) rfl (by decide +kernel) ⟨Nat.le_of_ble_eq_true rfl, Nat.le_of_ble_eq_true rfl⟩ ⟨Nat.le_of_ble_eq_true rfl, Nat.le_of_ble_eq_true rfl⟩ (Nat.le_of_ble_eq_true rfl) dX8_init_31 (fun u H locs hq hP hD hS => ?_)
  obtain ⟨o27a, o27b, o27c, o27d, o27e, o27f, rfl⟩ := hq
  refine W.widen (k := 16) (n := 380) (by omega) (by omega) ?_
  refine va_put (C := RX8) (T := TX8) (N := 10) hx hb hts in_X8_init_X8 tyX8 tyX8_ok nmX8 hown hK hP hD hS 0 rfl rfl 2 (by decide) (hts (.fieldLink RX8 23 "UnsaidWell" "spare" "LUnsaidWell$Yard;") (by decide +kernel)) (fun _ h => h) rfl (tyX8_ok 2 (by decide)) rfl rfl (Nat.le_of_ble_eq_true rfl) dX8_init_34 (fun H locs hP hD hS => ?_)
  have hP : va_P D classes ([(h0, .inr (8, [.ref o5, .ref o16, .ref o27, .null, .null, .null, .null, .null, .null, .null]))] ++ wX4 cy o5 o5a ++ wX7 cy o16 o16a o16b o16c o16d o16e o16f ++ wX7 cy o27 o27a o27b o27c o27d o27e o27f) H := hP
  have hD : va_D A_ ([(h0, .inr (8, [.ref o5, .ref o16, .ref o27, .null, .null, .null, .null, .null, .null, .null]))] ++ wX4 cy o5 o5a ++ wX7 cy o16 o16a o16b o16c o16d o16e o16f ++ wX7 cy o27 o27a o27b o27c o27d o27e o27f) := hD
  refine lv_aload_n hx hb dX8_init_37 rfl (lv_at hl 0 rfl) ?_
  refine va_new (ci := 6) (fs := [.int 0, .int 0, .int 0, .int 0, .int 0, .int 0, .null, .int 0, .null, .null]) (C := RX6) (T := TX6) (N := 10) hx hb hts in_X8_init_X6 tyX6 tyX6_ok hown (hts (.classLink RX8 26 RX6) (by decide +kernel)) (hts (.instantiable RX6 10) (by decide +kernel)) (hts (.initialized RX6) (by decide +kernel)) hK hP hD hS hA rfl (fun j hj => by rcases (show j = 0 ∨ j = 1 ∨ j = 2 ∨ j = 3 ∨ j = 4 ∨ j = 5 ∨ j = 6 ∨ j = 7 ∨ j = 8 ∨ j = 9 by omega) with rfl | rfl | rfl | rfl | rfl | rfl | rfl | rfl | rfl | rfl <;> rfl) (Nat.le_of_ble_eq_true rfl) (Nat.le_of_ble_eq_true rfl) dX8_init_38 (fun o38 H hP hD hS => ?_)
  refine W.widen (k := 17) (n := 390) (by omega) (by omega) ?_
  refine lv_dup hx hb dX8_init_41 rfl ?_
  refine rp_callN (Ts := wsX8_init) hx hb hml hown hts hK hN hA hD hP hS hl.1 (c_X6_init l D cy o38) gX8_init_X6_init_n28 rfl ⟨rfl, rfl⟩ (by decide +kernel) hN.2.2.2.1 (by decide +kernel) rfl (by decide +kernel) ⟨Nat.le_of_ble_eq_true rfl, Nat.le_of_ble_eq_true rfl⟩ ⟨Nat.le_of_ble_eq_true rfl, Nat.le_of_ble_eq_true rfl⟩ (Nat.le_of_ble_eq_true rfl) dX8_init_42 (fun u H locs hq hP hD hS => ?_)
  obtain ⟨o38a, o38b, o38c, rfl⟩ := hq
  refine W.widen (k := 20) (n := 412) (by omega) (by omega) ?_
  refine va_putF (C := RX8) (T := TX8) (N := 10) hx hb hts in_X8_init_X8 tyX8 tyX8_ok nmX8 hown hK hP hD hS 0 rfl rfl 3 (by decide) (hts (.fieldLink RX8 29 "UnsaidWell" "now" "LUnsaidWell$Well;") (by decide +kernel)) (fun _ h => h) rfl hin rfl (tyX8_ok 3 (by decide)) rfl rfl (Nat.le_of_ble_eq_true rfl) dX8_init_45 (fun H locs hP hD hS => ?_)
  have hP : va_P D classes ([(h0, .inr (8, [.ref o5, .ref o16, .ref o27, .ref o38, .null, .null, .null, .null, .null, .null]))] ++ wX4 cy o5 o5a ++ wX7 cy o16 o16a o16b o16c o16d o16e o16f ++ wX7 cy o27 o27a o27b o27c o27d o27e o27f ++ wX6 cy o38 o38a o38b o38c) H := hP
  have hD : va_D A_ ([(h0, .inr (8, [.ref o5, .ref o16, .ref o27, .ref o38, .null, .null, .null, .null, .null, .null]))] ++ wX4 cy o5 o5a ++ wX7 cy o16 o16a o16b o16c o16d o16e o16f ++ wX7 cy o27 o27a o27b o27c o27d o27e o27f ++ wX6 cy o38 o38a o38b o38c) := hD
  refine lv_aload_n hx hb dX8_init_48 rfl (lv_at hl 0 rfl) ?_
  refine va_new (ci := 6) (fs := [.int 0, .int 0, .int 0, .int 0, .int 0, .int 0, .null, .int 0, .null, .null]) (C := RX6) (T := TX6) (N := 10) hx hb hts in_X8_init_X6 tyX6 tyX6_ok hown (hts (.classLink RX8 26 RX6) (by decide +kernel)) (hts (.instantiable RX6 10) (by decide +kernel)) (hts (.initialized RX6) (by decide +kernel)) hK hP hD hS hA rfl (fun j hj => by rcases (show j = 0 ∨ j = 1 ∨ j = 2 ∨ j = 3 ∨ j = 4 ∨ j = 5 ∨ j = 6 ∨ j = 7 ∨ j = 8 ∨ j = 9 by omega) with rfl | rfl | rfl | rfl | rfl | rfl | rfl | rfl | rfl | rfl <;> rfl) (Nat.le_of_ble_eq_true rfl) (Nat.le_of_ble_eq_true rfl) dX8_init_49 (fun o49 H hP hD hS => ?_)
  refine W.widen (k := 21) (n := 422) (by omega) (by omega) ?_
  refine lv_dup hx hb dX8_init_52 rfl ?_
  refine rp_callN (Ts := wsX8_init) hx hb hml hown hts hK hN hA hD hP hS hl.1 (c_X6_init l D cy o49) gX8_init_X6_init_n28 rfl ⟨rfl, rfl⟩ (by decide +kernel) hN.2.2.2.1 (by decide +kernel) rfl (by decide +kernel) ⟨Nat.le_of_ble_eq_true rfl, Nat.le_of_ble_eq_true rfl⟩ ⟨Nat.le_of_ble_eq_true rfl, Nat.le_of_ble_eq_true rfl⟩ (Nat.le_of_ble_eq_true rfl) dX8_init_53 (fun u H locs hq hP hD hS => ?_)
  obtain ⟨o49a, o49b, o49c, rfl⟩ := hq
  refine W.widen (k := 24) (n := 444) (by omega) (by omega) ?_
  refine va_putF (C := RX8) (T := TX8) (N := 10) hx hb hts in_X8_init_X8 tyX8 tyX8_ok nmX8 hown hK hP hD hS 0 rfl rfl 4 (by decide) (hts (.fieldLink RX8 33 "UnsaidWell" "trial" "LUnsaidWell$Well;") (by decide +kernel)) (fun _ h => h) rfl hin rfl (tyX8_ok 4 (by decide)) rfl rfl (Nat.le_of_ble_eq_true rfl) dX8_init_56 (fun H locs hP hD hS => ?_)
  have hP : va_P D classes ([(h0, .inr (8, [.ref o5, .ref o16, .ref o27, .ref o38, .ref o49, .null, .null, .null, .null, .null]))] ++ wX4 cy o5 o5a ++ wX7 cy o16 o16a o16b o16c o16d o16e o16f ++ wX7 cy o27 o27a o27b o27c o27d o27e o27f ++ wX6 cy o38 o38a o38b o38c ++ wX6 cy o49 o49a o49b o49c) H := hP
  have hD : va_D A_ ([(h0, .inr (8, [.ref o5, .ref o16, .ref o27, .ref o38, .ref o49, .null, .null, .null, .null, .null]))] ++ wX4 cy o5 o5a ++ wX7 cy o16 o16a o16b o16c o16d o16e o16f ++ wX7 cy o27 o27a o27b o27c o27d o27e o27f ++ wX6 cy o38 o38a o38b o38c ++ wX6 cy o49 o49a o49b o49c) := hD
  refine lv_aload_n hx hb dX8_init_59 rfl (lv_at hl 0 rfl) ?_
  refine va_new (ci := 3) (fs := [.null, .int 0, .int 0]) (C := RX3) (T := TX3) (N := 3) hx hb hts in_X8_init_X3 tyX3 tyX3_ok hown (hts (.classLink RX8 36 RX3) (by decide +kernel)) (hts (.instantiable RX3 3) (by decide +kernel)) (hts (.initialized RX3) (by decide +kernel)) hK hP hD hS hA rfl (fun j hj => by rcases (show j = 0 ∨ j = 1 ∨ j = 2 by omega) with rfl | rfl | rfl <;> rfl) (Nat.le_of_ble_eq_true rfl) (Nat.le_of_ble_eq_true rfl) dX8_init_60 (fun o60 H hP hD hS => ?_)
  refine W.widen (k := 25) (n := 447) (by omega) (by omega) ?_
  refine lv_dup hx hb dX8_init_63 rfl ?_
  refine rp_callC (Ts := wsX8_init) hx hb hml hown hts hK hN hA hD hP hS hl.1 (c_X3_init l D cy o60) gX8_init_X3_init rfl ⟨rfl, rfl⟩ (by decide +kernel) (by decide +kernel) (by decide +kernel) rfl (by decide +kernel) ⟨Nat.le_of_ble_eq_true rfl, Nat.le_of_ble_eq_true rfl⟩ ⟨Nat.le_of_ble_eq_true rfl, Nat.le_of_ble_eq_true rfl⟩ (Nat.le_of_ble_eq_true rfl) dX8_init_64 (fun u H locs hq hP hD hS => ?_)
  obtain ⟨o60a, aP, fP, hfP, rfl⟩ := hq
  refine W.widen (k := 90) (n := 975) (by omega) (by omega) ?_
  refine va_putF (C := RX8) (T := TX8) (N := 10) hx hb hts in_X8_init_X8 tyX8 tyX8_ok nmX8 hown hK hP hD hS 0 rfl rfl 5 (by decide) (hts (.fieldLink RX8 39 "UnsaidWell" "past" "LUnsaidWell$Past;") (by decide +kernel)) (fun _ h => h) rfl hin rfl (tyX8_ok 5 (by decide)) rfl rfl (Nat.le_of_ble_eq_true rfl) dX8_init_67 (fun H locs hP hD hS => ?_)
  have hP : va_P D classes ([(h0, .inr (8, [.ref o5, .ref o16, .ref o27, .ref o38, .ref o49, .ref o60, .null, .null, .null, .null]))] ++ wX4 cy o5 o5a ++ wX7 cy o16 o16a o16b o16c o16d o16e o16f ++ wX7 cy o27 o27a o27b o27c o27d o27e o27f ++ wX6 cy o38 o38a o38b o38c ++ wX6 cy o49 o49a o49b o49c ++ wX3 cy o60 o60a aP fP) H := hP
  have hD : va_D A_ ([(h0, .inr (8, [.ref o5, .ref o16, .ref o27, .ref o38, .ref o49, .ref o60, .null, .null, .null, .null]))] ++ wX4 cy o5 o5a ++ wX7 cy o16 o16a o16b o16c o16d o16e o16f ++ wX7 cy o27 o27a o27b o27c o27d o27e o27f ++ wX6 cy o38 o38a o38b o38c ++ wX6 cy o49 o49a o49b o49c ++ wX3 cy o60 o60a aP fP) := hD
  refine lv_aload_n hx hb dX8_init_70 rfl (lv_at hl 0 rfl) ?_
  refine va_new (ci := 0) (fs := [.int 0, .null, .null]) (C := RX0) (T := TX0) (N := 3) hx hb hts in_X8_init_X0 tyX0 tyX0_ok hown (hts (.classLink RX8 43 RX0) (by decide +kernel)) (hts (.instantiable RX0 3) (by decide +kernel)) (hts (.initialized RX0) (by decide +kernel)) hK hP hD hS hA rfl (fun j hj => by rcases (show j = 0 ∨ j = 1 ∨ j = 2 by omega) with rfl | rfl | rfl <;> rfl) (Nat.le_of_ble_eq_true rfl) (Nat.le_of_ble_eq_true rfl) dX8_init_71 (fun o71 H hP hD hS => ?_)
  refine W.widen (k := 91) (n := 978) (by omega) (by omega) ?_
  refine lv_dup hx hb dX8_init_74 rfl ?_
  refine rp_callN (Ts := wsX8_init) hx hb hml hown hts hK hN hA hD hP hS hl.1 (c_X0_init l D cy o71) gX8_init_X0_init_n45 rfl ⟨rfl, rfl⟩ (by decide +kernel) hN.2.2.2.2.2.1 (by decide +kernel) rfl (by decide +kernel) ⟨Nat.le_of_ble_eq_true rfl, Nat.le_of_ble_eq_true rfl⟩ ⟨Nat.le_of_ble_eq_true rfl, Nat.le_of_ble_eq_true rfl⟩ (Nat.le_of_ble_eq_true rfl) dX8_init_75 (fun u H locs hq hP hD hS => ?_)
  obtain ⟨o71a, o71b, rfl⟩ := hq
  refine W.widen (k := 93) (n := 1008) (by omega) (by omega) ?_
  refine va_putF (C := RX8) (T := TX8) (N := 10) hx hb hts in_X8_init_X8 tyX8 tyX8_ok nmX8 hown hK hP hD hS 0 rfl rfl 6 (by decide) (hts (.fieldLink RX8 46 "UnsaidWell" "book" "LUnsaidWell$Book;") (by decide +kernel)) (fun _ h => h) rfl hin rfl (tyX8_ok 6 (by decide)) rfl rfl (Nat.le_of_ble_eq_true rfl) dX8_init_78 (fun H locs hP hD hS => ?_)
  have hP : va_P D classes ([(h0, .inr (8, [.ref o5, .ref o16, .ref o27, .ref o38, .ref o49, .ref o60, .ref o71, .null, .null, .null]))] ++ wX4 cy o5 o5a ++ wX7 cy o16 o16a o16b o16c o16d o16e o16f ++ wX7 cy o27 o27a o27b o27c o27d o27e o27f ++ wX6 cy o38 o38a o38b o38c ++ wX6 cy o49 o49a o49b o49c ++ wX3 cy o60 o60a aP fP ++ wX0 cy o71 o71a o71b) H := hP
  have hD : va_D A_ ([(h0, .inr (8, [.ref o5, .ref o16, .ref o27, .ref o38, .ref o49, .ref o60, .ref o71, .null, .null, .null]))] ++ wX4 cy o5 o5a ++ wX7 cy o16 o16a o16b o16c o16d o16e o16f ++ wX7 cy o27 o27a o27b o27c o27d o27e o27f ++ wX6 cy o38 o38a o38b o38c ++ wX6 cy o49 o49a o49b o49c ++ wX3 cy o60 o60a aP fP ++ wX0 cy o71 o71a o71b) := hD
  refine lv_aload_n hx hb dX8_init_81 rfl (lv_at hl 0 rfl) ?_
  refine va_new (ci := 1) (fs := [.int 0]) (C := RX1) (T := TX1) (N := 1) hx hb hts in_X8_init_X1 tyX1 tyX1_ok hown (hts (.classLink RX8 50 RX1) (by decide +kernel)) (hts (.instantiable RX1 1) (by decide +kernel)) (hts (.initialized RX1) (by decide +kernel)) hK hP hD hS hA rfl (fun j hj => by rcases (show j = 0 by omega) with rfl <;> rfl) (Nat.le_of_ble_eq_true rfl) (Nat.le_of_ble_eq_true rfl) dX8_init_82 (fun o82 H hP hD hS => ?_)
  refine W.widen (k := 94) (n := 1009) (by omega) (by omega) ?_
  refine lv_dup hx hb dX8_init_85 rfl ?_
  refine rp_callN (Ts := wsX8_init) hx hb hml hown hts hK hN hA hD hP hS hl.1 (c_X1_init l D cy o82) gX8_init_X1_init_n52 rfl ⟨rfl, rfl⟩ (by decide +kernel) hN.2.2.2.2.2.2.1 (by decide +kernel) rfl (by decide +kernel) ⟨Nat.le_of_ble_eq_true rfl, Nat.le_of_ble_eq_true rfl⟩ ⟨Nat.le_of_ble_eq_true rfl, Nat.le_of_ble_eq_true rfl⟩ (Nat.le_of_ble_eq_true rfl) dX8_init_86 (fun u H locs hq hP hD hS => ?_)
  obtain rfl := hq
  refine W.widen (k := 94) (n := 1009) (by omega) (by omega) ?_
  refine va_putF (C := RX8) (T := TX8) (N := 10) hx hb hts in_X8_init_X8 tyX8 tyX8_ok nmX8 hown hK hP hD hS 0 rfl rfl 7 (by decide) (hts (.fieldLink RX8 53 "UnsaidWell" "draws" "LUnsaidWell$Draws;") (by decide +kernel)) (fun _ h => h) rfl hin rfl (tyX8_ok 7 (by decide)) rfl rfl (Nat.le_of_ble_eq_true rfl) dX8_init_89 (fun H locs hP hD hS => ?_)
  have hP : va_P D classes ([(h0, .inr (8, [.ref o5, .ref o16, .ref o27, .ref o38, .ref o49, .ref o60, .ref o71, .ref o82, .null, .null]))] ++ wX4 cy o5 o5a ++ wX7 cy o16 o16a o16b o16c o16d o16e o16f ++ wX7 cy o27 o27a o27b o27c o27d o27e o27f ++ wX6 cy o38 o38a o38b o38c ++ wX6 cy o49 o49a o49b o49c ++ wX3 cy o60 o60a aP fP ++ wX0 cy o71 o71a o71b ++ wX1 cy o82) H := hP
  have hD : va_D A_ ([(h0, .inr (8, [.ref o5, .ref o16, .ref o27, .ref o38, .ref o49, .ref o60, .ref o71, .ref o82, .null, .null]))] ++ wX4 cy o5 o5a ++ wX7 cy o16 o16a o16b o16c o16d o16e o16f ++ wX7 cy o27 o27a o27b o27c o27d o27e o27f ++ wX6 cy o38 o38a o38b o38c ++ wX6 cy o49 o49a o49b o49c ++ wX3 cy o60 o60a aP fP ++ wX0 cy o71 o71a o71b ++ wX1 cy o82) := hD
  refine lv_aload_n hx hb dX8_init_92 rfl (lv_at hl 0 rfl) ?_
  refine va_new (ci := 2) (fs := [.null, .null, .null]) (C := RX2) (T := TX2) (N := 3) hx hb hts in_X8_init_X2 tyX2 tyX2_ok hown (hts (.classLink RX8 57 RX2) (by decide +kernel)) (hts (.instantiable RX2 3) (by decide +kernel)) (hts (.initialized RX2) (by decide +kernel)) hK hP hD hS hA rfl (fun j hj => by rcases (show j = 0 ∨ j = 1 ∨ j = 2 by omega) with rfl | rfl | rfl <;> rfl) (Nat.le_of_ble_eq_true rfl) (Nat.le_of_ble_eq_true rfl) dX8_init_93 (fun o93 H hP hD hS => ?_)
  refine W.widen (k := 95) (n := 1012) (by omega) (by omega) ?_
  refine lv_dup hx hb dX8_init_96 rfl ?_
  refine rp_callC (Ts := wsX8_init) hx hb hml hown hts hK hN hA hD hP hS hl.1 (c_X2_init l D cy o93) gX8_init_X2_init rfl ⟨rfl, rfl⟩ (by decide +kernel) (by decide +kernel) (by decide +kernel) rfl (by decide +kernel) ⟨Nat.le_of_ble_eq_true rfl, Nat.le_of_ble_eq_true rfl⟩ ⟨Nat.le_of_ble_eq_true rfl, Nat.le_of_ble_eq_true rfl⟩ (Nat.le_of_ble_eq_true rfl) dX8_init_97 (fun u H locs hq hP hD hS => ?_)
  obtain ⟨o93a, o93b, o93c, aI, fI, hfI, rfl⟩ := hq
  refine W.widen (k := 106) (n := 1082) (by omega) (by omega) ?_
  refine va_putF (C := RX8) (T := TX8) (N := 10) hx hb hts in_X8_init_X8 tyX8 tyX8_ok nmX8 hown hK hP hD hS 0 rfl rfl 8 (by decide) (hts (.fieldLink RX8 60 "UnsaidWell" "images" "LUnsaidWell$Images;") (by decide +kernel)) (fun _ h => h) rfl hin rfl (tyX8_ok 8 (by decide)) rfl rfl (Nat.le_of_ble_eq_true rfl) dX8_init_100 (fun H locs hP hD hS => ?_)
  have hP : va_P D classes ([(h0, .inr (8, [.ref o5, .ref o16, .ref o27, .ref o38, .ref o49, .ref o60, .ref o71, .ref o82, .ref o93, .null]))] ++ wX4 cy o5 o5a ++ wX7 cy o16 o16a o16b o16c o16d o16e o16f ++ wX7 cy o27 o27a o27b o27c o27d o27e o27f ++ wX6 cy o38 o38a o38b o38c ++ wX6 cy o49 o49a o49b o49c ++ wX3 cy o60 o60a aP fP ++ wX0 cy o71 o71a o71b ++ wX1 cy o82 ++ wX2 cy o93 o93a o93b o93c aI fI) H := hP
  have hD : va_D A_ ([(h0, .inr (8, [.ref o5, .ref o16, .ref o27, .ref o38, .ref o49, .ref o60, .ref o71, .ref o82, .ref o93, .null]))] ++ wX4 cy o5 o5a ++ wX7 cy o16 o16a o16b o16c o16d o16e o16f ++ wX7 cy o27 o27a o27b o27c o27d o27e o27f ++ wX6 cy o38 o38a o38b o38c ++ wX6 cy o49 o49a o49b o49c ++ wX3 cy o60 o60a aP fP ++ wX0 cy o71 o71a o71b ++ wX1 cy o82 ++ wX2 cy o93 o93a o93b o93c aI fI) := hD
  refine lv_aload_n hx hb dX8_init_103 rfl (lv_at hl 0 rfl) ?_
  refine va_new (ci := 5) (fs := [.int 0, .int 0, .null]) (C := RX5) (T := TX5) (N := 3) hx hb hts in_X8_init_X5 tyX5 tyX5_ok hown (hts (.classLink RX8 64 RX5) (by decide +kernel)) (hts (.instantiable RX5 3) (by decide +kernel)) (hts (.initialized RX5) (by decide +kernel)) hK hP hD hS hA rfl (fun j hj => by rcases (show j = 0 ∨ j = 1 ∨ j = 2 by omega) with rfl | rfl | rfl <;> rfl) (Nat.le_of_ble_eq_true rfl) (Nat.le_of_ble_eq_true rfl) dX8_init_104 (fun o104 H hP hD hS => ?_)
  refine W.widen (k := 107) (n := 1085) (by omega) (by omega) ?_
  refine lv_dup hx hb dX8_init_107 rfl ?_
  refine rp_callN (Ts := wsX8_init) hx hb hml hown hts hK hN hA hD hP hS hl.1 (c_X5_init l D cy o104) gX8_init_X5_init_n66 rfl ⟨rfl, rfl⟩ (by decide +kernel) hN.2.2.2.2.2.2.2.2 (by decide +kernel) rfl (by decide +kernel) ⟨Nat.le_of_ble_eq_true rfl, Nat.le_of_ble_eq_true rfl⟩ ⟨Nat.le_of_ble_eq_true rfl, Nat.le_of_ble_eq_true rfl⟩ (Nat.le_of_ble_eq_true rfl) dX8_init_108 (fun u H locs hq hP hD hS => ?_)
  obtain ⟨o104a, rfl⟩ := hq
  refine W.widen (k := 108) (n := 1095) (by omega) (by omega) ?_
  refine va_putF (C := RX8) (T := TX8) (N := 10) hx hb hts in_X8_init_X8 tyX8 tyX8_ok nmX8 hown hK hP hD hS 0 rfl rfl 9 (by decide) (hts (.fieldLink RX8 67 "UnsaidWell" "riddle" "LUnsaidWell$Riddle;") (by decide +kernel)) (fun _ h => h) rfl hin rfl (tyX8_ok 9 (by decide)) rfl rfl (Nat.le_of_ble_eq_true rfl) dX8_init_111 (fun H locs hP hD hS => ?_)
  have hP : va_P D classes ([(h0, .inr (8, [.ref o5, .ref o16, .ref o27, .ref o38, .ref o49, .ref o60, .ref o71, .ref o82, .ref o93, .ref o104]))] ++ wX4 cy o5 o5a ++ wX7 cy o16 o16a o16b o16c o16d o16e o16f ++ wX7 cy o27 o27a o27b o27c o27d o27e o27f ++ wX6 cy o38 o38a o38b o38c ++ wX6 cy o49 o49a o49b o49c ++ wX3 cy o60 o60a aP fP ++ wX0 cy o71 o71a o71b ++ wX1 cy o82 ++ wX2 cy o93 o93a o93b o93c aI fI ++ wX5 cy o104 o104a) H := hP
  have hD : va_D A_ ([(h0, .inr (8, [.ref o5, .ref o16, .ref o27, .ref o38, .ref o49, .ref o60, .ref o71, .ref o82, .ref o93, .ref o104]))] ++ wX4 cy o5 o5a ++ wX7 cy o16 o16a o16b o16c o16d o16e o16f ++ wX7 cy o27 o27a o27b o27c o27d o27e o27f ++ wX6 cy o38 o38a o38b o38c ++ wX6 cy o49 o49a o49b o49c ++ wX3 cy o60 o60a aP fP ++ wX0 cy o71 o71a o71b ++ wX1 cy o82 ++ wX2 cy o93 o93a o93b o93c aI fI ++ wX5 cy o104 o104a) := hD
  obtain ⟨ad, e0, hP, hD⟩ := x8_end hP hD hfP hfI
  exact hret hP hD hS dX8_init_114 ⟨ad, e0, rfl⟩
