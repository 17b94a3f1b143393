set_option maxHeartbeats 1000000 in
set_option maxRecDepth 100000 in
theorem lw_c14 {p : Program} {l : Launch} {e : Env} {s : State} {m : MethodId} {below : List Frame} {meth : Method} {c : Code} {b L : Nat} {xs : Nat → Int32} {D : va_G} {cy : Nat → ClassId} {ad ad2 : Nat → Nat} (E : lwE p s m c b L xs D cy ad ad2) {j : Nat} {x3 : Int32} (hj : 4 * j + 4 ≤ L) (ex : x3 = nI (4 * j)) (K : lwK p l e s m b below meth c D cy ad ad2 x3) {y z : Nat} {σ μ : Nat → Nat → Int32} (hR : Rel y z σ μ) {H : Heap} {locs : List Loc} {ls : Array Slot} (hPX : va_P D classes (rw_ 109 ad (cfX ad cy y z) σ) H) (hPM : va_P D classes (rw_ 19 ad2 (cfM ad2 cy) μ) H) (hS : va_S (lA s) s.heap H locs) (hl : lv_has ls 4 [(0, .ref b), (1, .ref (ad 0)), (2, .ref (ad2 0)), (3, .int x3)]) : W p l e room_1 s m #[Value.ref b] below meth c H locs 128 1954 (lw_Z below #[Value.ref b] s) (F0 m 528 ls []) := by
  obtain ⟨hx, hb, hml, hown, hts, hK, hX, hbl, hDX, hDM, hne, hL⟩ := E
  obtain ⟨k, n, nx, ct, len, t, sd, h⟩ := hR
  have hA : ∀ q : Nat, s.heap.size ≤ q → lA s q := fun _ h => h
  have hbA : ¬ lA s b := Nat.not_le.mpr hbl
  have i1 : vp_in (x3 + 1) L := i_in 1 (by decide) hL hj ex
  have i2 : vp_in (x3 + 2) L := i_in 2 (by decide) hL hj ex
  have i3 : vp_in (x3 + 3) L := i_in 3 (by decide) hL hj ex
  refine lv_aload_n hx hb dL_law_528 rfl (lv_at hl 1 rfl) ?_
  refine lv_aload_n hx hb dL_law_529 rfl (lv_at hl 0 rfl) ?_
  refine lv_iload_n hx hb dL_law_530 rfl (lv_at hl 3 rfl) ?_
  refine lv_iconst (v := 1) hx hb dL_law_531 (by decide) ?_
  refine lv_iadd hx hb dL_law_532 ?_
  refine va_sld hx hb hX hbl hbA hS i1 dL_law_533 ?_
  refine lc_I (na := 1) hx hb hml hown hts hK hA (hDX y z) hPX hPM hne hS hl.1 0 (by decide) (kX8 _) rfl [.int (xs (x3 + 1).toNatClampNeg)] (c_X8_drift l D cy ad y z σ n k nx ct sd (xs (x3 + 1).toNatClampNeg) h.yz h.hn h.en h.hk h.ek h.hnx h.enx h.hct h.ect h.hsd.1 h.hsd.2.1) gL_law_X8_drift rfl (by decide +kernel) rfl ⟨Nat.le_of_ble_eq_true rfl, Nat.le_of_ble_eq_true rfl⟩ ⟨rfl, rfl⟩ ⟨Nat.le_of_ble_eq_true rfl, Nat.le_of_ble_eq_true rfl⟩ rfl (Nat.le_of_ble_eq_true rfl) dL_law_534 (fun v_ τ_ H locs hqx hPX hPM hS => ?_)
  obtain ⟨rfl, rfl⟩ := hqx
  refine lv_aload_n hx hb dL_law_537 rfl (lv_at hl 2 rfl) ?_
  refine lv_aload_n hx hb dL_law_538 rfl (lv_at hl 0 rfl) ?_
  refine lv_iload_n hx hb dL_law_539 rfl (lv_at hl 3 rfl) ?_
  refine lv_iconst (v := 1) hx hb dL_law_540 (by decide) ?_
  refine lv_iadd hx hb dL_law_541 ?_
  refine va_sld hx hb hX hbl hbA hS i1 dL_law_542 ?_
  refine lc_I (na := 1) hx hb hml hown hts hK hA hDM hPM hPX (fun r r2 h1 h2 q => hne r2 r h2 h1 q.symm) hS hl.1 0 (by decide) (kX9 _) rfl [.int (xs (x3 + 1).toNatClampNeg)] (c_X9_drift l D cy ad2 μ n k ct sd (xs (x3 + 1).toNatClampNeg) h.hn h.mn h.hk h.mk h.hct h.mct h.hsd.1 h.hsd.2.2) gL_law_X9_drift rfl (by decide +kernel) rfl ⟨Nat.le_of_ble_eq_true rfl, Nat.le_of_ble_eq_true rfl⟩ ⟨rfl, rfl⟩ ⟨Nat.le_of_ble_eq_true rfl, Nat.le_of_ble_eq_true rfl⟩ rfl (Nat.le_of_ble_eq_true rfl) dL_law_543 (fun w_ τm_ H locs hqm hPM hPX hS => ?_)
  obtain ⟨rfl, rfl⟩ := hqm
  refine lv_icmp_eq (tgt := 916) hx hb dL_law_546 (by decide) (fun cc => ?_) (fun cc => ?_)
  · exact K y z _ _ _ _ _ (op_drift (v := xs (x3 + 1).toNatClampNeg) h).2 hPX hPM hS hl
  · exact absurd (op_drift (v := xs (x3 + 1).toNatClampNeg) h).1 cc

set_option maxHeartbeats 1000000 in
set_option maxRecDepth 100000 in
theorem lw_c15 {p : Program} {l : Launch} {e : Env} {s : State} {m : MethodId} {below : List Frame} {meth : Method} {c : Code} {b L : Nat} {xs : Nat → Int32} {D : va_G} {cy : Nat → ClassId} {ad ad2 : Nat → Nat} (E : lwE p s m c b L xs D cy ad ad2) {j : Nat} {x3 : Int32} (hj : 4 * j + 4 ≤ L) (ex : x3 = nI (4 * j)) (K : lwK p l e s m b below meth c D cy ad ad2 x3) {y z : Nat} {σ μ : Nat → Nat → Int32} (hR : Rel y z σ μ) {H : Heap} {locs : List Loc} {ls : Array Slot} (hPX : va_P D classes (rw_ 109 ad (cfX ad cy y z) σ) H) (hPM : va_P D classes (rw_ 19 ad2 (cfM ad2 cy) μ) H) (hS : va_S (lA s) s.heap H locs) (hl : lv_has ls 4 [(0, .ref b), (1, .ref (ad 0)), (2, .ref (ad2 0)), (3, .int x3)]) : W p l e room_1 s m #[Value.ref b] below meth c H locs 128 1954 (lw_Z below #[Value.ref b] s) (F0 m 551 ls []) := by
  obtain ⟨hx, hb, hml, hown, hts, hK, hX, hbl, hDX, hDM, hne, hL⟩ := E
  obtain ⟨k, n, nx, ct, len, t, sd, h⟩ := hR
  have hA : ∀ q : Nat, s.heap.size ≤ q → lA s q := fun _ h => h
  have hbA : ¬ lA s b := Nat.not_le.mpr hbl
  have i1 : vp_in (x3 + 1) L := i_in 1 (by decide) hL hj ex
  have i2 : vp_in (x3 + 2) L := i_in 2 (by decide) hL hj ex
  have i3 : vp_in (x3 + 3) L := i_in 3 (by decide) hL hj ex
  refine lv_aload_n hx hb dL_law_551 rfl (lv_at hl 1 rfl) ?_
  refine lc_I (na := 0) hx hb hml hown hts hK hA (hDX y z) hPX hPM hne hS hl.1 0 (by decide) (kX8 _) rfl [] (c_X8_undo l D cy ad y z σ nx ct h.hnx h.enx h.hct h.ect) gL_law_X8_undo rfl (by decide +kernel) rfl ⟨Nat.le_of_ble_eq_true rfl, Nat.le_of_ble_eq_true rfl⟩ ⟨rfl, rfl⟩ ⟨Nat.le_of_ble_eq_true rfl, Nat.le_of_ble_eq_true rfl⟩ rfl (Nat.le_of_ble_eq_true rfl) dL_law_552 (fun v_ τ_ H locs hqx hPX hPM hS => ?_)
  obtain ⟨rfl, rfl⟩ := hqx
  refine lv_aload_n hx hb dL_law_555 rfl (lv_at hl 2 rfl) ?_
  refine lc_I (na := 0) hx hb hml hown hts hK hA hDM hPM hPX (fun r r2 h1 h2 q => hne r2 r h2 h1 q.symm) hS hl.1 0 (by decide) (kX9 _) rfl [] (c_X9_undo l D cy ad2 μ ct h.hct h.mct) gL_law_X9_undo rfl (by decide +kernel) rfl ⟨Nat.le_of_ble_eq_true rfl, Nat.le_of_ble_eq_true rfl⟩ ⟨rfl, rfl⟩ ⟨Nat.le_of_ble_eq_true rfl, Nat.le_of_ble_eq_true rfl⟩ rfl (Nat.le_of_ble_eq_true rfl) dL_law_556 (fun w_ τm_ H locs hqm hPM hPX hS => ?_)
  obtain ⟨rfl, rfl⟩ := hqm
  refine lv_icmp_eq (tgt := 916) hx hb dL_law_559 (by decide) (fun cc => ?_) (fun cc => ?_)
  · exact K y z _ _ _ _ _ (op_undo h).2 hPX hPM hS hl
  · exact absurd (op_undo h).1 cc

set_option maxHeartbeats 1000000 in
set_option maxRecDepth 100000 in
theorem lw_c16 {p : Program} {l : Launch} {e : Env} {s : State} {m : MethodId} {below : List Frame} {meth : Method} {c : Code} {b L : Nat} {xs : Nat → Int32} {D : va_G} {cy : Nat → ClassId} {ad ad2 : Nat → Nat} (E : lwE p s m c b L xs D cy ad ad2) {j : Nat} {x3 : Int32} (hj : 4 * j + 4 ≤ L) (ex : x3 = nI (4 * j)) (K : lwK p l e s m b below meth c D cy ad ad2 x3) {y z : Nat} {σ μ : Nat → Nat → Int32} (hR : Rel y z σ μ) {H : Heap} {locs : List Loc} {ls : Array Slot} (hPX : va_P D classes (rw_ 109 ad (cfX ad cy y z) σ) H) (hPM : va_P D classes (rw_ 19 ad2 (cfM ad2 cy) μ) H) (hS : va_S (lA s) s.heap H locs) (hl : lv_has ls 4 [(0, .ref b), (1, .ref (ad 0)), (2, .ref (ad2 0)), (3, .int x3)]) : W p l e room_1 s m #[Value.ref b] below meth c H locs 128 1954 (lw_Z below #[Value.ref b] s) (F0 m 564 ls []) := by
  obtain ⟨hx, hb, hml, hown, hts, hK, hX, hbl, hDX, hDM, hne, hL⟩ := E
  obtain ⟨k, n, nx, ct, len, t, sd, h⟩ := hR
  have hA : ∀ q : Nat, s.heap.size ≤ q → lA s q := fun _ h => h
  have hbA : ¬ lA s b := Nat.not_le.mpr hbl
  have i1 : vp_in (x3 + 1) L := i_in 1 (by decide) hL hj ex
  have i2 : vp_in (x3 + 2) L := i_in 2 (by decide) hL hj ex
  have i3 : vp_in (x3 + 3) L := i_in 3 (by decide) hL hj ex
  refine lv_aload_n hx hb dL_law_564 rfl (lv_at hl 1 rfl) ?_
  refine lv_aload_n hx hb dL_law_565 rfl (lv_at hl 0 rfl) ?_
  refine lv_iload_n hx hb dL_law_566 rfl (lv_at hl 3 rfl) ?_
  refine lv_iconst (v := 1) hx hb dL_law_567 (by decide) ?_
  refine lv_iadd hx hb dL_law_568 ?_
  refine va_sld hx hb hX hbl hbA hS i1 dL_law_569 ?_
  refine lv_aload_n hx hb dL_law_570 rfl (lv_at hl 0 rfl) ?_
  refine lv_iload_n hx hb dL_law_571 rfl (lv_at hl 3 rfl) ?_
  refine lv_iconst (v := 2) hx hb dL_law_572 (by decide) ?_
  refine lv_iadd hx hb dL_law_573 ?_
  refine va_sld hx hb hX hbl hbA hS i2 dL_law_574 ?_
  refine lv_aload_n hx hb dL_law_575 rfl (lv_at hl 0 rfl) ?_
  refine lv_iload_n hx hb dL_law_576 rfl (lv_at hl 3 rfl) ?_
  refine lv_iconst (v := 3) hx hb dL_law_577 (by decide) ?_
  refine lv_iadd hx hb dL_law_578 ?_
  refine va_sld hx hb hX hbl hbA hS i3 dL_law_579 ?_
  refine lc_I (na := 3) hx hb hml hown hts hK hA (hDX y z) hPX hPM hne hS hl.1 0 (by decide) (kX8 _) rfl [.int (xs (x3 + 1).toNatClampNeg), .int (xs (x3 + 2).toNatClampNeg), .int (xs (x3 + 3).toNatClampNeg)] (c_X8_state l D cy ad y z σ n (xs (x3 + 1).toNatClampNeg) (xs (x3 + 2).toNatClampNeg) (xs (x3 + 3).toNatClampNeg) h.yz h.hn h.en) gL_law_X8_state rfl (by decide +kernel) rfl ⟨Nat.le_of_ble_eq_true rfl, Nat.le_of_ble_eq_true rfl⟩ ⟨rfl, rfl⟩ ⟨Nat.le_of_ble_eq_true rfl, Nat.le_of_ble_eq_true rfl⟩ rfl (Nat.le_of_ble_eq_true rfl) dL_law_580 (fun v_ τ_ H locs hqx hPX hPM hS => ?_)
  obtain ⟨rfl, rfl⟩ := hqx
  refine lv_aload_n hx hb dL_law_583 rfl (lv_at hl 2 rfl) ?_
  refine lv_aload_n hx hb dL_law_584 rfl (lv_at hl 0 rfl) ?_
  refine lv_iload_n hx hb dL_law_585 rfl (lv_at hl 3 rfl) ?_
  refine lv_iconst (v := 1) hx hb dL_law_586 (by decide) ?_
  refine lv_iadd hx hb dL_law_587 ?_
  refine va_sld hx hb hX hbl hbA hS i1 dL_law_588 ?_
  refine lv_aload_n hx hb dL_law_589 rfl (lv_at hl 0 rfl) ?_
  refine lv_iload_n hx hb dL_law_590 rfl (lv_at hl 3 rfl) ?_
  refine lv_iconst (v := 2) hx hb dL_law_591 (by decide) ?_
  refine lv_iadd hx hb dL_law_592 ?_
  refine va_sld hx hb hX hbl hbA hS i2 dL_law_593 ?_
  refine lv_aload_n hx hb dL_law_594 rfl (lv_at hl 0 rfl) ?_
  refine lv_iload_n hx hb dL_law_595 rfl (lv_at hl 3 rfl) ?_
  refine lv_iconst (v := 3) hx hb dL_law_596 (by decide) ?_
  refine lv_iadd hx hb dL_law_597 ?_
  refine va_sld hx hb hX hbl hbA hS i3 dL_law_598 ?_
  refine lc_I (na := 3) hx hb hml hown hts hK hA hDM hPM hPX (fun r r2 h1 h2 q => hne r2 r h2 h1 q.symm) hS hl.1 0 (by decide) (kX9 _) rfl [.int (xs (x3 + 1).toNatClampNeg), .int (xs (x3 + 2).toNatClampNeg), .int (xs (x3 + 3).toNatClampNeg)] (c_X9_state l D cy ad2 μ n (xs (x3 + 1).toNatClampNeg) (xs (x3 + 2).toNatClampNeg) (xs (x3 + 3).toNatClampNeg) h.hn h.mn) gL_law_X9_state rfl (by decide +kernel) rfl ⟨Nat.le_of_ble_eq_true rfl, Nat.le_of_ble_eq_true rfl⟩ ⟨rfl, rfl⟩ ⟨Nat.le_of_ble_eq_true rfl, Nat.le_of_ble_eq_true rfl⟩ rfl (Nat.le_of_ble_eq_true rfl) dL_law_599 (fun w_ τm_ H locs hqm hPM hPX hS => ?_)
  obtain ⟨rfl, rfl⟩ := hqm
  refine lv_icmp_eq (tgt := 916) hx hb dL_law_602 (by decide) (fun cc => ?_) (fun cc => ?_)
  · exact K y z _ _ _ _ _ h.rel hPX hPM hS hl
  · exact absurd (op_state (v := xs (x3 + 1).toNatClampNeg) (w := xs (x3 + 2).toNatClampNeg) (x := xs (x3 + 3).toNatClampNeg) h) cc

set_option maxHeartbeats 1000000 in
set_option maxRecDepth 100000 in
theorem lw_c17 {p : Program} {l : Launch} {e : Env} {s : State} {m : MethodId} {below : List Frame} {meth : Method} {c : Code} {b L : Nat} {xs : Nat → Int32} {D : va_G} {cy : Nat → ClassId} {ad ad2 : Nat → Nat} (E : lwE p s m c b L xs D cy ad ad2) {j : Nat} {x3 : Int32} (hj : 4 * j + 4 ≤ L) (ex : x3 = nI (4 * j)) (K : lwK p l e s m b below meth c D cy ad ad2 x3) {y z : Nat} {σ μ : Nat → Nat → Int32} (hR : Rel y z σ μ) {H : Heap} {locs : List Loc} {ls : Array Slot} (hPX : va_P D classes (rw_ 109 ad (cfX ad cy y z) σ) H) (hPM : va_P D classes (rw_ 19 ad2 (cfM ad2 cy) μ) H) (hS : va_S (lA s) s.heap H locs) (hl : lv_has ls 4 [(0, .ref b), (1, .ref (ad 0)), (2, .ref (ad2 0)), (3, .int x3)]) : W p l e room_1 s m #[Value.ref b] below meth c H locs 128 1954 (lw_Z below #[Value.ref b] s) (F0 m 607 ls []) := by
  obtain ⟨hx, hb, hml, hown, hts, hK, hX, hbl, hDX, hDM, hne, hL⟩ := E
  obtain ⟨k, n, nx, ct, len, t, sd, h⟩ := hR
  have hA : ∀ q : Nat, s.heap.size ≤ q → lA s q := fun _ h => h
  have hbA : ¬ lA s b := Nat.not_le.mpr hbl
  have i1 : vp_in (x3 + 1) L := i_in 1 (by decide) hL hj ex
  have i2 : vp_in (x3 + 2) L := i_in 2 (by decide) hL hj ex
  have i3 : vp_in (x3 + 3) L := i_in 3 (by decide) hL hj ex
  refine lv_aload_n hx hb dL_law_607 rfl (lv_at hl 1 rfl) ?_
  refine lv_aload_n hx hb dL_law_608 rfl (lv_at hl 0 rfl) ?_
  refine lv_iload_n hx hb dL_law_609 rfl (lv_at hl 3 rfl) ?_
  refine lv_iconst (v := 1) hx hb dL_law_610 (by decide) ?_
  refine lv_iadd hx hb dL_law_611 ?_
  refine va_sld hx hb hX hbl hbA hS i1 dL_law_612 ?_
  refine lv_aload_n hx hb dL_law_613 rfl (lv_at hl 0 rfl) ?_
  refine lv_iload_n hx hb dL_law_614 rfl (lv_at hl 3 rfl) ?_
  refine lv_iconst (v := 2) hx hb dL_law_615 (by decide) ?_
  refine lv_iadd hx hb dL_law_616 ?_
  refine va_sld hx hb hX hbl hbA hS i2 dL_law_617 ?_
  refine lc_I (na := 2) hx hb hml hown hts hK hA (hDX y z) hPX hPM hne hS hl.1 0 (by decide) (kX8 _) rfl [.int (xs (x3 + 1).toNatClampNeg), .int (xs (x3 + 2).toNatClampNeg)] (c_X8_best l D cy ad y z σ n (xs (x3 + 1).toNatClampNeg) (xs (x3 + 2).toNatClampNeg) h.yz h.hn h.en) gL_law_X8_best rfl (by decide +kernel) rfl ⟨Nat.le_of_ble_eq_true rfl, Nat.le_of_ble_eq_true rfl⟩ ⟨rfl, rfl⟩ ⟨Nat.le_of_ble_eq_true rfl, Nat.le_of_ble_eq_true rfl⟩ rfl (Nat.le_of_ble_eq_true rfl) dL_law_618 (fun v_ τ_ H locs hqx hPX hPM hS => ?_)
  obtain ⟨rfl, rfl⟩ := hqx
  refine lv_aload_n hx hb dL_law_621 rfl (lv_at hl 2 rfl) ?_
  refine lv_aload_n hx hb dL_law_622 rfl (lv_at hl 0 rfl) ?_
  refine lv_iload_n hx hb dL_law_623 rfl (lv_at hl 3 rfl) ?_
  refine lv_iconst (v := 1) hx hb dL_law_624 (by decide) ?_
  refine lv_iadd hx hb dL_law_625 ?_
  refine va_sld hx hb hX hbl hbA hS i1 dL_law_626 ?_
  refine lv_aload_n hx hb dL_law_627 rfl (lv_at hl 0 rfl) ?_
  refine lv_iload_n hx hb dL_law_628 rfl (lv_at hl 3 rfl) ?_
  refine lv_iconst (v := 2) hx hb dL_law_629 (by decide) ?_
  refine lv_iadd hx hb dL_law_630 ?_
  refine va_sld hx hb hX hbl hbA hS i2 dL_law_631 ?_
  refine lc_I (na := 2) hx hb hml hown hts hK hA hDM hPM hPX (fun r r2 h1 h2 q => hne r2 r h2 h1 q.symm) hS hl.1 0 (by decide) (kX9 _) rfl [.int (xs (x3 + 1).toNatClampNeg), .int (xs (x3 + 2).toNatClampNeg)] (c_X9_best l D cy ad2 μ n (xs (x3 + 1).toNatClampNeg) (xs (x3 + 2).toNatClampNeg) h.hn h.mn) gL_law_X9_best rfl (by decide +kernel) rfl ⟨Nat.le_of_ble_eq_true rfl, Nat.le_of_ble_eq_true rfl⟩ ⟨rfl, rfl⟩ ⟨Nat.le_of_ble_eq_true rfl, Nat.le_of_ble_eq_true rfl⟩ rfl (Nat.le_of_ble_eq_true rfl) dL_law_632 (fun w_ τm_ H locs hqm hPM hPX hS => ?_)
  obtain ⟨rfl, rfl⟩ := hqm
  refine lv_icmp_eq (tgt := 916) hx hb dL_law_635 (by decide) (fun cc => ?_) (fun cc => ?_)
  · exact K y z _ _ _ _ _ h.rel hPX hPM hS hl
  · exact absurd (op_best (v := xs (x3 + 1).toNatClampNeg) (w := xs (x3 + 2).toNatClampNeg) h) cc

set_option maxHeartbeats 1000000 in
set_option maxRecDepth 100000 in
theorem lw_c18 {p : Program} {l : Launch} {e : Env} {s : State} {m : MethodId} {below : List Frame} {meth : Method} {c : Code} {b L : Nat} {xs : Nat → Int32} {D : va_G} {cy : Nat → ClassId} {ad ad2 : Nat → Nat} (E : lwE p s m c b L xs D cy ad ad2) {j : Nat} {x3 : Int32} (hj : 4 * j + 4 ≤ L) (ex : x3 = nI (4 * j)) (K : lwK p l e s m b below meth c D cy ad ad2 x3) {y z : Nat} {σ μ : Nat → Nat → Int32} (hR : Rel y z σ μ) {H : Heap} {locs : List Loc} {ls : Array Slot} (hPX : va_P D classes (rw_ 109 ad (cfX ad cy y z) σ) H) (hPM : va_P D classes (rw_ 19 ad2 (cfM ad2 cy) μ) H) (hS : va_S (lA s) s.heap H locs) (hl : lv_has ls 4 [(0, .ref b), (1, .ref (ad 0)), (2, .ref (ad2 0)), (3, .int x3)]) : W p l e room_1 s m #[Value.ref b] below meth c H locs 128 1954 (lw_Z below #[Value.ref b] s) (F0 m 640 ls []) := by
  obtain ⟨hx, hb, hml, hown, hts, hK, hX, hbl, hDX, hDM, hne, hL⟩ := E
  obtain ⟨k, n, nx, ct, len, t, sd, h⟩ := hR
  have hA : ∀ q : Nat, s.heap.size ≤ q → lA s q := fun _ h => h
  have hbA : ¬ lA s b := Nat.not_le.mpr hbl
  have i1 : vp_in (x3 + 1) L := i_in 1 (by decide) hL hj ex
  have i2 : vp_in (x3 + 2) L := i_in 2 (by decide) hL hj ex
  have i3 : vp_in (x3 + 3) L := i_in 3 (by decide) hL hj ex
  refine lv_aload_n hx hb dL_law_640 rfl (lv_at hl 1 rfl) ?_
  refine lv_aload_n hx hb dL_law_641 rfl (lv_at hl 0 rfl) ?_
  refine lv_iload_n hx hb dL_law_642 rfl (lv_at hl 3 rfl) ?_
  refine lv_iconst (v := 1) hx hb dL_law_643 (by decide) ?_
  refine lv_iadd hx hb dL_law_644 ?_
  refine va_sld hx hb hX hbl hbA hS i1 dL_law_645 ?_
  refine lv_aload_n hx hb dL_law_646 rfl (lv_at hl 0 rfl) ?_
  refine lv_iload_n hx hb dL_law_647 rfl (lv_at hl 3 rfl) ?_
  refine lv_iconst (v := 2) hx hb dL_law_648 (by decide) ?_
  refine lv_iadd hx hb dL_law_649 ?_
  refine va_sld hx hb hX hbl hbA hS i2 dL_law_650 ?_
  refine lc_I (na := 2) hx hb hml hown hts hK hA (hDX y z) hPX hPM hne hS hl.1 0 (by decide) (kX8 _) rfl [.int (xs (x3 + 1).toNatClampNeg), .int (xs (x3 + 2).toNatClampNeg)] (c_X8_alone l D cy ad y z σ n k (xs (x3 + 1).toNatClampNeg) (xs (x3 + 2).toNatClampNeg) h.yz h.hn h.en h.hk h.ek) gL_law_X8_alone rfl (by decide +kernel) rfl ⟨Nat.le_of_ble_eq_true rfl, Nat.le_of_ble_eq_true rfl⟩ ⟨rfl, rfl⟩ ⟨Nat.le_of_ble_eq_true rfl, Nat.le_of_ble_eq_true rfl⟩ rfl (Nat.le_of_ble_eq_true rfl) dL_law_651 (fun v_ τ_ H locs hqx hPX hPM hS => ?_)
  obtain ⟨rfl, rfl⟩ := hqx
  refine lv_aload_n hx hb dL_law_654 rfl (lv_at hl 2 rfl) ?_
  refine lv_aload_n hx hb dL_law_655 rfl (lv_at hl 0 rfl) ?_
  refine lv_iload_n hx hb dL_law_656 rfl (lv_at hl 3 rfl) ?_
  refine lv_iconst (v := 1) hx hb dL_law_657 (by decide) ?_
  refine lv_iadd hx hb dL_law_658 ?_
  refine va_sld hx hb hX hbl hbA hS i1 dL_law_659 ?_
  refine lv_aload_n hx hb dL_law_660 rfl (lv_at hl 0 rfl) ?_
  refine lv_iload_n hx hb dL_law_661 rfl (lv_at hl 3 rfl) ?_
  refine lv_iconst (v := 2) hx hb dL_law_662 (by decide) ?_
  refine lv_iadd hx hb dL_law_663 ?_
  refine va_sld hx hb hX hbl hbA hS i2 dL_law_664 ?_
  refine lc_I (na := 2) hx hb hml hown hts hK hA hDM hPM hPX (fun r r2 h1 h2 q => hne r2 r h2 h1 q.symm) hS hl.1 0 (by decide) (kX9 _) rfl [.int (xs (x3 + 1).toNatClampNeg), .int (xs (x3 + 2).toNatClampNeg)] (c_X9_alone l D cy ad2 μ n k (xs (x3 + 1).toNatClampNeg) (xs (x3 + 2).toNatClampNeg) h.hn h.mn h.hk h.mk h.arm h.wet h.lev h.rn h.spr) gL_law_X9_alone rfl (by decide +kernel) rfl ⟨Nat.le_of_ble_eq_true rfl, Nat.le_of_ble_eq_true rfl⟩ ⟨rfl, rfl⟩ ⟨Nat.le_of_ble_eq_true rfl, Nat.le_of_ble_eq_true rfl⟩ rfl (Nat.le_of_ble_eq_true rfl) dL_law_665 (fun w_ τm_ H locs hqm hPM hPX hS => ?_)
  obtain ⟨rfl, rfl⟩ := hqm
  refine lv_icmp_eq (tgt := 916) hx hb dL_law_668 (by decide) (fun cc => ?_) (fun cc => ?_)
  · exact K y z _ _ _ _ _ (op_alone (v := xs (x3 + 1).toNatClampNeg) (w := xs (x3 + 2).toNatClampNeg) h).2 hPX hPM hS hl
  · exact absurd (op_alone (v := xs (x3 + 1).toNatClampNeg) (w := xs (x3 + 2).toNatClampNeg) h).1 cc

set_option maxHeartbeats 1000000 in
set_option maxRecDepth 100000 in
theorem lw_c19 {p : Program} {l : Launch} {e : Env} {s : State} {m : MethodId} {below : List Frame} {meth : Method} {c : Code} {b L : Nat} {xs : Nat → Int32} {D : va_G} {cy : Nat → ClassId} {ad ad2 : Nat → Nat} (E : lwE p s m c b L xs D cy ad ad2) {j : Nat} {x3 : Int32} (hj : 4 * j + 4 ≤ L) (ex : x3 = nI (4 * j)) (K : lwK p l e s m b below meth c D cy ad ad2 x3) {y z : Nat} {σ μ : Nat → Nat → Int32} (hR : Rel y z σ μ) {H : Heap} {locs : List Loc} {ls : Array Slot} (hPX : va_P D classes (rw_ 109 ad (cfX ad cy y z) σ) H) (hPM : va_P D classes (rw_ 19 ad2 (cfM ad2 cy) μ) H) (hS : va_S (lA s) s.heap H locs) (hl : lv_has ls 4 [(0, .ref b), (1, .ref (ad 0)), (2, .ref (ad2 0)), (3, .int x3)]) : W p l e room_1 s m #[Value.ref b] below meth c H locs 128 1954 (lw_Z below #[Value.ref b] s) (F0 m 673 ls []) := by
  obtain ⟨hx, hb, hml, hown, hts, hK, hX, hbl, hDX, hDM, hne, hL⟩ := E
  obtain ⟨k, n, nx, ct, len, t, sd, h⟩ := hR
  have hA : ∀ q : Nat, s.heap.size ≤ q → lA s q := fun _ h => h
  have hbA : ¬ lA s b := Nat.not_le.mpr hbl
  have i1 : vp_in (x3 + 1) L := i_in 1 (by decide) hL hj ex
  have i2 : vp_in (x3 + 2) L := i_in 2 (by decide) hL hj ex
  have i3 : vp_in (x3 + 3) L := i_in 3 (by decide) hL hj ex
  refine lv_aload_n hx hb dL_law_673 rfl (lv_at hl 1 rfl) ?_
  refine lv_aload_n hx hb dL_law_674 rfl (lv_at hl 0 rfl) ?_
  refine lv_iload_n hx hb dL_law_675 rfl (lv_at hl 3 rfl) ?_
  refine lv_iconst (v := 1) hx hb dL_law_676 (by decide) ?_
  refine lv_iadd hx hb dL_law_677 ?_
  refine va_sld hx hb hX hbl hbA hS i1 dL_law_678 ?_
  refine lv_aload_n hx hb dL_law_679 rfl (lv_at hl 0 rfl) ?_
  refine lv_iload_n hx hb dL_law_680 rfl (lv_at hl 3 rfl) ?_
  refine lv_iconst (v := 2) hx hb dL_law_681 (by decide) ?_
  refine lv_iadd hx hb dL_law_682 ?_
  refine va_sld hx hb hX hbl hbA hS i2 dL_law_683 ?_
  refine lv_aload_n hx hb dL_law_684 rfl (lv_at hl 0 rfl) ?_
  refine lv_iload_n hx hb dL_law_685 rfl (lv_at hl 3 rfl) ?_
  refine lv_iconst (v := 3) hx hb dL_law_686 (by decide) ?_
  refine lv_iadd hx hb dL_law_687 ?_
  refine va_sld hx hb hX hbl hbA hS i3 dL_law_688 ?_
  refine lc_I (na := 3) hx hb hml hown hts hK hA (hDX y z) hPX hPM hne hS hl.1 0 (by decide) (kX8 _) rfl [.int (xs (x3 + 1).toNatClampNeg), .int (xs (x3 + 2).toNatClampNeg), .int (xs (x3 + 3).toNatClampNeg)] (c_X8_wasUnsaid l D cy ad y z σ n (xs (x3 + 1).toNatClampNeg) (xs (x3 + 2).toNatClampNeg) (xs (x3 + 3).toNatClampNeg) h.yz h.hn h.en) gL_law_X8_wasUnsaid rfl (by decide +kernel) rfl ⟨Nat.le_of_ble_eq_true rfl, Nat.le_of_ble_eq_true rfl⟩ ⟨rfl, rfl⟩ ⟨Nat.le_of_ble_eq_true rfl, Nat.le_of_ble_eq_true rfl⟩ rfl (Nat.le_of_ble_eq_true rfl) dL_law_689 (fun v_ τ_ H locs hqx hPX hPM hS => ?_)
  obtain ⟨rfl, rfl⟩ := hqx
  refine lv_aload_n hx hb dL_law_692 rfl (lv_at hl 2 rfl) ?_
  refine lv_aload_n hx hb dL_law_693 rfl (lv_at hl 0 rfl) ?_
  refine lv_iload_n hx hb dL_law_694 rfl (lv_at hl 3 rfl) ?_
  refine lv_iconst (v := 1) hx hb dL_law_695 (by decide) ?_
  refine lv_iadd hx hb dL_law_696 ?_
  refine va_sld hx hb hX hbl hbA hS i1 dL_law_697 ?_
  refine lv_aload_n hx hb dL_law_698 rfl (lv_at hl 0 rfl) ?_
  refine lv_iload_n hx hb dL_law_699 rfl (lv_at hl 3 rfl) ?_
  refine lv_iconst (v := 2) hx hb dL_law_700 (by decide) ?_
  refine lv_iadd hx hb dL_law_701 ?_
  refine va_sld hx hb hX hbl hbA hS i2 dL_law_702 ?_
  refine lv_aload_n hx hb dL_law_703 rfl (lv_at hl 0 rfl) ?_
  refine lv_iload_n hx hb dL_law_704 rfl (lv_at hl 3 rfl) ?_
  refine lv_iconst (v := 3) hx hb dL_law_705 (by decide) ?_
  refine lv_iadd hx hb dL_law_706 ?_
  refine va_sld hx hb hX hbl hbA hS i3 dL_law_707 ?_
  refine lc_I (na := 3) hx hb hml hown hts hK hA hDM hPM hPX (fun r r2 h1 h2 q => hne r2 r h2 h1 q.symm) hS hl.1 0 (by decide) (kX9 _) rfl [.int (xs (x3 + 1).toNatClampNeg), .int (xs (x3 + 2).toNatClampNeg), .int (xs (x3 + 3).toNatClampNeg)] (c_X9_wasUnsaid l D cy ad2 μ n (xs (x3 + 1).toNatClampNeg) (xs (x3 + 2).toNatClampNeg) (xs (x3 + 3).toNatClampNeg) h.hn h.mn) gL_law_X9_wasUnsaid rfl (by decide +kernel) rfl ⟨Nat.le_of_ble_eq_true rfl, Nat.le_of_ble_eq_true rfl⟩ ⟨rfl, rfl⟩ ⟨Nat.le_of_ble_eq_true rfl, Nat.le_of_ble_eq_true rfl⟩ rfl (Nat.le_of_ble_eq_true rfl) dL_law_708 (fun w_ τm_ H locs hqm hPM hPX hS => ?_)
  obtain ⟨rfl, rfl⟩ := hqm
  refine lv_icmp_eq (tgt := 916) hx hb dL_law_711 (by decide) (fun cc => ?_) (fun cc => ?_)
  · exact K y z _ _ _ _ _ (op_was (v := xs (x3 + 1).toNatClampNeg) (w := xs (x3 + 2).toNatClampNeg) (x := xs (x3 + 3).toNatClampNeg) h).2 hPX hPM hS hl
  · exact absurd (op_was (v := xs (x3 + 1).toNatClampNeg) (w := xs (x3 + 2).toNatClampNeg) (x := xs (x3 + 3).toNatClampNeg) h).1 cc

set_option maxHeartbeats 1000000 in
set_option maxRecDepth 100000 in
theorem lw_c20 {p : Program} {l : Launch} {e : Env} {s : State} {m : MethodId} {below : List Frame} {meth : Method} {c : Code} {b L : Nat} {xs : Nat → Int32} {D : va_G} {cy : Nat → ClassId} {ad ad2 : Nat → Nat} (E : lwE p s m c b L xs D cy ad ad2) {j : Nat} {x3 : Int32} (hj : 4 * j + 4 ≤ L) (ex : x3 = nI (4 * j)) (K : lwK p l e s m b below meth c D cy ad ad2 x3) {y z : Nat} {σ μ : Nat → Nat → Int32} (hR : Rel y z σ μ) {H : Heap} {locs : List Loc} {ls : Array Slot} (hPX : va_P D classes (rw_ 109 ad (cfX ad cy y z) σ) H) (hPM : va_P D classes (rw_ 19 ad2 (cfM ad2 cy) μ) H) (hS : va_S (lA s) s.heap H locs) (hl : lv_has ls 4 [(0, .ref b), (1, .ref (ad 0)), (2, .ref (ad2 0)), (3, .int x3)]) : W p l e room_1 s m #[Value.ref b] below meth c H locs 128 1954 (lw_Z below #[Value.ref b] s) (F0 m 716 ls []) := by
  obtain ⟨hx, hb, hml, hown, hts, hK, hX, hbl, hDX, hDM, hne, hL⟩ := E
  obtain ⟨k, n, nx, ct, len, t, sd, h⟩ := hR
  have hA : ∀ q : Nat, s.heap.size ≤ q → lA s q := fun _ h => h
  have hbA : ¬ lA s b := Nat.not_le.mpr hbl
  have i1 : vp_in (x3 + 1) L := i_in 1 (by decide) hL hj ex
  have i2 : vp_in (x3 + 2) L := i_in 2 (by decide) hL hj ex
  have i3 : vp_in (x3 + 3) L := i_in 3 (by decide) hL hj ex
  refine lv_aload_n hx hb dL_law_716 rfl (lv_at hl 1 rfl) ?_
  refine lv_aload_n hx hb dL_law_717 rfl (lv_at hl 0 rfl) ?_
  refine lv_iload_n hx hb dL_law_718 rfl (lv_at hl 3 rfl) ?_
  refine lv_iconst (v := 1) hx hb dL_law_719 (by decide) ?_
  refine lv_iadd hx hb dL_law_720 ?_
  refine va_sld hx hb hX hbl hbA hS i1 dL_law_721 ?_
  refine lc_I (na := 1) hx hb hml hown hts hK hA (hDX y z) hPX hPM hne hS hl.1 0 (by decide) (kX8 _) rfl [.int (xs (x3 + 1).toNatClampNeg)] (c_X8_drought l D cy ad y z σ (xs (x3 + 1).toNatClampNeg) h.yz) gL_law_X8_drought rfl (by decide +kernel) rfl ⟨Nat.le_of_ble_eq_true rfl, Nat.le_of_ble_eq_true rfl⟩ ⟨rfl, rfl⟩ ⟨Nat.le_of_ble_eq_true rfl, Nat.le_of_ble_eq_true rfl⟩ rfl (Nat.le_of_ble_eq_true rfl) dL_law_722 (fun v_ τ_ H locs hqx hPX hPM hS => ?_)
  obtain ⟨rfl, rfl⟩ := hqx
  refine lv_aload_n hx hb dL_law_725 rfl (lv_at hl 2 rfl) ?_
  refine lv_aload_n hx hb dL_law_726 rfl (lv_at hl 0 rfl) ?_
  refine lv_iload_n hx hb dL_law_727 rfl (lv_at hl 3 rfl) ?_
  refine lv_iconst (v := 1) hx hb dL_law_728 (by decide) ?_
  refine lv_iadd hx hb dL_law_729 ?_
  refine va_sld hx hb hX hbl hbA hS i1 dL_law_730 ?_
  refine lc_I (na := 1) hx hb hml hown hts hK hA hDM hPM hPX (fun r r2 h1 h2 q => hne r2 r h2 h1 q.symm) hS hl.1 0 (by decide) (kX9 _) rfl [.int (xs (x3 + 1).toNatClampNeg)] (c_X9_drought l D cy ad2 μ (xs (x3 + 1).toNatClampNeg)) gL_law_X9_drought rfl (by decide +kernel) rfl ⟨Nat.le_of_ble_eq_true rfl, Nat.le_of_ble_eq_true rfl⟩ ⟨rfl, rfl⟩ ⟨Nat.le_of_ble_eq_true rfl, Nat.le_of_ble_eq_true rfl⟩ rfl (Nat.le_of_ble_eq_true rfl) dL_law_731 (fun w_ τm_ H locs hqm hPM hPX hS => ?_)
  obtain ⟨rfl, rfl⟩ := hqm
  refine lv_icmp_eq (tgt := 916) hx hb dL_law_734 (by decide) (fun cc => ?_) (fun cc => ?_)
  · exact K y z _ _ _ _ _ h.rel hPX hPM hS hl
  · exact absurd (op_drought (v := xs (x3 + 1).toNatClampNeg) h) cc

set_option maxHeartbeats 1000000 in
set_option maxRecDepth 100000 in
theorem lw_c21 {p : Program} {l : Launch} {e : Env} {s : State} {m : MethodId} {below : List Frame} {meth : Method} {c : Code} {b L : Nat} {xs : Nat → Int32} {D : va_G} {cy : Nat → ClassId} {ad ad2 : Nat → Nat} (E : lwE p s m c b L xs D cy ad ad2) {j : Nat} {x3 : Int32} (hj : 4 * j + 4 ≤ L) (ex : x3 = nI (4 * j)) (K : lwK p l e s m b below meth c D cy ad ad2 x3) {y z : Nat} {σ μ : Nat → Nat → Int32} (hR : Rel y z σ μ) {H : Heap} {locs : List Loc} {ls : Array Slot} (hPX : va_P D classes (rw_ 109 ad (cfX ad cy y z) σ) H) (hPM : va_P D classes (rw_ 19 ad2 (cfM ad2 cy) μ) H) (hS : va_S (lA s) s.heap H locs) (hl : lv_has ls 4 [(0, .ref b), (1, .ref (ad 0)), (2, .ref (ad2 0)), (3, .int x3)]) : W p l e room_1 s m #[Value.ref b] below meth c H locs 128 1954 (lw_Z below #[Value.ref b] s) (F0 m 739 ls []) := by
  obtain ⟨hx, hb, hml, hown, hts, hK, hX, hbl, hDX, hDM, hne, hL⟩ := E
  obtain ⟨k, n, nx, ct, len, t, sd, h⟩ := hR
  have hA : ∀ q : Nat, s.heap.size ≤ q → lA s q := fun _ h => h
  have hbA : ¬ lA s b := Nat.not_le.mpr hbl
  have i1 : vp_in (x3 + 1) L := i_in 1 (by decide) hL hj ex
  have i2 : vp_in (x3 + 2) L := i_in 2 (by decide) hL hj ex
  have i3 : vp_in (x3 + 3) L := i_in 3 (by decide) hL hj ex
  refine lv_aload_n hx hb dL_law_739 rfl (lv_at hl 1 rfl) ?_
  refine lv_aload_n hx hb dL_law_740 rfl (lv_at hl 0 rfl) ?_
  refine lv_iload_n hx hb dL_law_741 rfl (lv_at hl 3 rfl) ?_
  refine lv_iconst (v := 1) hx hb dL_law_742 (by decide) ?_
  refine lv_iadd hx hb dL_law_743 ?_
  refine va_sld hx hb hX hbl hbA hS i1 dL_law_744 ?_
  refine lv_aload_n hx hb dL_law_745 rfl (lv_at hl 0 rfl) ?_
  refine lv_iload_n hx hb dL_law_746 rfl (lv_at hl 3 rfl) ?_
  refine lv_iconst (v := 2) hx hb dL_law_747 (by decide) ?_
  refine lv_iadd hx hb dL_law_748 ?_
  refine va_sld hx hb hX hbl hbA hS i2 dL_law_749 ?_
  refine lc_I (na := 2) hx hb hml hown hts hK hA (hDX y z) hPX hPM hne hS hl.1 0 (by decide) (kX8 _) rfl [.int (xs (x3 + 1).toNatClampNeg), .int (xs (x3 + 2).toNatClampNeg)] (c_X8_rainy l D cy ad y z σ (xs (x3 + 1).toNatClampNeg) (xs (x3 + 2).toNatClampNeg)) gL_law_X8_rainy rfl (by decide +kernel) rfl ⟨Nat.le_of_ble_eq_true rfl, Nat.le_of_ble_eq_true rfl⟩ ⟨rfl, rfl⟩ ⟨Nat.le_of_ble_eq_true rfl, Nat.le_of_ble_eq_true rfl⟩ rfl (Nat.le_of_ble_eq_true rfl) dL_law_750 (fun v_ τ_ H locs hqx hPX hPM hS => ?_)
  obtain ⟨rfl, rfl⟩ := hqx
  refine lv_aload_n hx hb dL_law_753 rfl (lv_at hl 2 rfl) ?_
  refine lv_aload_n hx hb dL_law_754 rfl (lv_at hl 0 rfl) ?_
  refine lv_iload_n hx hb dL_law_755 rfl (lv_at hl 3 rfl) ?_
  refine lv_iconst (v := 1) hx hb dL_law_756 (by decide) ?_
  refine lv_iadd hx hb dL_law_757 ?_
  refine va_sld hx hb hX hbl hbA hS i1 dL_law_758 ?_
  refine lv_aload_n hx hb dL_law_759 rfl (lv_at hl 0 rfl) ?_
  refine lv_iload_n hx hb dL_law_760 rfl (lv_at hl 3 rfl) ?_
  refine lv_iconst (v := 2) hx hb dL_law_761 (by decide) ?_
  refine lv_iadd hx hb dL_law_762 ?_
  refine va_sld hx hb hX hbl hbA hS i2 dL_law_763 ?_
  refine lc_I (na := 2) hx hb hml hown hts hK hA hDM hPM hPX (fun r r2 h1 h2 q => hne r2 r h2 h1 q.symm) hS hl.1 0 (by decide) (kX9 _) rfl [.int (xs (x3 + 1).toNatClampNeg), .int (xs (x3 + 2).toNatClampNeg)] (c_X9_rainy l D cy ad2 μ (xs (x3 + 1).toNatClampNeg) (xs (x3 + 2).toNatClampNeg)) gL_law_X9_rainy rfl (by decide +kernel) rfl ⟨Nat.le_of_ble_eq_true rfl, Nat.le_of_ble_eq_true rfl⟩ ⟨rfl, rfl⟩ ⟨Nat.le_of_ble_eq_true rfl, Nat.le_of_ble_eq_true rfl⟩ rfl (Nat.le_of_ble_eq_true rfl) dL_law_764 (fun w_ τm_ H locs hqm hPM hPX hS => ?_)
  obtain ⟨rfl, rfl⟩ := hqm
  refine lv_icmp_eq (tgt := 916) hx hb dL_law_767 (by decide) (fun cc => ?_) (fun cc => ?_)
  · exact K y z _ _ _ _ _ h.rel hPX hPM hS hl
  · exact absurd (op_rainy (v := xs (x3 + 1).toNatClampNeg) (w := xs (x3 + 2).toNatClampNeg)) cc

set_option maxHeartbeats 1000000 in
set_option maxRecDepth 100000 in
theorem lw_c22 {p : Program} {l : Launch} {e : Env} {s : State} {m : MethodId} {below : List Frame} {meth : Method} {c : Code} {b L : Nat} {xs : Nat → Int32} {D : va_G} {cy : Nat → ClassId} {ad ad2 : Nat → Nat} (E : lwE p s m c b L xs D cy ad ad2) {j : Nat} {x3 : Int32} (hj : 4 * j + 4 ≤ L) (ex : x3 = nI (4 * j)) (K : lwK p l e s m b below meth c D cy ad ad2 x3) {y z : Nat} {σ μ : Nat → Nat → Int32} (hR : Rel y z σ μ) {H : Heap} {locs : List Loc} {ls : Array Slot} (hPX : va_P D classes (rw_ 109 ad (cfX ad cy y z) σ) H) (hPM : va_P D classes (rw_ 19 ad2 (cfM ad2 cy) μ) H) (hS : va_S (lA s) s.heap H locs) (hl : lv_has ls 4 [(0, .ref b), (1, .ref (ad 0)), (2, .ref (ad2 0)), (3, .int x3)]) : W p l e room_1 s m #[Value.ref b] below meth c H locs 128 1954 (lw_Z below #[Value.ref b] s) (F0 m 772 ls []) := by
  obtain ⟨hx, hb, hml, hown, hts, hK, hX, hbl, hDX, hDM, hne, hL⟩ := E
  obtain ⟨k, n, nx, ct, len, t, sd, h⟩ := hR
  have hA : ∀ q : Nat, s.heap.size ≤ q → lA s q := fun _ h => h
  have hbA : ¬ lA s b := Nat.not_le.mpr hbl
  have i1 : vp_in (x3 + 1) L := i_in 1 (by decide) hL hj ex
  have i2 : vp_in (x3 + 2) L := i_in 2 (by decide) hL hj ex
  have i3 : vp_in (x3 + 3) L := i_in 3 (by decide) hL hj ex
  refine lv_aload_n hx hb dL_law_772 rfl (lv_at hl 1 rfl) ?_
  refine lv_aload_n hx hb dL_law_773 rfl (lv_at hl 0 rfl) ?_
  refine lv_iload_n hx hb dL_law_774 rfl (lv_at hl 3 rfl) ?_
  refine lv_iconst (v := 1) hx hb dL_law_775 (by decide) ?_
  refine lv_iadd hx hb dL_law_776 ?_
  refine va_sld hx hb hX hbl hbA hS i1 dL_law_777 ?_
  refine lv_aload_n hx hb dL_law_778 rfl (lv_at hl 0 rfl) ?_
  refine lv_iload_n hx hb dL_law_779 rfl (lv_at hl 3 rfl) ?_
  refine lv_iconst (v := 2) hx hb dL_law_780 (by decide) ?_
  refine lv_iadd hx hb dL_law_781 ?_
  refine va_sld hx hb hX hbl hbA hS i2 dL_law_782 ?_
  refine lv_if_eq (tgt := 790) hx hb dL_law_783 (by decide) (fun c783 => ?_) (fun c783 => ?_)
  · skip
    refine lv_iconst (v := 0) hx hb dL_law_790 (by decide) ?_
    refine lc_I (na := 2) hx hb hml hown hts hK hA (hDX y z) hPX hPM hne hS hl.1 0 (by decide) (kX8 _) rfl [.int (xs (x3 + 1).toNatClampNeg), .int 0] (c_X8_write l D cy ad y z σ n t (xs (x3 + 1).toNatClampNeg) (0) h.yz h.hn h.en h.ht h.et (by decide)) gL_law_X8_write rfl (by decide +kernel) rfl ⟨Nat.le_of_ble_eq_true rfl, Nat.le_of_ble_eq_true rfl⟩ ⟨rfl, rfl⟩ ⟨Nat.le_of_ble_eq_true rfl, Nat.le_of_ble_eq_true rfl⟩ rfl (Nat.le_of_ble_eq_true rfl) dL_law_791 (fun v_ τ_ H locs hqx hPX hPM hS => ?_)
    obtain ⟨rfl, rfl⟩ := hqx
    refine lv_aload_n hx hb dL_law_794 rfl (lv_at hl 2 rfl) ?_
    refine lv_aload_n hx hb dL_law_795 rfl (lv_at hl 0 rfl) ?_
    refine lv_iload_n hx hb dL_law_796 rfl (lv_at hl 3 rfl) ?_
    refine lv_iconst (v := 1) hx hb dL_law_797 (by decide) ?_
    refine lv_iadd hx hb dL_law_798 ?_
    refine va_sld hx hb hX hbl hbA hS i1 dL_law_799 ?_
    refine lv_aload_n hx hb dL_law_800 rfl (lv_at hl 0 rfl) ?_
    refine lv_iload_n hx hb dL_law_801 rfl (lv_at hl 3 rfl) ?_
    refine lv_iconst (v := 2) hx hb dL_law_802 (by decide) ?_
    refine lv_iadd hx hb dL_law_803 ?_
    refine va_sld hx hb hX hbl hbA hS i2 dL_law_804 ?_
    refine lv_if_eq (tgt := 812) hx hb dL_law_805 (by decide) (fun c805 => ?_) (fun c805 => ?_)
    · skip
      refine lv_iconst (v := 0) hx hb dL_law_812 (by decide) ?_
      refine lc_I (na := 2) hx hb hml hown hts hK hA hDM hPM hPX (fun r r2 h1 h2 q => hne r2 r h2 h1 q.symm) hS hl.1 0 (by decide) (kX9 _) rfl [.int (xs (x3 + 1).toNatClampNeg), .int 0] (c_X9_write l D cy ad2 μ n t (xs (x3 + 1).toNatClampNeg) (0) h.hn h.mn h.ht h.mt (by decide)) gL_law_X9_write rfl (by decide +kernel) rfl ⟨Nat.le_of_ble_eq_true rfl, Nat.le_of_ble_eq_true rfl⟩ ⟨rfl, rfl⟩ ⟨Nat.le_of_ble_eq_true rfl, Nat.le_of_ble_eq_true rfl⟩ rfl (Nat.le_of_ble_eq_true rfl) dL_law_813 (fun w_ τm_ H locs hqm hPM hPX hS => ?_)
      obtain ⟨rfl, rfl⟩ := hqm
      refine lv_icmp_eq (tgt := 916) hx hb dL_law_816 (by decide) (fun cc => ?_) (fun cc => ?_)
      · exact K y z _ _ _ _ _ (op_write (v := xs (x3 + 1).toNatClampNeg) (w := 0) h).2 hPX hPM hS hl
      · exact absurd (op_write (v := xs (x3 + 1).toNatClampNeg) (w := 0) h).1 cc
    · skip
      exact absurd c783 c805
  · skip
    refine lv_iconst (v := 1) hx hb dL_law_786 (by decide) ?_
    refine lv_goto (tgt := 791) hx hb dL_law_787 (by decide) ?_
    refine lc_I (na := 2) hx hb hml hown hts hK hA (hDX y z) hPX hPM hne hS hl.1 0 (by decide) (kX8 _) rfl [.int (xs (x3 + 1).toNatClampNeg), .int 1] (c_X8_write l D cy ad y z σ n t (xs (x3 + 1).toNatClampNeg) (1) h.yz h.hn h.en h.ht h.et (by decide)) gL_law_X8_write rfl (by decide +kernel) rfl ⟨Nat.le_of_ble_eq_true rfl, Nat.le_of_ble_eq_true rfl⟩ ⟨rfl, rfl⟩ ⟨Nat.le_of_ble_eq_true rfl, Nat.le_of_ble_eq_true rfl⟩ rfl (Nat.le_of_ble_eq_true rfl) dL_law_791 (fun v_ τ_ H locs hqx hPX hPM hS => ?_)
    obtain ⟨rfl, rfl⟩ := hqx
    refine lv_aload_n hx hb dL_law_794 rfl (lv_at hl 2 rfl) ?_
    refine lv_aload_n hx hb dL_law_795 rfl (lv_at hl 0 rfl) ?_
    refine lv_iload_n hx hb dL_law_796 rfl (lv_at hl 3 rfl) ?_
    refine lv_iconst (v := 1) hx hb dL_law_797 (by decide) ?_
    refine lv_iadd hx hb dL_law_798 ?_
    refine va_sld hx hb hX hbl hbA hS i1 dL_law_799 ?_
    refine lv_aload_n hx hb dL_law_800 rfl (lv_at hl 0 rfl) ?_
    refine lv_iload_n hx hb dL_law_801 rfl (lv_at hl 3 rfl) ?_
    refine lv_iconst (v := 2) hx hb dL_law_802 (by decide) ?_
    refine lv_iadd hx hb dL_law_803 ?_
    refine va_sld hx hb hX hbl hbA hS i2 dL_law_804 ?_
    refine lv_if_eq (tgt := 812) hx hb dL_law_805 (by decide) (fun c805 => ?_) (fun c805 => ?_)
    · skip
      exact absurd c805 c783
    · skip
      refine lv_iconst (v := 1) hx hb dL_law_808 (by decide) ?_
      refine lv_goto (tgt := 813) hx hb dL_law_809 (by decide) ?_
      refine lc_I (na := 2) hx hb hml hown hts hK hA hDM hPM hPX (fun r r2 h1 h2 q => hne r2 r h2 h1 q.symm) hS hl.1 0 (by decide) (kX9 _) rfl [.int (xs (x3 + 1).toNatClampNeg), .int 1] (c_X9_write l D cy ad2 μ n t (xs (x3 + 1).toNatClampNeg) (1) h.hn h.mn h.ht h.mt (by decide)) gL_law_X9_write rfl (by decide +kernel) rfl ⟨Nat.le_of_ble_eq_true rfl, Nat.le_of_ble_eq_true rfl⟩ ⟨rfl, rfl⟩ ⟨Nat.le_of_ble_eq_true rfl, Nat.le_of_ble_eq_true rfl⟩ rfl (Nat.le_of_ble_eq_true rfl) dL_law_813 (fun w_ τm_ H locs hqm hPM hPX hS => ?_)
      obtain ⟨rfl, rfl⟩ := hqm
      refine lv_icmp_eq (tgt := 916) hx hb dL_law_816 (by decide) (fun cc => ?_) (fun cc => ?_)
      · exact K y z _ _ _ _ _ (op_write (v := xs (x3 + 1).toNatClampNeg) (w := 1) h).2 hPX hPM hS hl
      · exact absurd (op_write (v := xs (x3 + 1).toNatClampNeg) (w := 1) h).1 cc

set_option maxHeartbeats 1000000 in
set_option maxRecDepth 100000 in
theorem lw_c23 {p : Program} {l : Launch} {e : Env} {s : State} {m : MethodId} {below : List Frame} {meth : Method} {c : Code} {b L : Nat} {xs : Nat → Int32} {D : va_G} {cy : Nat → ClassId} {ad ad2 : Nat → Nat} (E : lwE p s m c b L xs D cy ad ad2) {j : Nat} {x3 : Int32} (hj : 4 * j + 4 ≤ L) (ex : x3 = nI (4 * j)) (K : lwK p l e s m b below meth c D cy ad ad2 x3) {y z : Nat} {σ μ : Nat → Nat → Int32} (hR : Rel y z σ μ) {H : Heap} {locs : List Loc} {ls : Array Slot} (hPX : va_P D classes (rw_ 109 ad (cfX ad cy y z) σ) H) (hPM : va_P D classes (rw_ 19 ad2 (cfM ad2 cy) μ) H) (hS : va_S (lA s) s.heap H locs) (hl : lv_has ls 4 [(0, .ref b), (1, .ref (ad 0)), (2, .ref (ad2 0)), (3, .int x3)]) : W p l e room_1 s m #[Value.ref b] below meth c H locs 128 1954 (lw_Z below #[Value.ref b] s) (F0 m 821 ls []) := by
  obtain ⟨hx, hb, hml, hown, hts, hK, hX, hbl, hDX, hDM, hne, hL⟩ := E
  obtain ⟨k, n, nx, ct, len, t, sd, h⟩ := hR
  have hA : ∀ q : Nat, s.heap.size ≤ q → lA s q := fun _ h => h
  have hbA : ¬ lA s b := Nat.not_le.mpr hbl
  have i1 : vp_in (x3 + 1) L := i_in 1 (by decide) hL hj ex
  have i2 : vp_in (x3 + 2) L := i_in 2 (by decide) hL hj ex
  have i3 : vp_in (x3 + 3) L := i_in 3 (by decide) hL hj ex
  refine lv_aload_n hx hb dL_law_821 rfl (lv_at hl 1 rfl) ?_
  refine lc_I (na := 0) hx hb hml hown hts hK hA (hDX y z) hPX hPM hne hS hl.1 0 (by decide) (kX8 _) rfl [] (c_X8_tear l D cy ad y z σ) gL_law_X8_tear rfl (by decide +kernel) rfl ⟨Nat.le_of_ble_eq_true rfl, Nat.le_of_ble_eq_true rfl⟩ ⟨rfl, rfl⟩ ⟨Nat.le_of_ble_eq_true rfl, Nat.le_of_ble_eq_true rfl⟩ rfl (Nat.le_of_ble_eq_true rfl) dL_law_822 (fun v_ τ_ H locs hqx hPX hPM hS => ?_)
  obtain ⟨rfl, rfl⟩ := hqx
  refine lv_aload_n hx hb dL_law_825 rfl (lv_at hl 2 rfl) ?_
  refine lc_I (na := 0) hx hb hml hown hts hK hA hDM hPM hPX (fun r r2 h1 h2 q => hne r2 r h2 h1 q.symm) hS hl.1 0 (by decide) (kX9 _) rfl [] (c_X9_tear l D cy ad2 μ) gL_law_X9_tear rfl (by decide +kernel) rfl ⟨Nat.le_of_ble_eq_true rfl, Nat.le_of_ble_eq_true rfl⟩ ⟨rfl, rfl⟩ ⟨Nat.le_of_ble_eq_true rfl, Nat.le_of_ble_eq_true rfl⟩ rfl (Nat.le_of_ble_eq_true rfl) dL_law_826 (fun w_ τm_ H locs hqm hPM hPX hS => ?_)
  obtain ⟨rfl, rfl⟩ := hqm
  refine lv_icmp_eq (tgt := 916) hx hb dL_law_829 (by decide) (fun cc => ?_) (fun cc => ?_)
  · exact K y z _ _ _ _ _ (op_tear h).2 hPX hPM hS hl
  · exact absurd (op_tear h).1 cc

set_option maxHeartbeats 1000000 in
set_option maxRecDepth 100000 in
theorem lw_c24 {p : Program} {l : Launch} {e : Env} {s : State} {m : MethodId} {below : List Frame} {meth : Method} {c : Code} {b L : Nat} {xs : Nat → Int32} {D : va_G} {cy : Nat → ClassId} {ad ad2 : Nat → Nat} (E : lwE p s m c b L xs D cy ad ad2) {j : Nat} {x3 : Int32} (hj : 4 * j + 4 ≤ L) (ex : x3 = nI (4 * j)) (K : lwK p l e s m b below meth c D cy ad ad2 x3) {y z : Nat} {σ μ : Nat → Nat → Int32} (hR : Rel y z σ μ) {H : Heap} {locs : List Loc} {ls : Array Slot} (hPX : va_P D classes (rw_ 109 ad (cfX ad cy y z) σ) H) (hPM : va_P D classes (rw_ 19 ad2 (cfM ad2 cy) μ) H) (hS : va_S (lA s) s.heap H locs) (hl : lv_has ls 4 [(0, .ref b), (1, .ref (ad 0)), (2, .ref (ad2 0)), (3, .int x3)]) : W p l e room_1 s m #[Value.ref b] below meth c H locs 128 1954 (lw_Z below #[Value.ref b] s) (F0 m 834 ls []) := by
  obtain ⟨hx, hb, hml, hown, hts, hK, hX, hbl, hDX, hDM, hne, hL⟩ := E
  obtain ⟨k, n, nx, ct, len, t, sd, h⟩ := hR
  have hA : ∀ q : Nat, s.heap.size ≤ q → lA s q := fun _ h => h
  have hbA : ¬ lA s b := Nat.not_le.mpr hbl
  have i1 : vp_in (x3 + 1) L := i_in 1 (by decide) hL hj ex
  have i2 : vp_in (x3 + 2) L := i_in 2 (by decide) hL hj ex
  have i3 : vp_in (x3 + 3) L := i_in 3 (by decide) hL hj ex
  refine lv_aload_n hx hb dL_law_834 rfl (lv_at hl 1 rfl) ?_
  refine lc_I (na := 0) hx hb hml hown hts hK hA (hDX y z) hPX hPM hne hS hl.1 0 (by decide) (kX8 _) rfl [] (c_X8_judge l D cy ad y z σ n t h.yz h.hn h.en h.ht h.et) gL_law_X8_judge rfl (by decide +kernel) rfl ⟨Nat.le_of_ble_eq_true rfl, Nat.le_of_ble_eq_true rfl⟩ ⟨rfl, rfl⟩ ⟨Nat.le_of_ble_eq_true rfl, Nat.le_of_ble_eq_true rfl⟩ rfl (Nat.le_of_ble_eq_true rfl) dL_law_835 (fun v_ τ_ H locs hqx hPX hPM hS => ?_)
  obtain ⟨rfl, rfl⟩ := hqx
  refine lv_aload_n hx hb dL_law_838 rfl (lv_at hl 2 rfl) ?_
  refine lc_I (na := 0) hx hb hml hown hts hK hA hDM hPM hPX (fun r r2 h1 h2 q => hne r2 r h2 h1 q.symm) hS hl.1 0 (by decide) (kX9 _) rfl [] (c_X9_judge l D cy ad2 μ n t h.hn h.mn h.ht h.mt) gL_law_X9_judge rfl (by decide +kernel) rfl ⟨Nat.le_of_ble_eq_true rfl, Nat.le_of_ble_eq_true rfl⟩ ⟨rfl, rfl⟩ ⟨Nat.le_of_ble_eq_true rfl, Nat.le_of_ble_eq_true rfl⟩ rfl (Nat.le_of_ble_eq_true rfl) dL_law_839 (fun w_ τm_ H locs hqm hPM hPX hS => ?_)
  obtain ⟨rfl, rfl⟩ := hqm
  refine lv_icmp_eq (tgt := 916) hx hb dL_law_842 (by decide) (fun cc => ?_) (fun cc => ?_)
  · exact K y z _ _ _ _ _ h.rel hPX hPM hS hl
  · exact absurd (op_judge h) cc

set_option maxHeartbeats 1000000 in
set_option maxRecDepth 100000 in
theorem lw_c25 {p : Program} {l : Launch} {e : Env} {s : State} {m : MethodId} {below : List Frame} {meth : Method} {c : Code} {b L : Nat} {xs : Nat → Int32} {D : va_G} {cy : Nat → ClassId} {ad ad2 : Nat → Nat} (E : lwE p s m c b L xs D cy ad ad2) {j : Nat} {x3 : Int32} (hj : 4 * j + 4 ≤ L) (ex : x3 = nI (4 * j)) (K : lwK p l e s m b below meth c D cy ad ad2 x3) {y z : Nat} {σ μ : Nat → Nat → Int32} (hR : Rel y z σ μ) {H : Heap} {locs : List Loc} {ls : Array Slot} (hPX : va_P D classes (rw_ 109 ad (cfX ad cy y z) σ) H) (hPM : va_P D classes (rw_ 19 ad2 (cfM ad2 cy) μ) H) (hS : va_S (lA s) s.heap H locs) (hl : lv_has ls 4 [(0, .ref b), (1, .ref (ad 0)), (2, .ref (ad2 0)), (3, .int x3)]) : W p l e room_1 s m #[Value.ref b] below meth c H locs 128 1954 (lw_Z below #[Value.ref b] s) (F0 m 847 ls []) := by
  obtain ⟨hx, hb, hml, hown, hts, hK, hX, hbl, hDX, hDM, hne, hL⟩ := E
  obtain ⟨k, n, nx, ct, len, t, sd, h⟩ := hR
  have hA : ∀ q : Nat, s.heap.size ≤ q → lA s q := fun _ h => h
  have hbA : ¬ lA s b := Nat.not_le.mpr hbl
  have i1 : vp_in (x3 + 1) L := i_in 1 (by decide) hL hj ex
  have i2 : vp_in (x3 + 2) L := i_in 2 (by decide) hL hj ex
  have i3 : vp_in (x3 + 3) L := i_in 3 (by decide) hL hj ex
  refine lv_aload_n hx hb dL_law_847 rfl (lv_at hl 1 rfl) ?_
  refine lv_aload_n hx hb dL_law_848 rfl (lv_at hl 0 rfl) ?_
  refine lv_iload_n hx hb dL_law_849 rfl (lv_at hl 3 rfl) ?_
  refine lv_iconst (v := 1) hx hb dL_law_850 (by decide) ?_
  refine lv_iadd hx hb dL_law_851 ?_
  refine va_sld hx hb hX hbl hbA hS i1 dL_law_852 ?_
  refine lc_I (na := 1) hx hb hml hown hts hK hA (hDX y z) hPX hPM hne hS hl.1 0 (by decide) (kX8 _) rfl [.int (xs (x3 + 1).toNatClampNeg)] (c_X8_seed l D cy ad y z σ (xs (x3 + 1).toNatClampNeg)) gL_law_X8_seed rfl (by decide +kernel) rfl ⟨Nat.le_of_ble_eq_true rfl, Nat.le_of_ble_eq_true rfl⟩ ⟨rfl, rfl⟩ ⟨Nat.le_of_ble_eq_true rfl, Nat.le_of_ble_eq_true rfl⟩ rfl (Nat.le_of_ble_eq_true rfl) dL_law_853 (fun v_ τ_ H locs hqx hPX hPM hS => ?_)
  obtain ⟨rfl, rfl⟩ := hqx
  refine lv_aload_n hx hb dL_law_856 rfl (lv_at hl 2 rfl) ?_
  refine lv_aload_n hx hb dL_law_857 rfl (lv_at hl 0 rfl) ?_
  refine lv_iload_n hx hb dL_law_858 rfl (lv_at hl 3 rfl) ?_
  refine lv_iconst (v := 1) hx hb dL_law_859 (by decide) ?_
  refine lv_iadd hx hb dL_law_860 ?_
  refine va_sld hx hb hX hbl hbA hS i1 dL_law_861 ?_
  refine lc_I (na := 1) hx hb hml hown hts hK hA hDM hPM hPX (fun r r2 h1 h2 q => hne r2 r h2 h1 q.symm) hS hl.1 0 (by decide) (kX9 _) rfl [.int (xs (x3 + 1).toNatClampNeg)] (c_X9_seed l D cy ad2 μ (xs (x3 + 1).toNatClampNeg)) gL_law_X9_seed rfl (by decide +kernel) rfl ⟨Nat.le_of_ble_eq_true rfl, Nat.le_of_ble_eq_true rfl⟩ ⟨rfl, rfl⟩ ⟨Nat.le_of_ble_eq_true rfl, Nat.le_of_ble_eq_true rfl⟩ rfl (Nat.le_of_ble_eq_true rfl) dL_law_862 (fun w_ τm_ H locs hqm hPM hPX hS => ?_)
  obtain ⟨rfl, rfl⟩ := hqm
  refine lv_icmp_eq (tgt := 916) hx hb dL_law_865 (by decide) (fun cc => ?_) (fun cc => ?_)
  · exact K y z _ _ _ _ _ (op_seed (v := xs (x3 + 1).toNatClampNeg) h).2 hPX hPM hS hl
  · exact absurd (op_seed (v := xs (x3 + 1).toNatClampNeg) h).1 cc

set_option maxHeartbeats 1000000 in
set_option maxRecDepth 100000 in
theorem lw_c26 {p : Program} {l : Launch} {e : Env} {s : State} {m : MethodId} {below : List Frame} {meth : Method} {c : Code} {b L : Nat} {xs : Nat → Int32} {D : va_G} {cy : Nat → ClassId} {ad ad2 : Nat → Nat} (E : lwE p s m c b L xs D cy ad ad2) {j : Nat} {x3 : Int32} (hj : 4 * j + 4 ≤ L) (ex : x3 = nI (4 * j)) (K : lwK p l e s m b below meth c D cy ad ad2 x3) {y z : Nat} {σ μ : Nat → Nat → Int32} (hR : Rel y z σ μ) {H : Heap} {locs : List Loc} {ls : Array Slot} (hPX : va_P D classes (rw_ 109 ad (cfX ad cy y z) σ) H) (hPM : va_P D classes (rw_ 19 ad2 (cfM ad2 cy) μ) H) (hS : va_S (lA s) s.heap H locs) (hl : lv_has ls 4 [(0, .ref b), (1, .ref (ad 0)), (2, .ref (ad2 0)), (3, .int x3)]) : W p l e room_1 s m #[Value.ref b] below meth c H locs 128 1954 (lw_Z below #[Value.ref b] s) (F0 m 870 ls []) := by
  obtain ⟨hx, hb, hml, hown, hts, hK, hX, hbl, hDX, hDM, hne, hL⟩ := E
  obtain ⟨k, n, nx, ct, len, t, sd, h⟩ := hR
  have hA : ∀ q : Nat, s.heap.size ≤ q → lA s q := fun _ h => h
  have hbA : ¬ lA s b := Nat.not_le.mpr hbl
  have i1 : vp_in (x3 + 1) L := i_in 1 (by decide) hL hj ex
  have i2 : vp_in (x3 + 2) L := i_in 2 (by decide) hL hj ex
  have i3 : vp_in (x3 + 3) L := i_in 3 (by decide) hL hj ex
  refine lv_aload_n hx hb dL_law_870 rfl (lv_at hl 1 rfl) ?_
  refine lv_aload_n hx hb dL_law_871 rfl (lv_at hl 0 rfl) ?_
  refine lv_iload_n hx hb dL_law_872 rfl (lv_at hl 3 rfl) ?_
  refine lv_iconst (v := 1) hx hb dL_law_873 (by decide) ?_
  refine lv_iadd hx hb dL_law_874 ?_
  refine va_sld hx hb hX hbl hbA hS i1 dL_law_875 ?_
  refine lc_I (na := 1) hx hb hml hown hts hK hA (hDX y z) hPX hPM hne hS hl.1 0 (by decide) (kX8 _) rfl [.int (xs (x3 + 1).toNatClampNeg)] (c_X8_keep l D cy ad y z σ (xs (x3 + 1).toNatClampNeg)) gL_law_X8_keep rfl (by decide +kernel) rfl ⟨Nat.le_of_ble_eq_true rfl, Nat.le_of_ble_eq_true rfl⟩ ⟨rfl, rfl⟩ ⟨Nat.le_of_ble_eq_true rfl, Nat.le_of_ble_eq_true rfl⟩ rfl (Nat.le_of_ble_eq_true rfl) dL_law_876 (fun v_ τ_ H locs hqx hPX hPM hS => ?_)
  obtain ⟨rfl, rfl⟩ := hqx
  refine lv_aload_n hx hb dL_law_879 rfl (lv_at hl 2 rfl) ?_
  refine lv_aload_n hx hb dL_law_880 rfl (lv_at hl 0 rfl) ?_
  refine lv_iload_n hx hb dL_law_881 rfl (lv_at hl 3 rfl) ?_
  refine lv_iconst (v := 1) hx hb dL_law_882 (by decide) ?_
  refine lv_iadd hx hb dL_law_883 ?_
  refine va_sld hx hb hX hbl hbA hS i1 dL_law_884 ?_
  refine lc_I (na := 1) hx hb hml hown hts hK hA hDM hPM hPX (fun r r2 h1 h2 q => hne r2 r h2 h1 q.symm) hS hl.1 0 (by decide) (kX9 _) rfl [.int (xs (x3 + 1).toNatClampNeg)] (c_X9_keep l D cy ad2 μ (xs (x3 + 1).toNatClampNeg)) gL_law_X9_keep rfl (by decide +kernel) rfl ⟨Nat.le_of_ble_eq_true rfl, Nat.le_of_ble_eq_true rfl⟩ ⟨rfl, rfl⟩ ⟨Nat.le_of_ble_eq_true rfl, Nat.le_of_ble_eq_true rfl⟩ rfl (Nat.le_of_ble_eq_true rfl) dL_law_885 (fun w_ τm_ H locs hqm hPM hPX hS => ?_)
  obtain ⟨rfl, rfl⟩ := hqm
  refine lv_icmp_eq (tgt := 916) hx hb dL_law_888 (by decide) (fun cc => ?_) (fun cc => ?_)
  · exact K y z _ _ _ _ _ (op_keep (v := xs (x3 + 1).toNatClampNeg) h).2 hPX hPM hS hl
  · exact absurd (op_keep (v := xs (x3 + 1).toNatClampNeg) h).1 cc

set_option maxHeartbeats 1000000 in
set_option maxRecDepth 100000 in
theorem lw_c27 {p : Program} {l : Launch} {e : Env} {s : State} {m : MethodId} {below : List Frame} {meth : Method} {c : Code} {b L : Nat} {xs : Nat → Int32} {D : va_G} {cy : Nat → ClassId} {ad ad2 : Nat → Nat} (E : lwE p s m c b L xs D cy ad ad2) {j : Nat} {x3 : Int32} (hj : 4 * j + 4 ≤ L) (ex : x3 = nI (4 * j)) (K : lwK p l e s m b below meth c D cy ad ad2 x3) {y z : Nat} {σ μ : Nat → Nat → Int32} (hR : Rel y z σ μ) {H : Heap} {locs : List Loc} {ls : Array Slot} (hPX : va_P D classes (rw_ 109 ad (cfX ad cy y z) σ) H) (hPM : va_P D classes (rw_ 19 ad2 (cfM ad2 cy) μ) H) (hS : va_S (lA s) s.heap H locs) (hl : lv_has ls 4 [(0, .ref b), (1, .ref (ad 0)), (2, .ref (ad2 0)), (3, .int x3)]) : W p l e room_1 s m #[Value.ref b] below meth c H locs 128 1954 (lw_Z below #[Value.ref b] s) (F0 m 893 ls []) := by
  obtain ⟨hx, hb, hml, hown, hts, hK, hX, hbl, hDX, hDM, hne, hL⟩ := E
  obtain ⟨k, n, nx, ct, len, t, sd, h⟩ := hR
  have hA : ∀ q : Nat, s.heap.size ≤ q → lA s q := fun _ h => h
  have hbA : ¬ lA s b := Nat.not_le.mpr hbl
  have i1 : vp_in (x3 + 1) L := i_in 1 (by decide) hL hj ex
  have i2 : vp_in (x3 + 2) L := i_in 2 (by decide) hL hj ex
  have i3 : vp_in (x3 + 3) L := i_in 3 (by decide) hL hj ex
  refine lv_aload_n hx hb dL_law_893 rfl (lv_at hl 1 rfl) ?_
  refine lv_aload_n hx hb dL_law_894 rfl (lv_at hl 0 rfl) ?_
  refine lv_iload_n hx hb dL_law_895 rfl (lv_at hl 3 rfl) ?_
  refine lv_iconst (v := 1) hx hb dL_law_896 (by decide) ?_
  refine lv_iadd hx hb dL_law_897 ?_
  refine va_sld hx hb hX hbl hbA hS i1 dL_law_898 ?_
  refine lc_I (na := 1) hx hb hml hown hts hK hA (hDX y z) hPX hPM hne hS hl.1 0 (by decide) (kX8 _) rfl [.int (xs (x3 + 1).toNatClampNeg)] (c_X8_goBack l D cy ad y z σ (xs (x3 + 1).toNatClampNeg)) gL_law_X8_goBack rfl (by decide +kernel) rfl ⟨Nat.le_of_ble_eq_true rfl, Nat.le_of_ble_eq_true rfl⟩ ⟨rfl, rfl⟩ ⟨Nat.le_of_ble_eq_true rfl, Nat.le_of_ble_eq_true rfl⟩ rfl (Nat.le_of_ble_eq_true rfl) dL_law_899 (fun v_ τ_ H locs hqx hPX hPM hS => ?_)
  obtain ⟨rfl, rfl⟩ := hqx
  refine lv_aload_n hx hb dL_law_902 rfl (lv_at hl 2 rfl) ?_
  refine lv_aload_n hx hb dL_law_903 rfl (lv_at hl 0 rfl) ?_
  refine lv_iload_n hx hb dL_law_904 rfl (lv_at hl 3 rfl) ?_
  refine lv_iconst (v := 1) hx hb dL_law_905 (by decide) ?_
  refine lv_iadd hx hb dL_law_906 ?_
  refine va_sld hx hb hX hbl hbA hS i1 dL_law_907 ?_
  refine lc_I (na := 1) hx hb hml hown hts hK hA hDM hPM hPX (fun r r2 h1 h2 q => hne r2 r h2 h1 q.symm) hS hl.1 0 (by decide) (kX9 _) rfl [.int (xs (x3 + 1).toNatClampNeg)] (c_X9_goBack l D cy ad2 μ (xs (x3 + 1).toNatClampNeg)) gL_law_X9_goBack rfl (by decide +kernel) rfl ⟨Nat.le_of_ble_eq_true rfl, Nat.le_of_ble_eq_true rfl⟩ ⟨rfl, rfl⟩ ⟨Nat.le_of_ble_eq_true rfl, Nat.le_of_ble_eq_true rfl⟩ rfl (Nat.le_of_ble_eq_true rfl) dL_law_908 (fun w_ τm_ H locs hqm hPM hPX hS => ?_)
  obtain ⟨rfl, rfl⟩ := hqm
  refine lv_icmp_eq (tgt := 916) hx hb dL_law_911 (by decide) (fun cc => ?_) (fun cc => ?_)
  · exact K y z _ _ _ _ _ (op_goBack (v := xs (x3 + 1).toNatClampNeg) h).2 hPX hPM hS hl
  · exact absurd (op_goBack (v := xs (x3 + 1).toNatClampNeg) h).1 cc
