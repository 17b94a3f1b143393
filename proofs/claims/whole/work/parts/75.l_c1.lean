set_option maxHeartbeats 1000000 in
set_option maxRecDepth 100000 in
theorem lw_c0 {p : Program} {l : Launch} {e : Env} {s : State} {m : MethodId} {below : List Frame} {meth : Method} {c : Code} {b L : Nat} {xs : Nat → Int32} {D : va_G} {cy : Nat → ClassId} {ad ad2 : Nat → Nat} (E : lwE p s m c b L xs D cy ad ad2) {j : Nat} {x3 : Int32} (hj : 4 * j + 4 ≤ L) (ex : x3 = nI (4 * j)) (K : lwK p l e s m b below meth c D cy ad ad2 x3) {y z : Nat} {σ μ : Nat → Nat → Int32} (hR : Rel y z σ μ) {H : Heap} {locs : List Loc} {ls : Array Slot} (hPX : va_P D classes (rw_ 109 ad (cfX ad cy y z) σ) H) (hPM : va_P D classes (rw_ 19 ad2 (cfM ad2 cy) μ) H) (hS : va_S (lA s) s.heap H locs) (hl : lv_has ls 4 [(0, .ref b), (1, .ref (ad 0)), (2, .ref (ad2 0)), (3, .int x3)]) : W p l e room_1 s m #[Value.ref b] below meth c H locs 128 1954 (lw_Z below #[Value.ref b] s) (F0 m 160 ls []) := by
  obtain ⟨hx, hb, hml, hown, hts, hK, hX, hbl, hDX, hDM, hne, hL⟩ := E
  obtain ⟨k, n, nx, ct, len, t, sd, h⟩ := hR
  have hA : ∀ q : Nat, s.heap.size ≤ q → lA s q := fun _ h => h
  have hbA : ¬ lA s b := Nat.not_le.mpr hbl
  have i1 : vp_in (x3 + 1) L := i_in 1 (by decide) hL hj ex
  have i2 : vp_in (x3 + 2) L := i_in 2 (by decide) hL hj ex
  have i3 : vp_in (x3 + 3) L := i_in 3 (by decide) hL hj ex
  refine lv_aload_n hx hb dL_law_160 rfl (lv_at hl 1 rfl) ?_
  refine lv_aload_n hx hb dL_law_161 rfl (lv_at hl 0 rfl) ?_
  refine lv_iload_n hx hb dL_law_162 rfl (lv_at hl 3 rfl) ?_
  refine lv_iconst (v := 1) hx hb dL_law_163 (by decide) ?_
  refine lv_iadd hx hb dL_law_164 ?_
  refine va_sld hx hb hX hbl hbA hS i1 dL_law_165 ?_
  refine lc_I (na := 1) hx hb hml hown hts hK hA (hDX y z) hPX hPM hne hS hl.1 0 (by decide) (kX8 _) rfl [.int (xs (x3 + 1).toNatClampNeg)] (c_X8_feed l D cy ad y z σ len (xs (x3 + 1).toNatClampNeg) h.hlen h.elen) gL_law_X8_feed rfl (by decide +kernel) rfl ⟨Nat.le_of_ble_eq_true rfl, Nat.le_of_ble_eq_true rfl⟩ ⟨rfl, rfl⟩ ⟨Nat.le_of_ble_eq_true rfl, Nat.le_of_ble_eq_true rfl⟩ rfl (Nat.le_of_ble_eq_true rfl) dL_law_166 (fun v_ τ_ H locs hqx hPX hPM hS => ?_)
  obtain ⟨rfl, rfl⟩ := hqx
  refine lv_aload_n hx hb dL_law_169 rfl (lv_at hl 2 rfl) ?_
  refine lv_aload_n hx hb dL_law_170 rfl (lv_at hl 0 rfl) ?_
  refine lv_iload_n hx hb dL_law_171 rfl (lv_at hl 3 rfl) ?_
  refine lv_iconst (v := 1) hx hb dL_law_172 (by decide) ?_
  refine lv_iadd hx hb dL_law_173 ?_
  refine va_sld hx hb hX hbl hbA hS i1 dL_law_174 ?_
  refine lc_I (na := 1) hx hb hml hown hts hK hA hDM hPM hPX (fun r r2 h1 h2 q => hne r2 r h2 h1 q.symm) hS hl.1 0 (by decide) (kX9 _) rfl [.int (xs (x3 + 1).toNatClampNeg)] (c_X9_feed l D cy ad2 μ len (xs (x3 + 1).toNatClampNeg) h.hlen h.mlen) gL_law_X9_feed rfl (by decide +kernel) rfl ⟨Nat.le_of_ble_eq_true rfl, Nat.le_of_ble_eq_true rfl⟩ ⟨rfl, rfl⟩ ⟨Nat.le_of_ble_eq_true rfl, Nat.le_of_ble_eq_true rfl⟩ rfl (Nat.le_of_ble_eq_true rfl) dL_law_175 (fun w_ τm_ H locs hqm hPM hPX hS => ?_)
  obtain ⟨rfl, rfl⟩ := hqm
  refine lv_icmp_eq (tgt := 916) hx hb dL_law_178 (by decide) (fun cc => ?_) (fun cc => ?_)
  · exact K y z _ _ _ _ _ (op_feed (v := xs (x3 + 1).toNatClampNeg) h).2 hPX hPM hS hl
  · exact absurd (op_feed (v := xs (x3 + 1).toNatClampNeg) h).1 cc

set_option maxHeartbeats 1000000 in
set_option maxRecDepth 100000 in
theorem lw_c1 {p : Program} {l : Launch} {e : Env} {s : State} {m : MethodId} {below : List Frame} {meth : Method} {c : Code} {b L : Nat} {xs : Nat → Int32} {D : va_G} {cy : Nat → ClassId} {ad ad2 : Nat → Nat} (E : lwE p s m c b L xs D cy ad ad2) {j : Nat} {x3 : Int32} (hj : 4 * j + 4 ≤ L) (ex : x3 = nI (4 * j)) (K : lwK p l e s m b below meth c D cy ad ad2 x3) {y z : Nat} {σ μ : Nat → Nat → Int32} (hR : Rel y z σ μ) {H : Heap} {locs : List Loc} {ls : Array Slot} (hPX : va_P D classes (rw_ 109 ad (cfX ad cy y z) σ) H) (hPM : va_P D classes (rw_ 19 ad2 (cfM ad2 cy) μ) H) (hS : va_S (lA s) s.heap H locs) (hl : lv_has ls 4 [(0, .ref b), (1, .ref (ad 0)), (2, .ref (ad2 0)), (3, .int x3)]) : W p l e room_1 s m #[Value.ref b] below meth c H locs 128 1954 (lw_Z below #[Value.ref b] s) (F0 m 183 ls []) := by
  obtain ⟨hx, hb, hml, hown, hts, hK, hX, hbl, hDX, hDM, hne, hL⟩ := E
  obtain ⟨k, n, nx, ct, len, t, sd, h⟩ := hR
  have hA : ∀ q : Nat, s.heap.size ≤ q → lA s q := fun _ h => h
  have hbA : ¬ lA s b := Nat.not_le.mpr hbl
  have i1 : vp_in (x3 + 1) L := i_in 1 (by decide) hL hj ex
  have i2 : vp_in (x3 + 2) L := i_in 2 (by decide) hL hj ex
  have i3 : vp_in (x3 + 3) L := i_in 3 (by decide) hL hj ex
  refine lv_aload_n hx hb dL_law_183 rfl (lv_at hl 1 rfl) ?_
  refine lc_Y (na := 0) hx hb hml hown hts hK hA (hDX y z) hPX hPM hne hS hl.1 [] (c_X8_yard l D cy ad y z σ len h.yz h.zz h.hlen h.elen) gL_law_X8_yard rfl (by decide +kernel) rfl ⟨Nat.le_of_ble_eq_true rfl, Nat.le_of_ble_eq_true rfl⟩ ⟨rfl, rfl⟩ ⟨Nat.le_of_ble_eq_true rfl, Nat.le_of_ble_eq_true rfl⟩ rfl (Nat.le_of_ble_eq_true rfl) dL_law_184 (fun v_ b_ τ_ H locs hqx hPX hPM hS => ?_)
  refine lv_aload_n hx hb dL_law_187 rfl (lv_at hl 2 rfl) ?_
  refine lc_I (na := 0) hx hb hml hown hts hK hA hDM hPM hPX (fun r r2 h1 h2 q => hne r2 r h2 h1 q.symm) hS hl.1 0 (by decide) (kX9 _) rfl [] (c_X9_yard l D cy ad2 μ len (σ 1) (σ z) (σ (z + 1)) (σ (z + 2)) (σ (z + 3)) (σ (z + 4)) (σ (z + 5)) h.hlen h.mlen h.htx) gL_law_X9_yard rfl (by decide +kernel) rfl ⟨Nat.le_of_ble_eq_true rfl, Nat.le_of_ble_eq_true rfl⟩ ⟨rfl, rfl⟩ ⟨Nat.le_of_ble_eq_true rfl, Nat.le_of_ble_eq_true rfl⟩ rfl (Nat.le_of_ble_eq_true rfl) dL_law_188 (fun w_ τm_ H locs hqm hPM hPX hS => ?_)
  rw [h.m7] at hqm
  rcases hqx with ⟨q0, rfl, rfl, rfl⟩ | ⟨q0, rfl, rfl, rfl⟩
  · have hO := op_yard_f h hqm q0
    refine lv_icmp_eq (tgt := 916) hx hb dL_law_191 (by decide) (fun cc => ?_) (fun cc => ?_)
    · exact K y z _ _ _ _ _ hO.2 hPX hPM hS hl
    · exact absurd hO.1 cc
  · have hO := op_yard_o h hqm q0
    refine lv_icmp_eq (tgt := 916) hx hb dL_law_191 (by decide) (fun cc => ?_) (fun cc => ?_)
    · exact K z y _ _ _ _ _ hO.2 hPX hPM hS hl
    · exact absurd hO.1 cc

set_option maxHeartbeats 1000000 in
set_option maxRecDepth 100000 in
theorem lw_c2 {p : Program} {l : Launch} {e : Env} {s : State} {m : MethodId} {below : List Frame} {meth : Method} {c : Code} {b L : Nat} {xs : Nat → Int32} {D : va_G} {cy : Nat → ClassId} {ad ad2 : Nat → Nat} (E : lwE p s m c b L xs D cy ad ad2) {j : Nat} {x3 : Int32} (hj : 4 * j + 4 ≤ L) (ex : x3 = nI (4 * j)) (K : lwK p l e s m b below meth c D cy ad ad2 x3) {y z : Nat} {σ μ : Nat → Nat → Int32} (hR : Rel y z σ μ) {H : Heap} {locs : List Loc} {ls : Array Slot} (hPX : va_P D classes (rw_ 109 ad (cfX ad cy y z) σ) H) (hPM : va_P D classes (rw_ 19 ad2 (cfM ad2 cy) μ) H) (hS : va_S (lA s) s.heap H locs) (hl : lv_has ls 4 [(0, .ref b), (1, .ref (ad 0)), (2, .ref (ad2 0)), (3, .int x3)]) : W p l e room_1 s m #[Value.ref b] below meth c H locs 128 1954 (lw_Z below #[Value.ref b] s) (F0 m 196 ls []) := by
  obtain ⟨hx, hb, hml, hown, hts, hK, hX, hbl, hDX, hDM, hne, hL⟩ := E
  obtain ⟨k, n, nx, ct, len, t, sd, h⟩ := hR
  have hA : ∀ q : Nat, s.heap.size ≤ q → lA s q := fun _ h => h
  have hbA : ¬ lA s b := Nat.not_le.mpr hbl
  have i1 : vp_in (x3 + 1) L := i_in 1 (by decide) hL hj ex
  have i2 : vp_in (x3 + 2) L := i_in 2 (by decide) hL hj ex
  have i3 : vp_in (x3 + 3) L := i_in 3 (by decide) hL hj ex
  refine lv_aload_n hx hb dL_law_196 rfl (lv_at hl 1 rfl) ?_
  refine lc_I (na := 0) hx hb hml hown hts hK hA (hDX y z) hPX hPM hne hS hl.1 0 (by decide) (kX8 _) rfl [] (c_X8_fault l D cy ad y z σ) gL_law_X8_fault rfl (by decide +kernel) rfl ⟨Nat.le_of_ble_eq_true rfl, Nat.le_of_ble_eq_true rfl⟩ ⟨rfl, rfl⟩ ⟨Nat.le_of_ble_eq_true rfl, Nat.le_of_ble_eq_true rfl⟩ rfl (Nat.le_of_ble_eq_true rfl) dL_law_197 (fun v_ τ_ H locs hqx hPX hPM hS => ?_)
  obtain ⟨rfl, rfl⟩ := hqx
  refine lv_aload_n hx hb dL_law_200 rfl (lv_at hl 2 rfl) ?_
  refine lc_I (na := 0) hx hb hml hown hts hK hA hDM hPM hPX (fun r r2 h1 h2 q => hne r2 r h2 h1 q.symm) hS hl.1 0 (by decide) (kX9 _) rfl [] (c_X9_fault l D cy ad2 μ) gL_law_X9_fault rfl (by decide +kernel) rfl ⟨Nat.le_of_ble_eq_true rfl, Nat.le_of_ble_eq_true rfl⟩ ⟨rfl, rfl⟩ ⟨Nat.le_of_ble_eq_true rfl, Nat.le_of_ble_eq_true rfl⟩ rfl (Nat.le_of_ble_eq_true rfl) dL_law_201 (fun w_ τm_ H locs hqm hPM hPX hS => ?_)
  obtain ⟨rfl, rfl⟩ := hqm
  refine lv_icmp_eq (tgt := 916) hx hb dL_law_204 (by decide) (fun cc => ?_) (fun cc => ?_)
  · exact K y z _ _ _ _ _ h.rel hPX hPM hS hl
  · exact absurd (op_fault h) cc

set_option maxHeartbeats 1000000 in
set_option maxRecDepth 100000 in
theorem lw_c3 {p : Program} {l : Launch} {e : Env} {s : State} {m : MethodId} {below : List Frame} {meth : Method} {c : Code} {b L : Nat} {xs : Nat → Int32} {D : va_G} {cy : Nat → ClassId} {ad ad2 : Nat → Nat} (E : lwE p s m c b L xs D cy ad ad2) {j : Nat} {x3 : Int32} (hj : 4 * j + 4 ≤ L) (ex : x3 = nI (4 * j)) (K : lwK p l e s m b below meth c D cy ad ad2 x3) {y z : Nat} {σ μ : Nat → Nat → Int32} (hR : Rel y z σ μ) {H : Heap} {locs : List Loc} {ls : Array Slot} (hPX : va_P D classes (rw_ 109 ad (cfX ad cy y z) σ) H) (hPM : va_P D classes (rw_ 19 ad2 (cfM ad2 cy) μ) H) (hS : va_S (lA s) s.heap H locs) (hl : lv_has ls 4 [(0, .ref b), (1, .ref (ad 0)), (2, .ref (ad2 0)), (3, .int x3)]) : W p l e room_1 s m #[Value.ref b] below meth c H locs 128 1954 (lw_Z below #[Value.ref b] s) (F0 m 209 ls []) := by
  obtain ⟨hx, hb, hml, hown, hts, hK, hX, hbl, hDX, hDM, hne, hL⟩ := E
  obtain ⟨k, n, nx, ct, len, t, sd, h⟩ := hR
  have hA : ∀ q : Nat, s.heap.size ≤ q → lA s q := fun _ h => h
  have hbA : ¬ lA s b := Nat.not_le.mpr hbl
  have i1 : vp_in (x3 + 1) L := i_in 1 (by decide) hL hj ex
  have i2 : vp_in (x3 + 2) L := i_in 2 (by decide) hL hj ex
  have i3 : vp_in (x3 + 3) L := i_in 3 (by decide) hL hj ex
  refine lv_aload_n hx hb dL_law_209 rfl (lv_at hl 1 rfl) ?_
  refine lv_aload_n hx hb dL_law_210 rfl (lv_at hl 0 rfl) ?_
  refine lv_iload_n hx hb dL_law_211 rfl (lv_at hl 3 rfl) ?_
  refine lv_iconst (v := 1) hx hb dL_law_212 (by decide) ?_
  refine lv_iadd hx hb dL_law_213 ?_
  refine va_sld hx hb hX hbl hbA hS i1 dL_law_214 ?_
  refine lc_I (na := 1) hx hb hml hown hts hK hA (hDX y z) hPX hPM hne hS hl.1 0 (by decide) (kX8 _) rfl [.int (xs (x3 + 1).toNatClampNeg)] (c_X8_told l D cy ad y z σ n (xs (x3 + 1).toNatClampNeg) h.yz h.hn h.en) gL_law_X8_told rfl (by decide +kernel) rfl ⟨Nat.le_of_ble_eq_true rfl, Nat.le_of_ble_eq_true rfl⟩ ⟨rfl, rfl⟩ ⟨Nat.le_of_ble_eq_true rfl, Nat.le_of_ble_eq_true rfl⟩ rfl (Nat.le_of_ble_eq_true rfl) dL_law_215 (fun v_ τ_ H locs hqx hPX hPM hS => ?_)
  obtain ⟨rfl, rfl⟩ := hqx
  refine lv_aload_n hx hb dL_law_218 rfl (lv_at hl 2 rfl) ?_
  refine lv_aload_n hx hb dL_law_219 rfl (lv_at hl 0 rfl) ?_
  refine lv_iload_n hx hb dL_law_220 rfl (lv_at hl 3 rfl) ?_
  refine lv_iconst (v := 1) hx hb dL_law_221 (by decide) ?_
  refine lv_iadd hx hb dL_law_222 ?_
  refine va_sld hx hb hX hbl hbA hS i1 dL_law_223 ?_
  refine lc_I (na := 1) hx hb hml hown hts hK hA hDM hPM hPX (fun r r2 h1 h2 q => hne r2 r h2 h1 q.symm) hS hl.1 0 (by decide) (kX9 _) rfl [.int (xs (x3 + 1).toNatClampNeg)] (c_X9_told l D cy ad2 μ n (xs (x3 + 1).toNatClampNeg) h.hn h.mn) gL_law_X9_told rfl (by decide +kernel) rfl ⟨Nat.le_of_ble_eq_true rfl, Nat.le_of_ble_eq_true rfl⟩ ⟨rfl, rfl⟩ ⟨Nat.le_of_ble_eq_true rfl, Nat.le_of_ble_eq_true rfl⟩ rfl (Nat.le_of_ble_eq_true rfl) dL_law_224 (fun w_ τm_ H locs hqm hPM hPX hS => ?_)
  obtain ⟨rfl, rfl⟩ := hqm
  refine lv_icmp_eq (tgt := 916) hx hb dL_law_227 (by decide) (fun cc => ?_) (fun cc => ?_)
  · exact K y z _ _ _ _ _ h.rel hPX hPM hS hl
  · exact absurd (op_told (v := xs (x3 + 1).toNatClampNeg) h) cc

set_option maxHeartbeats 1000000 in
set_option maxRecDepth 100000 in
theorem lw_c4 {p : Program} {l : Launch} {e : Env} {s : State} {m : MethodId} {below : List Frame} {meth : Method} {c : Code} {b L : Nat} {xs : Nat → Int32} {D : va_G} {cy : Nat → ClassId} {ad ad2 : Nat → Nat} (E : lwE p s m c b L xs D cy ad ad2) {j : Nat} {x3 : Int32} (hj : 4 * j + 4 ≤ L) (ex : x3 = nI (4 * j)) (K : lwK p l e s m b below meth c D cy ad ad2 x3) {y z : Nat} {σ μ : Nat → Nat → Int32} (hR : Rel y z σ μ) {H : Heap} {locs : List Loc} {ls : Array Slot} (hPX : va_P D classes (rw_ 109 ad (cfX ad cy y z) σ) H) (hPM : va_P D classes (rw_ 19 ad2 (cfM ad2 cy) μ) H) (hS : va_S (lA s) s.heap H locs) (hl : lv_has ls 4 [(0, .ref b), (1, .ref (ad 0)), (2, .ref (ad2 0)), (3, .int x3)]) : W p l e room_1 s m #[Value.ref b] below meth c H locs 128 1954 (lw_Z below #[Value.ref b] s) (F0 m 232 ls []) := by
  obtain ⟨hx, hb, hml, hown, hts, hK, hX, hbl, hDX, hDM, hne, hL⟩ := E
  obtain ⟨k, n, nx, ct, len, t, sd, h⟩ := hR
  have hA : ∀ q : Nat, s.heap.size ≤ q → lA s q := fun _ h => h
  have hbA : ¬ lA s b := Nat.not_le.mpr hbl
  have i1 : vp_in (x3 + 1) L := i_in 1 (by decide) hL hj ex
  have i2 : vp_in (x3 + 2) L := i_in 2 (by decide) hL hj ex
  have i3 : vp_in (x3 + 3) L := i_in 3 (by decide) hL hj ex
  refine lv_aload_n hx hb dL_law_232 rfl (lv_at hl 1 rfl) ?_
  refine lv_aload_n hx hb dL_law_233 rfl (lv_at hl 0 rfl) ?_
  refine lv_iload_n hx hb dL_law_234 rfl (lv_at hl 3 rfl) ?_
  refine lv_iconst (v := 1) hx hb dL_law_235 (by decide) ?_
  refine lv_iadd hx hb dL_law_236 ?_
  refine va_sld hx hb hX hbl hbA hS i1 dL_law_237 ?_
  refine lv_aload_n hx hb dL_law_238 rfl (lv_at hl 0 rfl) ?_
  refine lv_iload_n hx hb dL_law_239 rfl (lv_at hl 3 rfl) ?_
  refine lv_iconst (v := 2) hx hb dL_law_240 (by decide) ?_
  refine lv_iadd hx hb dL_law_241 ?_
  refine va_sld hx hb hX hbl hbA hS i2 dL_law_242 ?_
  refine lc_I (na := 2) hx hb hml hown hts hK hA (hDX y z) hPX hPM hne hS hl.1 0 (by decide) (kX8 _) rfl [.int (xs (x3 + 1).toNatClampNeg), .int (xs (x3 + 2).toNatClampNeg)] (c_X8_saying l D cy ad y z σ n (xs (x3 + 1).toNatClampNeg) (xs (x3 + 2).toNatClampNeg) h.yz h.hn h.en) gL_law_X8_saying rfl (by decide +kernel) rfl ⟨Nat.le_of_ble_eq_true rfl, Nat.le_of_ble_eq_true rfl⟩ ⟨rfl, rfl⟩ ⟨Nat.le_of_ble_eq_true rfl, Nat.le_of_ble_eq_true rfl⟩ rfl (Nat.le_of_ble_eq_true rfl) dL_law_243 (fun v_ τ_ H locs hqx hPX hPM hS => ?_)
  obtain ⟨rfl, rfl⟩ := hqx
  refine lv_aload_n hx hb dL_law_246 rfl (lv_at hl 2 rfl) ?_
  refine lv_aload_n hx hb dL_law_247 rfl (lv_at hl 0 rfl) ?_
  refine lv_iload_n hx hb dL_law_248 rfl (lv_at hl 3 rfl) ?_
  refine lv_iconst (v := 1) hx hb dL_law_249 (by decide) ?_
  refine lv_iadd hx hb dL_law_250 ?_
  refine va_sld hx hb hX hbl hbA hS i1 dL_law_251 ?_
  refine lv_aload_n hx hb dL_law_252 rfl (lv_at hl 0 rfl) ?_
  refine lv_iload_n hx hb dL_law_253 rfl (lv_at hl 3 rfl) ?_
  refine lv_iconst (v := 2) hx hb dL_law_254 (by decide) ?_
  refine lv_iadd hx hb dL_law_255 ?_
  refine va_sld hx hb hX hbl hbA hS i2 dL_law_256 ?_
  refine lc_I (na := 2) hx hb hml hown hts hK hA hDM hPM hPX (fun r r2 h1 h2 q => hne r2 r h2 h1 q.symm) hS hl.1 0 (by decide) (kX9 _) rfl [.int (xs (x3 + 1).toNatClampNeg), .int (xs (x3 + 2).toNatClampNeg)] (c_X9_saying l D cy ad2 μ n (xs (x3 + 1).toNatClampNeg) (xs (x3 + 2).toNatClampNeg) h.hn h.mn) gL_law_X9_saying rfl (by decide +kernel) rfl ⟨Nat.le_of_ble_eq_true rfl, Nat.le_of_ble_eq_true rfl⟩ ⟨rfl, rfl⟩ ⟨Nat.le_of_ble_eq_true rfl, Nat.le_of_ble_eq_true rfl⟩ rfl (Nat.le_of_ble_eq_true rfl) dL_law_257 (fun w_ τm_ H locs hqm hPM hPX hS => ?_)
  obtain ⟨rfl, rfl⟩ := hqm
  refine lv_icmp_eq (tgt := 916) hx hb dL_law_260 (by decide) (fun cc => ?_) (fun cc => ?_)
  · exact K y z _ _ _ _ _ (op_saying (v := xs (x3 + 1).toNatClampNeg) (w := xs (x3 + 2).toNatClampNeg) h).2 hPX hPM hS hl
  · exact absurd (op_saying (v := xs (x3 + 1).toNatClampNeg) (w := xs (x3 + 2).toNatClampNeg) h).1 cc

set_option maxHeartbeats 1000000 in
set_option maxRecDepth 100000 in
theorem lw_c5 {p : Program} {l : Launch} {e : Env} {s : State} {m : MethodId} {below : List Frame} {meth : Method} {c : Code} {b L : Nat} {xs : Nat → Int32} {D : va_G} {cy : Nat → ClassId} {ad ad2 : Nat → Nat} (E : lwE p s m c b L xs D cy ad ad2) {j : Nat} {x3 : Int32} (hj : 4 * j + 4 ≤ L) (ex : x3 = nI (4 * j)) (K : lwK p l e s m b below meth c D cy ad ad2 x3) {y z : Nat} {σ μ : Nat → Nat → Int32} (hR : Rel y z σ μ) {H : Heap} {locs : List Loc} {ls : Array Slot} (hPX : va_P D classes (rw_ 109 ad (cfX ad cy y z) σ) H) (hPM : va_P D classes (rw_ 19 ad2 (cfM ad2 cy) μ) H) (hS : va_S (lA s) s.heap H locs) (hl : lv_has ls 4 [(0, .ref b), (1, .ref (ad 0)), (2, .ref (ad2 0)), (3, .int x3)]) : W p l e room_1 s m #[Value.ref b] below meth c H locs 128 1954 (lw_Z below #[Value.ref b] s) (F0 m 265 ls []) := by
  obtain ⟨hx, hb, hml, hown, hts, hK, hX, hbl, hDX, hDM, hne, hL⟩ := E
  obtain ⟨k, n, nx, ct, len, t, sd, h⟩ := hR
  have hA : ∀ q : Nat, s.heap.size ≤ q → lA s q := fun _ h => h
  have hbA : ¬ lA s b := Nat.not_le.mpr hbl
  have i1 : vp_in (x3 + 1) L := i_in 1 (by decide) hL hj ex
  have i2 : vp_in (x3 + 2) L := i_in 2 (by decide) hL hj ex
  have i3 : vp_in (x3 + 3) L := i_in 3 (by decide) hL hj ex
  refine lv_aload_n hx hb dL_law_265 rfl (lv_at hl 1 rfl) ?_
  refine lv_aload_n hx hb dL_law_266 rfl (lv_at hl 0 rfl) ?_
  refine lv_iload_n hx hb dL_law_267 rfl (lv_at hl 3 rfl) ?_
  refine lv_iconst (v := 1) hx hb dL_law_268 (by decide) ?_
  refine lv_iadd hx hb dL_law_269 ?_
  refine va_sld hx hb hX hbl hbA hS i1 dL_law_270 ?_
  refine lv_aload_n hx hb dL_law_271 rfl (lv_at hl 0 rfl) ?_
  refine lv_iload_n hx hb dL_law_272 rfl (lv_at hl 3 rfl) ?_
  refine lv_iconst (v := 2) hx hb dL_law_273 (by decide) ?_
  refine lv_iadd hx hb dL_law_274 ?_
  refine va_sld hx hb hX hbl hbA hS i2 dL_law_275 ?_
  refine lc_I (na := 2) hx hb hml hown hts hK hA (hDX y z) hPX hPM hne hS hl.1 0 (by decide) (kX8 _) rfl [.int (xs (x3 + 1).toNatClampNeg), .int (xs (x3 + 2).toNatClampNeg)] (c_X8_person l D cy ad y z σ n k (xs (x3 + 1).toNatClampNeg) (xs (x3 + 2).toNatClampNeg) h.yz h.hn h.en h.hk h.ek) gL_law_X8_person rfl (by decide +kernel) rfl ⟨Nat.le_of_ble_eq_true rfl, Nat.le_of_ble_eq_true rfl⟩ ⟨rfl, rfl⟩ ⟨Nat.le_of_ble_eq_true rfl, Nat.le_of_ble_eq_true rfl⟩ rfl (Nat.le_of_ble_eq_true rfl) dL_law_276 (fun v_ τ_ H locs hqx hPX hPM hS => ?_)
  obtain ⟨rfl, rfl⟩ := hqx
  refine lv_aload_n hx hb dL_law_279 rfl (lv_at hl 2 rfl) ?_
  refine lv_aload_n hx hb dL_law_280 rfl (lv_at hl 0 rfl) ?_
  refine lv_iload_n hx hb dL_law_281 rfl (lv_at hl 3 rfl) ?_
  refine lv_iconst (v := 1) hx hb dL_law_282 (by decide) ?_
  refine lv_iadd hx hb dL_law_283 ?_
  refine va_sld hx hb hX hbl hbA hS i1 dL_law_284 ?_
  refine lv_aload_n hx hb dL_law_285 rfl (lv_at hl 0 rfl) ?_
  refine lv_iload_n hx hb dL_law_286 rfl (lv_at hl 3 rfl) ?_
  refine lv_iconst (v := 2) hx hb dL_law_287 (by decide) ?_
  refine lv_iadd hx hb dL_law_288 ?_
  refine va_sld hx hb hX hbl hbA hS i2 dL_law_289 ?_
  refine lc_I (na := 2) hx hb hml hown hts hK hA hDM hPM hPX (fun r r2 h1 h2 q => hne r2 r h2 h1 q.symm) hS hl.1 0 (by decide) (kX9 _) rfl [.int (xs (x3 + 1).toNatClampNeg), .int (xs (x3 + 2).toNatClampNeg)] (c_X9_person l D cy ad2 μ n k (xs (x3 + 1).toNatClampNeg) (xs (x3 + 2).toNatClampNeg) h.hn h.mn h.hk h.mk (hallM h)) gL_law_X9_person rfl (by decide +kernel) rfl ⟨Nat.le_of_ble_eq_true rfl, Nat.le_of_ble_eq_true rfl⟩ ⟨rfl, rfl⟩ ⟨Nat.le_of_ble_eq_true rfl, Nat.le_of_ble_eq_true rfl⟩ rfl (Nat.le_of_ble_eq_true rfl) dL_law_290 (fun w_ τm_ H locs hqm hPM hPX hS => ?_)
  obtain ⟨rfl, rfl⟩ := hqm
  refine lv_icmp_eq (tgt := 916) hx hb dL_law_293 (by decide) (fun cc => ?_) (fun cc => ?_)
  · exact K y z _ _ _ _ _ h.rel hPX hPM hS hl
  · exact absurd (op_person (v := xs (x3 + 1).toNatClampNeg) (w := xs (x3 + 2).toNatClampNeg) h) cc

set_option maxHeartbeats 1000000 in
set_option maxRecDepth 100000 in
theorem lw_c6 {p : Program} {l : Launch} {e : Env} {s : State} {m : MethodId} {below : List Frame} {meth : Method} {c : Code} {b L : Nat} {xs : Nat → Int32} {D : va_G} {cy : Nat → ClassId} {ad ad2 : Nat → Nat} (E : lwE p s m c b L xs D cy ad ad2) {j : Nat} {x3 : Int32} (hj : 4 * j + 4 ≤ L) (ex : x3 = nI (4 * j)) (K : lwK p l e s m b below meth c D cy ad ad2 x3) {y z : Nat} {σ μ : Nat → Nat → Int32} (hR : Rel y z σ μ) {H : Heap} {locs : List Loc} {ls : Array Slot} (hPX : va_P D classes (rw_ 109 ad (cfX ad cy y z) σ) H) (hPM : va_P D classes (rw_ 19 ad2 (cfM ad2 cy) μ) H) (hS : va_S (lA s) s.heap H locs) (hl : lv_has ls 4 [(0, .ref b), (1, .ref (ad 0)), (2, .ref (ad2 0)), (3, .int x3)]) : W p l e room_1 s m #[Value.ref b] below meth c H locs 128 1954 (lw_Z below #[Value.ref b] s) (F0 m 298 ls []) := by
  obtain ⟨hx, hb, hml, hown, hts, hK, hX, hbl, hDX, hDM, hne, hL⟩ := E
  obtain ⟨k, n, nx, ct, len, t, sd, h⟩ := hR
  have hA : ∀ q : Nat, s.heap.size ≤ q → lA s q := fun _ h => h
  have hbA : ¬ lA s b := Nat.not_le.mpr hbl
  have i1 : vp_in (x3 + 1) L := i_in 1 (by decide) hL hj ex
  have i2 : vp_in (x3 + 2) L := i_in 2 (by decide) hL hj ex
  have i3 : vp_in (x3 + 3) L := i_in 3 (by decide) hL hj ex
  obtain ⟨q, p, s_, hq6, eq7, eq16, hqq, h17⟩ := h.tq
  refine lv_aload_n hx hb dL_law_298 rfl (lv_at hl 1 rfl) ?_
  refine lv_aload_n hx hb dL_law_299 rfl (lv_at hl 0 rfl) ?_
  refine lv_iload_n hx hb dL_law_300 rfl (lv_at hl 3 rfl) ?_
  refine lv_iconst (v := 1) hx hb dL_law_301 (by decide) ?_
  refine lv_iadd hx hb dL_law_302 ?_
  refine va_sld hx hb hX hbl hbA hS i1 dL_law_303 ?_
  refine lv_aload_n hx hb dL_law_304 rfl (lv_at hl 0 rfl) ?_
  refine lv_iload_n hx hb dL_law_305 rfl (lv_at hl 3 rfl) ?_
  refine lv_iconst (v := 2) hx hb dL_law_306 (by decide) ?_
  refine lv_iadd hx hb dL_law_307 ?_
  refine va_sld hx hb hX hbl hbA hS i2 dL_law_308 ?_
  refine lc_I (na := 2) hx hb hml hown hts hK hA (hDX y z) hPX hPM hne hS hl.1 0 (by decide) (kX8 _) rfl [.int (xs (x3 + 1).toNatClampNeg), .int (xs (x3 + 2).toNatClampNeg)] (c_X8_queued l D cy ad y z σ q (xs (x3 + 1).toNatClampNeg) (xs (x3 + 2).toNatClampNeg) hq6 eq7) gL_law_X8_queued rfl (by decide +kernel) rfl ⟨Nat.le_of_ble_eq_true rfl, Nat.le_of_ble_eq_true rfl⟩ ⟨rfl, rfl⟩ ⟨Nat.le_of_ble_eq_true rfl, Nat.le_of_ble_eq_true rfl⟩ rfl (Nat.le_of_ble_eq_true rfl) dL_law_309 (fun v_ τ_ H locs hqx hPX hPM hS => ?_)
  obtain ⟨rfl, rfl⟩ := hqx
  refine lv_aload_n hx hb dL_law_312 rfl (lv_at hl 2 rfl) ?_
  refine lv_aload_n hx hb dL_law_313 rfl (lv_at hl 0 rfl) ?_
  refine lv_iload_n hx hb dL_law_314 rfl (lv_at hl 3 rfl) ?_
  refine lv_iconst (v := 1) hx hb dL_law_315 (by decide) ?_
  refine lv_iadd hx hb dL_law_316 ?_
  refine va_sld hx hb hX hbl hbA hS i1 dL_law_317 ?_
  refine lv_aload_n hx hb dL_law_318 rfl (lv_at hl 0 rfl) ?_
  refine lv_iload_n hx hb dL_law_319 rfl (lv_at hl 3 rfl) ?_
  refine lv_iconst (v := 2) hx hb dL_law_320 (by decide) ?_
  refine lv_iadd hx hb dL_law_321 ?_
  refine va_sld hx hb hX hbl hbA hS i2 dL_law_322 ?_
  refine lc_I (na := 2) hx hb hml hown hts hK hA hDM hPM hPX (fun r r2 h1 h2 q => hne r2 r h2 h1 q.symm) hS hl.1 0 (by decide) (kX9 _) rfl [.int (xs (x3 + 1).toNatClampNeg), .int (xs (x3 + 2).toNatClampNeg)] (c_X9_queued l D cy ad2 μ q (xs (x3 + 1).toNatClampNeg) (xs (x3 + 2).toNatClampNeg) hq6 eq16) gL_law_X9_queued rfl (by decide +kernel) rfl ⟨Nat.le_of_ble_eq_true rfl, Nat.le_of_ble_eq_true rfl⟩ ⟨rfl, rfl⟩ ⟨Nat.le_of_ble_eq_true rfl, Nat.le_of_ble_eq_true rfl⟩ rfl (Nat.le_of_ble_eq_true rfl) dL_law_323 (fun w_ τm_ H locs hqm hPM hPX hS => ?_)
  obtain ⟨rfl, rfl⟩ := hqm
  refine lv_icmp_eq (tgt := 916) hx hb dL_law_326 (by decide) (fun cc => ?_) (fun cc => ?_)
  · exact K y z _ _ _ _ _ h.rel hPX hPM hS hl
  · exact absurd (op_queued (v := xs (x3 + 1).toNatClampNeg) (w := xs (x3 + 2).toNatClampNeg) h hq6 eq7) cc

set_option maxHeartbeats 1000000 in
set_option maxRecDepth 100000 in
theorem lw_c7 {p : Program} {l : Launch} {e : Env} {s : State} {m : MethodId} {below : List Frame} {meth : Method} {c : Code} {b L : Nat} {xs : Nat → Int32} {D : va_G} {cy : Nat → ClassId} {ad ad2 : Nat → Nat} (E : lwE p s m c b L xs D cy ad ad2) {j : Nat} {x3 : Int32} (hj : 4 * j + 4 ≤ L) (ex : x3 = nI (4 * j)) (K : lwK p l e s m b below meth c D cy ad ad2 x3) {y z : Nat} {σ μ : Nat → Nat → Int32} (hR : Rel y z σ μ) {H : Heap} {locs : List Loc} {ls : Array Slot} (hPX : va_P D classes (rw_ 109 ad (cfX ad cy y z) σ) H) (hPM : va_P D classes (rw_ 19 ad2 (cfM ad2 cy) μ) H) (hS : va_S (lA s) s.heap H locs) (hl : lv_has ls 4 [(0, .ref b), (1, .ref (ad 0)), (2, .ref (ad2 0)), (3, .int x3)]) : W p l e room_1 s m #[Value.ref b] below meth c H locs 128 1954 (lw_Z below #[Value.ref b] s) (F0 m 331 ls []) := by
  obtain ⟨hx, hb, hml, hown, hts, hK, hX, hbl, hDX, hDM, hne, hL⟩ := E
  obtain ⟨k, n, nx, ct, len, t, sd, h⟩ := hR
  have hA : ∀ q : Nat, s.heap.size ≤ q → lA s q := fun _ h => h
  have hbA : ¬ lA s b := Nat.not_le.mpr hbl
  have i1 : vp_in (x3 + 1) L := i_in 1 (by decide) hL hj ex
  have i2 : vp_in (x3 + 2) L := i_in 2 (by decide) hL hj ex
  have i3 : vp_in (x3 + 3) L := i_in 3 (by decide) hL hj ex
  refine lv_aload_n hx hb dL_law_331 rfl (lv_at hl 1 rfl) ?_
  refine lv_aload_n hx hb dL_law_332 rfl (lv_at hl 0 rfl) ?_
  refine lv_iload_n hx hb dL_law_333 rfl (lv_at hl 3 rfl) ?_
  refine lv_iconst (v := 1) hx hb dL_law_334 (by decide) ?_
  refine lv_iadd hx hb dL_law_335 ?_
  refine va_sld hx hb hX hbl hbA hS i1 dL_law_336 ?_
  refine lv_aload_n hx hb dL_law_337 rfl (lv_at hl 0 rfl) ?_
  refine lv_iload_n hx hb dL_law_338 rfl (lv_at hl 3 rfl) ?_
  refine lv_iconst (v := 2) hx hb dL_law_339 (by decide) ?_
  refine lv_iadd hx hb dL_law_340 ?_
  refine va_sld hx hb hX hbl hbA hS i2 dL_law_341 ?_
  refine lc_I (na := 2) hx hb hml hown hts hK hA (hDX y z) hPX hPM hne hS hl.1 0 (by decide) (kX8 _) rfl [.int (xs (x3 + 1).toNatClampNeg), .int (xs (x3 + 2).toNatClampNeg)] (c_X8_pour l D cy ad y z σ n k nx ct (xs (x3 + 1).toNatClampNeg) (xs (x3 + 2).toNatClampNeg) h.yz h.hn h.en h.hk h.ek h.hnx h.enx h.hct h.ect) gL_law_X8_pour rfl (by decide +kernel) rfl ⟨Nat.le_of_ble_eq_true rfl, Nat.le_of_ble_eq_true rfl⟩ ⟨rfl, rfl⟩ ⟨Nat.le_of_ble_eq_true rfl, Nat.le_of_ble_eq_true rfl⟩ rfl (Nat.le_of_ble_eq_true rfl) dL_law_342 (fun v_ τ_ H locs hqx hPX hPM hS => ?_)
  obtain ⟨rfl, rfl⟩ := hqx
  refine lv_aload_n hx hb dL_law_345 rfl (lv_at hl 2 rfl) ?_
  refine lv_aload_n hx hb dL_law_346 rfl (lv_at hl 0 rfl) ?_
  refine lv_iload_n hx hb dL_law_347 rfl (lv_at hl 3 rfl) ?_
  refine lv_iconst (v := 1) hx hb dL_law_348 (by decide) ?_
  refine lv_iadd hx hb dL_law_349 ?_
  refine va_sld hx hb hX hbl hbA hS i1 dL_law_350 ?_
  refine lv_aload_n hx hb dL_law_351 rfl (lv_at hl 0 rfl) ?_
  refine lv_iload_n hx hb dL_law_352 rfl (lv_at hl 3 rfl) ?_
  refine lv_iconst (v := 2) hx hb dL_law_353 (by decide) ?_
  refine lv_iadd hx hb dL_law_354 ?_
  refine va_sld hx hb hX hbl hbA hS i2 dL_law_355 ?_
  refine lc_I (na := 2) hx hb hml hown hts hK hA hDM hPM hPX (fun r r2 h1 h2 q => hne r2 r h2 h1 q.symm) hS hl.1 0 (by decide) (kX9 _) rfl [.int (xs (x3 + 1).toNatClampNeg), .int (xs (x3 + 2).toNatClampNeg)] (c_X9_pour l D cy ad2 μ n k ct (xs (x3 + 1).toNatClampNeg) (xs (x3 + 2).toNatClampNeg) h.hn h.mn h.hk h.mk h.hct h.mct) gL_law_X9_pour rfl (by decide +kernel) rfl ⟨Nat.le_of_ble_eq_true rfl, Nat.le_of_ble_eq_true rfl⟩ ⟨rfl, rfl⟩ ⟨Nat.le_of_ble_eq_true rfl, Nat.le_of_ble_eq_true rfl⟩ rfl (Nat.le_of_ble_eq_true rfl) dL_law_356 (fun w_ τm_ H locs hqm hPM hPX hS => ?_)
  obtain ⟨rfl, rfl⟩ := hqm
  refine lv_icmp_eq (tgt := 916) hx hb dL_law_359 (by decide) (fun cc => ?_) (fun cc => ?_)
  · exact K y z _ _ _ _ _ (op_pour (v := xs (x3 + 1).toNatClampNeg) (w := xs (x3 + 2).toNatClampNeg) h).2 hPX hPM hS hl
  · exact absurd (op_pour (v := xs (x3 + 1).toNatClampNeg) (w := xs (x3 + 2).toNatClampNeg) h).1 cc

set_option maxHeartbeats 1000000 in
set_option maxRecDepth 100000 in
theorem lw_c8 {p : Program} {l : Launch} {e : Env} {s : State} {m : MethodId} {below : List Frame} {meth : Method} {c : Code} {b L : Nat} {xs : Nat → Int32} {D : va_G} {cy : Nat → ClassId} {ad ad2 : Nat → Nat} (E : lwE p s m c b L xs D cy ad ad2) {j : Nat} {x3 : Int32} (hj : 4 * j + 4 ≤ L) (ex : x3 = nI (4 * j)) (K : lwK p l e s m b below meth c D cy ad ad2 x3) {y z : Nat} {σ μ : Nat → Nat → Int32} (hR : Rel y z σ μ) {H : Heap} {locs : List Loc} {ls : Array Slot} (hPX : va_P D classes (rw_ 109 ad (cfX ad cy y z) σ) H) (hPM : va_P D classes (rw_ 19 ad2 (cfM ad2 cy) μ) H) (hS : va_S (lA s) s.heap H locs) (hl : lv_has ls 4 [(0, .ref b), (1, .ref (ad 0)), (2, .ref (ad2 0)), (3, .int x3)]) : W p l e room_1 s m #[Value.ref b] below meth c H locs 128 1954 (lw_Z below #[Value.ref b] s) (F0 m 364 ls []) := by
  obtain ⟨hx, hb, hml, hown, hts, hK, hX, hbl, hDX, hDM, hne, hL⟩ := E
  obtain ⟨k, n, nx, ct, len, t, sd, h⟩ := hR
  have hA : ∀ q : Nat, s.heap.size ≤ q → lA s q := fun _ h => h
  have hbA : ¬ lA s b := Nat.not_le.mpr hbl
  have i1 : vp_in (x3 + 1) L := i_in 1 (by decide) hL hj ex
  have i2 : vp_in (x3 + 2) L := i_in 2 (by decide) hL hj ex
  have i3 : vp_in (x3 + 3) L := i_in 3 (by decide) hL hj ex
  refine lv_aload_n hx hb dL_law_364 rfl (lv_at hl 1 rfl) ?_
  refine lv_aload_n hx hb dL_law_365 rfl (lv_at hl 0 rfl) ?_
  refine lv_iload_n hx hb dL_law_366 rfl (lv_at hl 3 rfl) ?_
  refine lv_iconst (v := 1) hx hb dL_law_367 (by decide) ?_
  refine lv_iadd hx hb dL_law_368 ?_
  refine va_sld hx hb hX hbl hbA hS i1 dL_law_369 ?_
  refine lc_I (na := 1) hx hb hml hown hts hK hA (hDX y z) hPX hPM hne hS hl.1 0 (by decide) (kX8 _) rfl [.int (xs (x3 + 1).toNatClampNeg)] (c_X8_say l D cy ad y z σ n nx ct (xs (x3 + 1).toNatClampNeg) h.yz h.hn h.en h.hnx h.enx h.hct h.ect) gL_law_X8_say rfl (by decide +kernel) rfl ⟨Nat.le_of_ble_eq_true rfl, Nat.le_of_ble_eq_true rfl⟩ ⟨rfl, rfl⟩ ⟨Nat.le_of_ble_eq_true rfl, Nat.le_of_ble_eq_true rfl⟩ rfl (Nat.le_of_ble_eq_true rfl) dL_law_370 (fun v_ τ_ H locs hqx hPX hPM hS => ?_)
  obtain ⟨rfl, rfl⟩ := hqx
  refine lv_aload_n hx hb dL_law_373 rfl (lv_at hl 2 rfl) ?_
  refine lv_aload_n hx hb dL_law_374 rfl (lv_at hl 0 rfl) ?_
  refine lv_iload_n hx hb dL_law_375 rfl (lv_at hl 3 rfl) ?_
  refine lv_iconst (v := 1) hx hb dL_law_376 (by decide) ?_
  refine lv_iadd hx hb dL_law_377 ?_
  refine va_sld hx hb hX hbl hbA hS i1 dL_law_378 ?_
  refine lc_I (na := 1) hx hb hml hown hts hK hA hDM hPM hPX (fun r r2 h1 h2 q => hne r2 r h2 h1 q.symm) hS hl.1 0 (by decide) (kX9 _) rfl [.int (xs (x3 + 1).toNatClampNeg)] (c_X9_say l D cy ad2 μ n ct (xs (x3 + 1).toNatClampNeg) h.hn h.mn h.hct h.mct) gL_law_X9_say rfl (by decide +kernel) rfl ⟨Nat.le_of_ble_eq_true rfl, Nat.le_of_ble_eq_true rfl⟩ ⟨rfl, rfl⟩ ⟨Nat.le_of_ble_eq_true rfl, Nat.le_of_ble_eq_true rfl⟩ rfl (Nat.le_of_ble_eq_true rfl) dL_law_379 (fun w_ τm_ H locs hqm hPM hPX hS => ?_)
  obtain ⟨rfl, rfl⟩ := hqm
  refine lv_icmp_eq (tgt := 916) hx hb dL_law_382 (by decide) (fun cc => ?_) (fun cc => ?_)
  · exact K y z _ _ _ _ _ (op_say (v := xs (x3 + 1).toNatClampNeg) h).2 hPX hPM hS hl
  · exact absurd (op_say (v := xs (x3 + 1).toNatClampNeg) h).1 cc

set_option maxHeartbeats 1000000 in
set_option maxRecDepth 100000 in
theorem lw_c9 {p : Program} {l : Launch} {e : Env} {s : State} {m : MethodId} {below : List Frame} {meth : Method} {c : Code} {b L : Nat} {xs : Nat → Int32} {D : va_G} {cy : Nat → ClassId} {ad ad2 : Nat → Nat} (E : lwE p s m c b L xs D cy ad ad2) {j : Nat} {x3 : Int32} (hj : 4 * j + 4 ≤ L) (ex : x3 = nI (4 * j)) (K : lwK p l e s m b below meth c D cy ad ad2 x3) {y z : Nat} {σ μ : Nat → Nat → Int32} (hR : Rel y z σ μ) {H : Heap} {locs : List Loc} {ls : Array Slot} (hPX : va_P D classes (rw_ 109 ad (cfX ad cy y z) σ) H) (hPM : va_P D classes (rw_ 19 ad2 (cfM ad2 cy) μ) H) (hS : va_S (lA s) s.heap H locs) (hl : lv_has ls 4 [(0, .ref b), (1, .ref (ad 0)), (2, .ref (ad2 0)), (3, .int x3)]) : W p l e room_1 s m #[Value.ref b] below meth c H locs 128 1954 (lw_Z below #[Value.ref b] s) (F0 m 387 ls []) := by
  obtain ⟨hx, hb, hml, hown, hts, hK, hX, hbl, hDX, hDM, hne, hL⟩ := E
  obtain ⟨k, n, nx, ct, len, t, sd, h⟩ := hR
  have hA : ∀ q : Nat, s.heap.size ≤ q → lA s q := fun _ h => h
  have hbA : ¬ lA s b := Nat.not_le.mpr hbl
  have i1 : vp_in (x3 + 1) L := i_in 1 (by decide) hL hj ex
  have i2 : vp_in (x3 + 2) L := i_in 2 (by decide) hL hj ex
  have i3 : vp_in (x3 + 3) L := i_in 3 (by decide) hL hj ex
  refine lv_aload_n hx hb dL_law_387 rfl (lv_at hl 1 rfl) ?_
  refine lv_aload_n hx hb dL_law_388 rfl (lv_at hl 0 rfl) ?_
  refine lv_iload_n hx hb dL_law_389 rfl (lv_at hl 3 rfl) ?_
  refine lv_iconst (v := 1) hx hb dL_law_390 (by decide) ?_
  refine lv_iadd hx hb dL_law_391 ?_
  refine va_sld hx hb hX hbl hbA hS i1 dL_law_392 ?_
  refine lv_aload_n hx hb dL_law_393 rfl (lv_at hl 0 rfl) ?_
  refine lv_iload_n hx hb dL_law_394 rfl (lv_at hl 3 rfl) ?_
  refine lv_iconst (v := 2) hx hb dL_law_395 (by decide) ?_
  refine lv_iadd hx hb dL_law_396 ?_
  refine va_sld hx hb hX hbl hbA hS i2 dL_law_397 ?_
  refine lv_if_eq (tgt := 405) hx hb dL_law_398 (by decide) (fun c398 => ?_) (fun c398 => ?_)
  · skip
    refine lv_iconst (v := 0) hx hb dL_law_405 (by decide) ?_
    refine lc_I (na := 2) hx hb hml hown hts hK hA (hDX y z) hPX hPM hne hS hl.1 0 (by decide) (kX8 _) rfl [.int (xs (x3 + 1).toNatClampNeg), .int 0] (c_X8_vow l D cy ad y z σ n nx ct (xs (x3 + 1).toNatClampNeg) (0) h.yz h.hn h.en h.hnx h.enx h.hct h.ect) gL_law_X8_vow rfl (by decide +kernel) rfl ⟨Nat.le_of_ble_eq_true rfl, Nat.le_of_ble_eq_true rfl⟩ ⟨rfl, rfl⟩ ⟨Nat.le_of_ble_eq_true rfl, Nat.le_of_ble_eq_true rfl⟩ rfl (Nat.le_of_ble_eq_true rfl) dL_law_406 (fun v_ τ_ H locs hqx hPX hPM hS => ?_)
    obtain ⟨rfl, rfl⟩ := hqx
    refine lv_aload_n hx hb dL_law_409 rfl (lv_at hl 2 rfl) ?_
    refine lv_aload_n hx hb dL_law_410 rfl (lv_at hl 0 rfl) ?_
    refine lv_iload_n hx hb dL_law_411 rfl (lv_at hl 3 rfl) ?_
    refine lv_iconst (v := 1) hx hb dL_law_412 (by decide) ?_
    refine lv_iadd hx hb dL_law_413 ?_
    refine va_sld hx hb hX hbl hbA hS i1 dL_law_414 ?_
    refine lv_aload_n hx hb dL_law_415 rfl (lv_at hl 0 rfl) ?_
    refine lv_iload_n hx hb dL_law_416 rfl (lv_at hl 3 rfl) ?_
    refine lv_iconst (v := 2) hx hb dL_law_417 (by decide) ?_
    refine lv_iadd hx hb dL_law_418 ?_
    refine va_sld hx hb hX hbl hbA hS i2 dL_law_419 ?_
    refine lv_if_eq (tgt := 427) hx hb dL_law_420 (by decide) (fun c420 => ?_) (fun c420 => ?_)
    · skip
      refine lv_iconst (v := 0) hx hb dL_law_427 (by decide) ?_
      refine lc_I (na := 2) hx hb hml hown hts hK hA hDM hPM hPX (fun r r2 h1 h2 q => hne r2 r h2 h1 q.symm) hS hl.1 0 (by decide) (kX9 _) rfl [.int (xs (x3 + 1).toNatClampNeg), .int 0] (c_X9_vow l D cy ad2 μ n ct (xs (x3 + 1).toNatClampNeg) (0) h.hn h.mn h.hct h.mct) gL_law_X9_vow rfl (by decide +kernel) rfl ⟨Nat.le_of_ble_eq_true rfl, Nat.le_of_ble_eq_true rfl⟩ ⟨rfl, rfl⟩ ⟨Nat.le_of_ble_eq_true rfl, Nat.le_of_ble_eq_true rfl⟩ rfl (Nat.le_of_ble_eq_true rfl) dL_law_428 (fun w_ τm_ H locs hqm hPM hPX hS => ?_)
      obtain ⟨rfl, rfl⟩ := hqm
      refine lv_icmp_eq (tgt := 916) hx hb dL_law_431 (by decide) (fun cc => ?_) (fun cc => ?_)
      · exact K y z _ _ _ _ _ (op_vow (v := xs (x3 + 1).toNatClampNeg) (w := 0) h).2 hPX hPM hS hl
      · exact absurd (op_vow (v := xs (x3 + 1).toNatClampNeg) (w := 0) h).1 cc
    · skip
      exact absurd c398 c420
  · skip
    refine lv_iconst (v := 1) hx hb dL_law_401 (by decide) ?_
    refine lv_goto (tgt := 406) hx hb dL_law_402 (by decide) ?_
    refine lc_I (na := 2) hx hb hml hown hts hK hA (hDX y z) hPX hPM hne hS hl.1 0 (by decide) (kX8 _) rfl [.int (xs (x3 + 1).toNatClampNeg), .int 1] (c_X8_vow l D cy ad y z σ n nx ct (xs (x3 + 1).toNatClampNeg) (1) h.yz h.hn h.en h.hnx h.enx h.hct h.ect) gL_law_X8_vow rfl (by decide +kernel) rfl ⟨Nat.le_of_ble_eq_true rfl, Nat.le_of_ble_eq_true rfl⟩ ⟨rfl, rfl⟩ ⟨Nat.le_of_ble_eq_true rfl, Nat.le_of_ble_eq_true rfl⟩ rfl (Nat.le_of_ble_eq_true rfl) dL_law_406 (fun v_ τ_ H locs hqx hPX hPM hS => ?_)
    obtain ⟨rfl, rfl⟩ := hqx
    refine lv_aload_n hx hb dL_law_409 rfl (lv_at hl 2 rfl) ?_
    refine lv_aload_n hx hb dL_law_410 rfl (lv_at hl 0 rfl) ?_
    refine lv_iload_n hx hb dL_law_411 rfl (lv_at hl 3 rfl) ?_
    refine lv_iconst (v := 1) hx hb dL_law_412 (by decide) ?_
    refine lv_iadd hx hb dL_law_413 ?_
    refine va_sld hx hb hX hbl hbA hS i1 dL_law_414 ?_
    refine lv_aload_n hx hb dL_law_415 rfl (lv_at hl 0 rfl) ?_
    refine lv_iload_n hx hb dL_law_416 rfl (lv_at hl 3 rfl) ?_
    refine lv_iconst (v := 2) hx hb dL_law_417 (by decide) ?_
    refine lv_iadd hx hb dL_law_418 ?_
    refine va_sld hx hb hX hbl hbA hS i2 dL_law_419 ?_
    refine lv_if_eq (tgt := 427) hx hb dL_law_420 (by decide) (fun c420 => ?_) (fun c420 => ?_)
    · skip
      exact absurd c420 c398
    · skip
      refine lv_iconst (v := 1) hx hb dL_law_423 (by decide) ?_
      refine lv_goto (tgt := 428) hx hb dL_law_424 (by decide) ?_
      refine lc_I (na := 2) hx hb hml hown hts hK hA hDM hPM hPX (fun r r2 h1 h2 q => hne r2 r h2 h1 q.symm) hS hl.1 0 (by decide) (kX9 _) rfl [.int (xs (x3 + 1).toNatClampNeg), .int 1] (c_X9_vow l D cy ad2 μ n ct (xs (x3 + 1).toNatClampNeg) (1) h.hn h.mn h.hct h.mct) gL_law_X9_vow rfl (by decide +kernel) rfl ⟨Nat.le_of_ble_eq_true rfl, Nat.le_of_ble_eq_true rfl⟩ ⟨rfl, rfl⟩ ⟨Nat.le_of_ble_eq_true rfl, Nat.le_of_ble_eq_true rfl⟩ rfl (Nat.le_of_ble_eq_true rfl) dL_law_428 (fun w_ τm_ H locs hqm hPM hPX hS => ?_)
      obtain ⟨rfl, rfl⟩ := hqm
      refine lv_icmp_eq (tgt := 916) hx hb dL_law_431 (by decide) (fun cc => ?_) (fun cc => ?_)
      · exact K y z _ _ _ _ _ (op_vow (v := xs (x3 + 1).toNatClampNeg) (w := 1) h).2 hPX hPM hS hl
      · exact absurd (op_vow (v := xs (x3 + 1).toNatClampNeg) (w := 1) h).1 cc

set_option maxHeartbeats 1000000 in
set_option maxRecDepth 100000 in
theorem lw_c10 {p : Program} {l : Launch} {e : Env} {s : State} {m : MethodId} {below : List Frame} {meth : Method} {c : Code} {b L : Nat} {xs : Nat → Int32} {D : va_G} {cy : Nat → ClassId} {ad ad2 : Nat → Nat} (E : lwE p s m c b L xs D cy ad ad2) {j : Nat} {x3 : Int32} (hj : 4 * j + 4 ≤ L) (ex : x3 = nI (4 * j)) (K : lwK p l e s m b below meth c D cy ad ad2 x3) {y z : Nat} {σ μ : Nat → Nat → Int32} (hR : Rel y z σ μ) {H : Heap} {locs : List Loc} {ls : Array Slot} (hPX : va_P D classes (rw_ 109 ad (cfX ad cy y z) σ) H) (hPM : va_P D classes (rw_ 19 ad2 (cfM ad2 cy) μ) H) (hS : va_S (lA s) s.heap H locs) (hl : lv_has ls 4 [(0, .ref b), (1, .ref (ad 0)), (2, .ref (ad2 0)), (3, .int x3)]) : W p l e room_1 s m #[Value.ref b] below meth c H locs 128 1954 (lw_Z below #[Value.ref b] s) (F0 m 436 ls []) := by
  obtain ⟨hx, hb, hml, hown, hts, hK, hX, hbl, hDX, hDM, hne, hL⟩ := E
  obtain ⟨k, n, nx, ct, len, t, sd, h⟩ := hR
  have hA : ∀ q : Nat, s.heap.size ≤ q → lA s q := fun _ h => h
  have hbA : ¬ lA s b := Nat.not_le.mpr hbl
  have i1 : vp_in (x3 + 1) L := i_in 1 (by decide) hL hj ex
  have i2 : vp_in (x3 + 2) L := i_in 2 (by decide) hL hj ex
  have i3 : vp_in (x3 + 3) L := i_in 3 (by decide) hL hj ex
  refine lv_aload_n hx hb dL_law_436 rfl (lv_at hl 1 rfl) ?_
  refine lv_aload_n hx hb dL_law_437 rfl (lv_at hl 0 rfl) ?_
  refine lv_iload_n hx hb dL_law_438 rfl (lv_at hl 3 rfl) ?_
  refine lv_iconst (v := 1) hx hb dL_law_439 (by decide) ?_
  refine lv_iadd hx hb dL_law_440 ?_
  refine va_sld hx hb hX hbl hbA hS i1 dL_law_441 ?_
  refine lc_I (na := 1) hx hb hml hown hts hK hA (hDX y z) hPX hPM hne hS hl.1 0 (by decide) (kX8 _) rfl [.int (xs (x3 + 1).toNatClampNeg)] (c_X8_night l D cy ad y z σ nx ct (xs (x3 + 1).toNatClampNeg) h.yz h.hnx h.enx h.hct h.ect) gL_law_X8_night rfl (by decide +kernel) rfl ⟨Nat.le_of_ble_eq_true rfl, Nat.le_of_ble_eq_true rfl⟩ ⟨rfl, rfl⟩ ⟨Nat.le_of_ble_eq_true rfl, Nat.le_of_ble_eq_true rfl⟩ rfl (Nat.le_of_ble_eq_true rfl) dL_law_442 (fun v_ τ_ H locs hqx hPX hPM hS => ?_)
  obtain ⟨rfl, rfl⟩ := hqx
  refine lv_aload_n hx hb dL_law_445 rfl (lv_at hl 2 rfl) ?_
  refine lv_aload_n hx hb dL_law_446 rfl (lv_at hl 0 rfl) ?_
  refine lv_iload_n hx hb dL_law_447 rfl (lv_at hl 3 rfl) ?_
  refine lv_iconst (v := 1) hx hb dL_law_448 (by decide) ?_
  refine lv_iadd hx hb dL_law_449 ?_
  refine va_sld hx hb hX hbl hbA hS i1 dL_law_450 ?_
  refine lc_I (na := 1) hx hb hml hown hts hK hA hDM hPM hPX (fun r r2 h1 h2 q => hne r2 r h2 h1 q.symm) hS hl.1 0 (by decide) (kX9 _) rfl [.int (xs (x3 + 1).toNatClampNeg)] (c_X9_night l D cy ad2 μ ct (xs (x3 + 1).toNatClampNeg) h.hct h.mct) gL_law_X9_night rfl (by decide +kernel) rfl ⟨Nat.le_of_ble_eq_true rfl, Nat.le_of_ble_eq_true rfl⟩ ⟨rfl, rfl⟩ ⟨Nat.le_of_ble_eq_true rfl, Nat.le_of_ble_eq_true rfl⟩ rfl (Nat.le_of_ble_eq_true rfl) dL_law_451 (fun w_ τm_ H locs hqm hPM hPX hS => ?_)
  obtain ⟨rfl, rfl⟩ := hqm
  refine lv_icmp_eq (tgt := 916) hx hb dL_law_454 (by decide) (fun cc => ?_) (fun cc => ?_)
  · exact K y z _ _ _ _ _ (op_night (v := xs (x3 + 1).toNatClampNeg) h).2 hPX hPM hS hl
  · exact absurd (op_night (v := xs (x3 + 1).toNatClampNeg) h).1 cc

set_option maxHeartbeats 1000000 in
set_option maxRecDepth 100000 in
theorem lw_c11 {p : Program} {l : Launch} {e : Env} {s : State} {m : MethodId} {below : List Frame} {meth : Method} {c : Code} {b L : Nat} {xs : Nat → Int32} {D : va_G} {cy : Nat → ClassId} {ad ad2 : Nat → Nat} (E : lwE p s m c b L xs D cy ad ad2) {j : Nat} {x3 : Int32} (hj : 4 * j + 4 ≤ L) (ex : x3 = nI (4 * j)) (K : lwK p l e s m b below meth c D cy ad ad2 x3) {y z : Nat} {σ μ : Nat → Nat → Int32} (hR : Rel y z σ μ) {H : Heap} {locs : List Loc} {ls : Array Slot} (hPX : va_P D classes (rw_ 109 ad (cfX ad cy y z) σ) H) (hPM : va_P D classes (rw_ 19 ad2 (cfM ad2 cy) μ) H) (hS : va_S (lA s) s.heap H locs) (hl : lv_has ls 4 [(0, .ref b), (1, .ref (ad 0)), (2, .ref (ad2 0)), (3, .int x3)]) : W p l e room_1 s m #[Value.ref b] below meth c H locs 128 1954 (lw_Z below #[Value.ref b] s) (F0 m 459 ls []) := by
  obtain ⟨hx, hb, hml, hown, hts, hK, hX, hbl, hDX, hDM, hne, hL⟩ := E
  obtain ⟨k, n, nx, ct, len, t, sd, h⟩ := hR
  have hA : ∀ q : Nat, s.heap.size ≤ q → lA s q := fun _ h => h
  have hbA : ¬ lA s b := Nat.not_le.mpr hbl
  have i1 : vp_in (x3 + 1) L := i_in 1 (by decide) hL hj ex
  have i2 : vp_in (x3 + 2) L := i_in 2 (by decide) hL hj ex
  have i3 : vp_in (x3 + 3) L := i_in 3 (by decide) hL hj ex
  refine lv_aload_n hx hb dL_law_459 rfl (lv_at hl 1 rfl) ?_
  refine lv_aload_n hx hb dL_law_460 rfl (lv_at hl 0 rfl) ?_
  refine lv_iload_n hx hb dL_law_461 rfl (lv_at hl 3 rfl) ?_
  refine lv_iconst (v := 1) hx hb dL_law_462 (by decide) ?_
  refine lv_iadd hx hb dL_law_463 ?_
  refine va_sld hx hb hX hbl hbA hS i1 dL_law_464 ?_
  refine lc_I (na := 1) hx hb hml hown hts hK hA (hDX y z) hPX hPM hne hS hl.1 0 (by decide) (kX8 _) rfl [.int (xs (x3 + 1).toNatClampNeg)] (c_X8_rain l D cy ad y z σ nx ct (xs (x3 + 1).toNatClampNeg) h.yz h.hnx h.enx h.hct h.ect) gL_law_X8_rain rfl (by decide +kernel) rfl ⟨Nat.le_of_ble_eq_true rfl, Nat.le_of_ble_eq_true rfl⟩ ⟨rfl, rfl⟩ ⟨Nat.le_of_ble_eq_true rfl, Nat.le_of_ble_eq_true rfl⟩ rfl (Nat.le_of_ble_eq_true rfl) dL_law_465 (fun v_ τ_ H locs hqx hPX hPM hS => ?_)
  obtain ⟨rfl, rfl⟩ := hqx
  refine lv_aload_n hx hb dL_law_468 rfl (lv_at hl 2 rfl) ?_
  refine lv_aload_n hx hb dL_law_469 rfl (lv_at hl 0 rfl) ?_
  refine lv_iload_n hx hb dL_law_470 rfl (lv_at hl 3 rfl) ?_
  refine lv_iconst (v := 1) hx hb dL_law_471 (by decide) ?_
  refine lv_iadd hx hb dL_law_472 ?_
  refine va_sld hx hb hX hbl hbA hS i1 dL_law_473 ?_
  refine lc_I (na := 1) hx hb hml hown hts hK hA hDM hPM hPX (fun r r2 h1 h2 q => hne r2 r h2 h1 q.symm) hS hl.1 0 (by decide) (kX9 _) rfl [.int (xs (x3 + 1).toNatClampNeg)] (c_X9_rain l D cy ad2 μ ct (xs (x3 + 1).toNatClampNeg) h.hct h.mct) gL_law_X9_rain rfl (by decide +kernel) rfl ⟨Nat.le_of_ble_eq_true rfl, Nat.le_of_ble_eq_true rfl⟩ ⟨rfl, rfl⟩ ⟨Nat.le_of_ble_eq_true rfl, Nat.le_of_ble_eq_true rfl⟩ rfl (Nat.le_of_ble_eq_true rfl) dL_law_474 (fun w_ τm_ H locs hqm hPM hPX hS => ?_)
  obtain ⟨rfl, rfl⟩ := hqm
  refine lv_icmp_eq (tgt := 916) hx hb dL_law_477 (by decide) (fun cc => ?_) (fun cc => ?_)
  · exact K y z _ _ _ _ _ (op_rain (v := xs (x3 + 1).toNatClampNeg) h).2 hPX hPM hS hl
  · exact absurd (op_rain (v := xs (x3 + 1).toNatClampNeg) h).1 cc

set_option maxHeartbeats 1000000 in
set_option maxRecDepth 100000 in
theorem lw_c12 {p : Program} {l : Launch} {e : Env} {s : State} {m : MethodId} {below : List Frame} {meth : Method} {c : Code} {b L : Nat} {xs : Nat → Int32} {D : va_G} {cy : Nat → ClassId} {ad ad2 : Nat → Nat} (E : lwE p s m c b L xs D cy ad ad2) {j : Nat} {x3 : Int32} (hj : 4 * j + 4 ≤ L) (ex : x3 = nI (4 * j)) (K : lwK p l e s m b below meth c D cy ad ad2 x3) {y z : Nat} {σ μ : Nat → Nat → Int32} (hR : Rel y z σ μ) {H : Heap} {locs : List Loc} {ls : Array Slot} (hPX : va_P D classes (rw_ 109 ad (cfX ad cy y z) σ) H) (hPM : va_P D classes (rw_ 19 ad2 (cfM ad2 cy) μ) H) (hS : va_S (lA s) s.heap H locs) (hl : lv_has ls 4 [(0, .ref b), (1, .ref (ad 0)), (2, .ref (ad2 0)), (3, .int x3)]) : W p l e room_1 s m #[Value.ref b] below meth c H locs 128 1954 (lw_Z below #[Value.ref b] s) (F0 m 482 ls []) := by
  obtain ⟨hx, hb, hml, hown, hts, hK, hX, hbl, hDX, hDM, hne, hL⟩ := E
  obtain ⟨k, n, nx, ct, len, t, sd, h⟩ := hR
  have hA : ∀ q : Nat, s.heap.size ≤ q → lA s q := fun _ h => h
  have hbA : ¬ lA s b := Nat.not_le.mpr hbl
  have i1 : vp_in (x3 + 1) L := i_in 1 (by decide) hL hj ex
  have i2 : vp_in (x3 + 2) L := i_in 2 (by decide) hL hj ex
  have i3 : vp_in (x3 + 3) L := i_in 3 (by decide) hL hj ex
  obtain ⟨q, p, s_, hq6, eq7, eq16, hqq, h17⟩ := h.tq
  refine lv_aload_n hx hb dL_law_482 rfl (lv_at hl 1 rfl) ?_
  refine lv_aload_n hx hb dL_law_483 rfl (lv_at hl 0 rfl) ?_
  refine lv_iload_n hx hb dL_law_484 rfl (lv_at hl 3 rfl) ?_
  refine lv_iconst (v := 1) hx hb dL_law_485 (by decide) ?_
  refine lv_iadd hx hb dL_law_486 ?_
  refine va_sld hx hb hX hbl hbA hS i1 dL_law_487 ?_
  refine lv_aload_n hx hb dL_law_488 rfl (lv_at hl 0 rfl) ?_
  refine lv_iload_n hx hb dL_law_489 rfl (lv_at hl 3 rfl) ?_
  refine lv_iconst (v := 2) hx hb dL_law_490 (by decide) ?_
  refine lv_iadd hx hb dL_law_491 ?_
  refine va_sld hx hb hX hbl hbA hS i2 dL_law_492 ?_
  refine lc_I (na := 2) hx hb hml hown hts hK hA (hDX y z) hPX hPM hne hS hl.1 0 (by decide) (kX8 _) rfl [.int (xs (x3 + 1).toNatClampNeg), .int (xs (x3 + 2).toNatClampNeg)] (c_X8_queue l D cy ad y z σ n k nx ct q (xs (x3 + 1).toNatClampNeg) (xs (x3 + 2).toNatClampNeg) h.yz h.hn h.en h.hk h.ek h.hnx h.enx h.hct h.ect hq6 eq7) gL_law_X8_queue rfl (by decide +kernel) rfl ⟨Nat.le_of_ble_eq_true rfl, Nat.le_of_ble_eq_true rfl⟩ ⟨rfl, rfl⟩ ⟨Nat.le_of_ble_eq_true rfl, Nat.le_of_ble_eq_true rfl⟩ rfl (Nat.le_of_ble_eq_true rfl) dL_law_493 (fun v_ τ_ H locs hqx hPX hPM hS => ?_)
  obtain ⟨rfl, rfl⟩ := hqx
  refine lv_aload_n hx hb dL_law_496 rfl (lv_at hl 2 rfl) ?_
  refine lv_aload_n hx hb dL_law_497 rfl (lv_at hl 0 rfl) ?_
  refine lv_iload_n hx hb dL_law_498 rfl (lv_at hl 3 rfl) ?_
  refine lv_iconst (v := 1) hx hb dL_law_499 (by decide) ?_
  refine lv_iadd hx hb dL_law_500 ?_
  refine va_sld hx hb hX hbl hbA hS i1 dL_law_501 ?_
  refine lv_aload_n hx hb dL_law_502 rfl (lv_at hl 0 rfl) ?_
  refine lv_iload_n hx hb dL_law_503 rfl (lv_at hl 3 rfl) ?_
  refine lv_iconst (v := 2) hx hb dL_law_504 (by decide) ?_
  refine lv_iadd hx hb dL_law_505 ?_
  refine va_sld hx hb hX hbl hbA hS i2 dL_law_506 ?_
  refine lc_I (na := 2) hx hb hml hown hts hK hA hDM hPM hPX (fun r r2 h1 h2 q => hne r2 r h2 h1 q.symm) hS hl.1 0 (by decide) (kX9 _) rfl [.int (xs (x3 + 1).toNatClampNeg), .int (xs (x3 + 2).toNatClampNeg)] (c_X9_queue l D cy ad2 μ n k ct q (xs (x3 + 1).toNatClampNeg) (xs (x3 + 2).toNatClampNeg) h.hn h.mn h.hk h.mk h.hct h.mct hq6 eq16) gL_law_X9_queue rfl (by decide +kernel) rfl ⟨Nat.le_of_ble_eq_true rfl, Nat.le_of_ble_eq_true rfl⟩ ⟨rfl, rfl⟩ ⟨Nat.le_of_ble_eq_true rfl, Nat.le_of_ble_eq_true rfl⟩ rfl (Nat.le_of_ble_eq_true rfl) dL_law_507 (fun w_ τm_ H locs hqm hPM hPX hS => ?_)
  obtain ⟨rfl, rfl⟩ := hqm
  refine lv_icmp_eq (tgt := 916) hx hb dL_law_510 (by decide) (fun cc => ?_) (fun cc => ?_)
  · exact K y z _ _ _ _ _ (op_queue (v := xs (x3 + 1).toNatClampNeg) (w := xs (x3 + 2).toNatClampNeg) h hq6 eq7).2 hPX hPM hS hl
  · exact absurd (op_queue (v := xs (x3 + 1).toNatClampNeg) (w := xs (x3 + 2).toNatClampNeg) h hq6 eq7).1 cc

set_option maxHeartbeats 1000000 in
set_option maxRecDepth 100000 in
theorem lw_c13 {p : Program} {l : Launch} {e : Env} {s : State} {m : MethodId} {below : List Frame} {meth : Method} {c : Code} {b L : Nat} {xs : Nat → Int32} {D : va_G} {cy : Nat → ClassId} {ad ad2 : Nat → Nat} (E : lwE p s m c b L xs D cy ad ad2) {j : Nat} {x3 : Int32} (hj : 4 * j + 4 ≤ L) (ex : x3 = nI (4 * j)) (K : lwK p l e s m b below meth c D cy ad ad2 x3) {y z : Nat} {σ μ : Nat → Nat → Int32} (hR : Rel y z σ μ) {H : Heap} {locs : List Loc} {ls : Array Slot} (hPX : va_P D classes (rw_ 109 ad (cfX ad cy y z) σ) H) (hPM : va_P D classes (rw_ 19 ad2 (cfM ad2 cy) μ) H) (hS : va_S (lA s) s.heap H locs) (hl : lv_has ls 4 [(0, .ref b), (1, .ref (ad 0)), (2, .ref (ad2 0)), (3, .int x3)]) : W p l e room_1 s m #[Value.ref b] below meth c H locs 128 1954 (lw_Z below #[Value.ref b] s) (F0 m 515 ls []) := by
  obtain ⟨hx, hb, hml, hown, hts, hK, hX, hbl, hDX, hDM, hne, hL⟩ := E
  obtain ⟨k, n, nx, ct, len, t, sd, h⟩ := hR
  have hA : ∀ q : Nat, s.heap.size ≤ q → lA s q := fun _ h => h
  have hbA : ¬ lA s b := Nat.not_le.mpr hbl
  have i1 : vp_in (x3 + 1) L := i_in 1 (by decide) hL hj ex
  have i2 : vp_in (x3 + 2) L := i_in 2 (by decide) hL hj ex
  have i3 : vp_in (x3 + 3) L := i_in 3 (by decide) hL hj ex
  obtain ⟨q, p, s_, hq6, eq7, eq16, hqq, h17⟩ := h.tq
  refine lv_aload_n hx hb dL_law_515 rfl (lv_at hl 1 rfl) ?_
  refine lc_I (na := 0) hx hb hml hown hts hK hA (hDX y z) hPX hPM hne hS hl.1 0 (by decide) (kX8 _) rfl [] (c_X8_turn l D cy ad y z σ n k nx ct q p s_ h.yz h.hn h.en h.hk h.ek h.hnx h.enx h.hct h.ect hq6 eq7 hqq) gL_law_X8_turn rfl (by decide +kernel) rfl ⟨Nat.le_of_ble_eq_true rfl, Nat.le_of_ble_eq_true rfl⟩ ⟨rfl, rfl⟩ ⟨Nat.le_of_ble_eq_true rfl, Nat.le_of_ble_eq_true rfl⟩ rfl (Nat.le_of_ble_eq_true rfl) dL_law_516 (fun v_ τ_ H locs hqx hPX hPM hS => ?_)
  obtain ⟨rfl, rfl⟩ := hqx
  refine lv_aload_n hx hb dL_law_519 rfl (lv_at hl 2 rfl) ?_
  refine lc_I (na := 0) hx hb hml hown hts hK hA hDM hPM hPX (fun r r2 h1 h2 q => hne r2 r h2 h1 q.symm) hS hl.1 0 (by decide) (kX9 _) rfl [] (c_X9_turn l D cy ad2 μ n k ct q p s_ h.hn h.hk h.hct h.mct hq6 eq16 (fun q0 => ⟨h17 q0, (hqq q0).2.2.1, (hqq q0).2.2.2⟩)) gL_law_X9_turn rfl (by decide +kernel) rfl ⟨Nat.le_of_ble_eq_true rfl, Nat.le_of_ble_eq_true rfl⟩ ⟨rfl, rfl⟩ ⟨Nat.le_of_ble_eq_true rfl, Nat.le_of_ble_eq_true rfl⟩ rfl (Nat.le_of_ble_eq_true rfl) dL_law_520 (fun w_ τm_ H locs hqm hPM hPX hS => ?_)
  obtain ⟨rfl, rfl⟩ := hqm
  refine lv_icmp_eq (tgt := 916) hx hb dL_law_523 (by decide) (fun cc => ?_) (fun cc => ?_)
  · exact K y z _ _ _ _ _ (op_turn h hq6 eq7 hqq h17).2 hPX hPM hS hl
  · exact absurd (op_turn h hq6 eq7 hqq h17).1 cc
