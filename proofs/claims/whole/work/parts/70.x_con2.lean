/-- wells side by side -/
def wls (cy : Nat → ClassId) (a : Nat → Nat) : Nat → va_W
  | 0 => []
  | j + 1 => wls cy a j ++ wX6 cy (a (4 * j)) (a (4 * j + 1)) (a (4 * j + 2)) (a (4 * j + 3))
theorem wls_e {cy : Nat → ClassId} {a b : Nat → Nat} (j : Nat) : (∀ r, r < 4 * j → b r = a r) → wls cy b j = wls cy a j := by
  induction j with
  | zero => intro _; rfl
  | succ j ih =>
    intro h
    unfold wls
    rw [ih (fun r hr => h r (by omega)), h (4 * j) (by omega), h (4 * j + 1) (by omega), h (4 * j + 2) (by omega), h (4 * j + 3) (by omega)]
def a4 (a : Nat → Nat) (j q q1 q2 q3 : Nat) : Nat → Nat := fun r => if r < 4 * j then a r else if r = 4 * j then q else if r = 4 * j + 1 then q1 else if r = 4 * j + 2 then q2 else q3
theorem a4_lt {a : Nat → Nat} {j q q1 q2 q3 r : Nat} (h : r < 4 * j) : a4 a j q q1 q2 q3 r = a r := if_pos h
theorem a4_0 {a : Nat → Nat} {j q q1 q2 q3 : Nat} : a4 a j q q1 q2 q3 (4 * j) = q := by unfold a4; rw [if_neg (by omega), if_pos rfl]
theorem wls_s {cy : Nat → ClassId} {a : Nat → Nat} {j q q1 q2 q3 : Nat} : wls cy a j ++ wX6 cy q q1 q2 q3 = wls cy (a4 a j q q1 q2 q3) (j + 1) := by
  show _ = wls cy (a4 a j q q1 q2 q3) j ++ wX6 cy (a4 a j q q1 q2 q3 (4 * j)) (a4 a j q q1 q2 q3 (4 * j + 1)) (a4 a j q q1 q2 q3 (4 * j + 2)) (a4 a j q q1 q2 q3 (4 * j + 3))
  have e1 : a4 a j q q1 q2 q3 (4 * j + 1) = q1 := by unfold a4; rw [if_neg (by omega), if_neg (by omega), if_pos rfl]
  have e2 : a4 a j q q1 q2 q3 (4 * j + 2) = q2 := by unfold a4; rw [if_neg (by omega), if_neg (by omega), if_neg (by omega), if_pos rfl]
  have e3 : a4 a j q q1 q2 q3 (4 * j + 3) = q3 := by unfold a4; rw [if_neg (by omega), if_neg (by omega), if_neg (by omega), if_neg (by omega)]
  rw [wls_e j (fun r hr => a4_lt hr), a4_0, e1, e2, e3]
theorem a4_f {a : Nat → Nat} {f : Nat → Option Nat} {j q q1 q2 q3 : Nat} (hf : ∀ i, i < j → f i = some (a (4 * i))) : ∀ i, i < j + 1 → va_up f j (some q) i = some (a4 a j q q1 q2 q3 (4 * i)) := by
  intro i hi
  by_cases e : i = j
  · subst e; rw [a4_0, va_up_self]
  · rw [va_up_ne _ _ e, hf i (by omega), a4_lt (by omega)]
def wX3 (cy : Nat → ClassId) (h0 q7 : Nat) (a : Nat → Nat) (f : Nat → Option Nat) : va_W := [(h0, .inr (3, [.ref q7, .int 0, .int 0])), (q7, .inl (cy 2, 16, .inr (.inr (.inr (.inr f)))))] ++ wls cy a 16
theorem in_X3_init_X3 : ∀ w ∈ u_ws RX3 TX3 3, w ∈ wsX3_init := by decide +kernel
theorem in_X3_init_X6 : ∀ w ∈ u_ws RX6 TX6 10, w ∈ wsX3_init := by decide +kernel
set_option maxHeartbeats 1000000 in
set_option maxRecDepth 100000 in
theorem c_X3_init (l : Launch) (D : va_G) (cy : Nat → ClassId) (h0 : Nat) : MC l D cy yX3_init wsX3_init ({ frames := 2, cells := 65, slots := 528, locals := 32 }) h0 (.inr (3, [.null, .int 0, .int 0])) 65 528 (fun u => ∃ (q7 : Nat) (a : Nat → Nat) (f : Nat → Option Nat), (∀ i, i < 16 → f i = some (a (4 * i))) ∧ u = wX3 cy h0 q7 a f) := by
  refine MC.go (cc := cX3_init) (maxL := 2) (by decide) rfl rfl (Nat.le_of_ble_eq_true rfl) ?_
  intro p_ e_ s_ m_ args_ bl_ mt_ c_ A_ Q_ ls hx hb hml hin hown hts hK hN hA hD hP hS hl hret
  refine lv_aload_n hx hb dX3_init_0 rfl (lv_at hl 0 rfl) ?_
  refine W.objInit hx hb hown (hts (.methodLink RX3 3 objectInit) (by decide +kernel)) (hts (.instanceMethod objectInit) (by decide +kernel)) (hts (.code objectInit ⟨#[0xb1]⟩ 1 none) (List.mem_of_getElem? (i := 3) rfl)) rfl (by rw [hml]; exact hl.1) rfl dX3_init_1 (Nat.le_of_ble_eq_true rfl) (Nat.le_of_ble_eq_true rfl) ?_
  refine W.eq (g2 := F0 m_ 4 ls []) rfl ?_
  refine lv_aload_n hx hb dX3_init_4 rfl (lv_at hl 0 rfl) ?_
  refine lv_bipush (v := 16) hx hb dX3_init_5 (by decide) ?_
  refine rp_newQ (N' := 16) hx hb hown (hts (.classLink RX3 9 RX6) (by decide +kernel)) hN hK hP hD hS hA (by decide) (by decide) (by decide) (Nat.le_of_ble_eq_true rfl) (Nat.le_of_ble_eq_true rfl) dX3_init_7 (fun q7 H hP hD hS => ?_)
  have hP : va_P D classes [(h0, .inr (3, [.null, .int 0, .int 0])), (q7, .inl (cy 2, 16, .inr (.inr (.inr (.inr (fun _ => none))))))] H := hP
  have hD : va_D A_ [(h0, .inr (3, [.null, .int 0, .int 0])), (q7, .inl (cy 2, 16, .inr (.inr (.inr (.inr (fun _ => none))))))] := hD
  refine W.widen (k := 1) (n := 16) (by omega) (by omega) ?_
  refine va_putF (C := RX3) (T := TX3) (N := 3) hx hb hts in_X3_init_X3 tyX3 tyX3_ok nmX3 hown hK hP hD hS 0 rfl rfl 0 (by decide) (hts (.fieldLink RX3 11 "UnsaidWell$Past" "wells" "[LUnsaidWell$Well;") (by decide +kernel)) (fun _ h => h) rfl hin rfl (tyX3_ok 0 (by decide)) rfl rfl (Nat.le_of_ble_eq_true rfl) dX3_init_10 (fun H locs hP hD hS => ?_)
  have hP : va_P D classes [(h0, .inr (3, [.ref q7, .int 0, .int 0])), (q7, .inl (cy 2, 16, .inr (.inr (.inr (.inr (fun _ => none))))))] H := hP
  have hD : va_D A_ [(h0, .inr (3, [.ref q7, .int 0, .int 0])), (q7, .inl (cy 2, 16, .inr (.inr (.inr (.inr (fun _ => none))))))] := hD
  refine lv_iconst (v := 0) hx hb dX3_init_13 (by decide) ?_
  refine lv_istore_n (lv' := [(1, .int 0), (0, .ref h0)]) hx hb dX3_init_14 rfl hl (by decide) rfl (fun ls hl => ?_)
  have LL : ∀ (fu j : Nat) (a : Nat → Nat) (f : Nat → Option Nat), j ≤ 16 → (∀ i, i < j → f i = some (a (4 * i))) → 16 - j < fu → ∀ (x1 : Int32) (H : Heap) (locs : List Loc) (ls : Array Slot), nI j = x1 → va_P D classes ([(h0, .inr (3, [.ref q7, .int 0, .int 0])), (q7, .inl (cy 2, 16, .inr (.inr (.inr (.inr f)))))] ++ wls cy a j) H → va_D A_ ([(h0, .inr (3, [.ref q7, .int 0, .int 0])), (q7, .inl (cy 2, 16, .inr (.inr (.inr (.inr f)))))] ++ wls cy a j) → va_S A_ s_.heap H locs → lv_has ls 2 [(1, .int x1), (0, .ref h0)] → W p_ l e_ ({ frames := 2, cells := 65, slots := 528, locals := 32 }) s_ m_ args_ bl_ mt_ c_ H locs (1 + 4 * j) (16 + 32 * j) Q_ (F0 m_ 15 ls []) := by
    intro fu
    induction fu with
    | zero => intro j a f _ _ hf; exact absurd hf (Nat.not_lt_zero _)
    | succ fu ih =>
      intro j a f hj hf hfu x1 H locs ls ex hP hD hS hl
      subst ex
      refine lv_iload_n hx hb dX3_init_15 rfl (lv_at hl 0 rfl) ?_
      refine lv_bipush (v := 16) hx hb dX3_init_16 (by decide) ?_
      refine lv_icmp_ge (tgt := 40) hx hb dX3_init_18 (by decide) (fun cg => ?_) (fun cg => ?_)
      · have ej : j = 16 := cl_ex (n := 16) hj (by omega) cg
        subst ej
        exact hret hP hD hS dX3_init_40 ⟨q7, a, f, hf, rfl⟩
      · have hj2 : j < 16 := cl_in (n := 16) (by omega) (by omega) cg
        refine lv_aload_n hx hb dX3_init_21 rfl (lv_at hl 1 rfl) ?_
        refine va_get (C := RX3) (T := TX3) (N := 3) hx hb hts in_X3_init_X3 hown hK hP 0 rfl rfl 0 (by decide) (hts (.fieldLink RX3 11 "UnsaidWell$Past" "wells" "[LUnsaidWell$Well;") (by decide +kernel)) (fun _ h => h) rfl dX3_init_22 ?_
        refine lv_iload_n hx hb dX3_init_25 rfl (lv_at hl 0 rfl) ?_
        refine va_new (ci := 6) (fs := [.int 0, .int 0, .int 0, .int 0, .int 0, .int 0, .null, .int 0, .null, .null]) (C := RX6) (T := TX6) (N := 10) hx hb hts in_X3_init_X6 tyX6 tyX6_ok hown (hts (.classLink RX3 9 RX6) (by decide +kernel)) (hts (.instantiable RX6 10) (by decide +kernel)) (hts (.initialized RX6) (by decide +kernel)) hK hP hD hS hA rfl (fun j hj => by rcases (show j = 0 ∨ j = 1 ∨ j = 2 ∨ j = 3 ∨ j = 4 ∨ j = 5 ∨ j = 6 ∨ j = 7 ∨ j = 8 ∨ j = 9 by omega) with rfl | rfl | rfl | rfl | rfl | rfl | rfl | rfl | rfl | rfl <;> rfl) (by show _ ≤ 65; omega) (by show _ ≤ 528; omega) dX3_init_26 (fun q H hP hD hS => ?_)
        refine lv_dup hx hb dX3_init_29 rfl ?_
        refine rp_callN (Ts := wsX3_init) hx hb hml hown hts hK hN hA hD hP hS hl.1 (c_X6_init l D cy q) gX3_init_X6_init_n17 rfl ⟨rfl, rfl⟩ (by decide +kernel) hN.2.2.2.2.1 (by decide +kernel) rfl (by decide +kernel) ⟨Nat.le_of_ble_eq_true rfl, Nat.le_of_ble_eq_true rfl⟩ ⟨by show _ ≤ 65; omega, by show _ ≤ 528; omega⟩ (Nat.le_of_ble_eq_true rfl) dX3_init_30 (fun u H locs hq hP hD hS => ?_)
        obtain ⟨q1, q2, q3, rfl⟩ := hq
        refine va_astq (i := nI j) (r := (RX6, TX6, 10)) hx hb hK hP hD hS 1 2 _ 6 rfl rfl (sb_ar (i := 0) rfl) rfl (vp_in_nI hj2 (by decide)) dX3_init_33 (fun H locs hP hD hS => ?_)
        rw [nI_clamp (by omega)] at hP hD
        have hP : va_P D classes ([(h0, .inr (3, [.ref q7, .int 0, .int 0])), (q7, .inl (cy 2, 16, .inr (.inr (.inr (.inr (va_up f j (some q)))))))] ++ wls cy (a4 a j q q1 q2 q3) (j + 1)) H := by rw [← wls_s, ← List.append_assoc]; exact hP
        have hD : va_D A_ ([(h0, .inr (3, [.ref q7, .int 0, .int 0])), (q7, .inl (cy 2, 16, .inr (.inr (.inr (.inr (va_up f j (some q)))))))] ++ wls cy (a4 a j q q1 q2 q3) (j + 1)) := by rw [← wls_s, ← List.append_assoc]; exact hD
        refine lv_iinc (v := (nI j + 1)) (lv' := [(1, .int (nI j + 1)), (0, .ref h0)]) hx hb dX3_init_34 hl (k := 0) rfl rfl (by decide) rfl (fun ls hl => ?_)
        refine lv_goto (tgt := 15) hx hb dX3_init_37 (by decide) ?_
        refine W.widen (k := 1 + 4 * (j + 1)) (n := 16 + 32 * (j + 1)) (by omega) (by omega) ?_
        exact ih (j + 1) (a4 a j q q1 q2 q3) (va_up f j (some q)) hj2 (a4_f hf) (by omega) _ _ _ _ (nI_1 j).symm hP hD hS hl
  exact LL 17 0 (fun _ => 0) (fun _ => none) (by omega) (fun i hi => absurd hi (by omega)) (by omega) 0 _ _ _ rfl hP hD hS hl
def wX2 (cy : Nat → ClassId) (h0 q6 q14 q21 : Nat) (a : Nat → Nat) (f : Nat → Option Nat) : va_W := [(h0, .inr (2, [.ref q6, .ref q14, .ref q21])), (q6, .inl (cy 2, 2, .inr (.inr (.inr (.inr f))))), (q14, .inl (cy 0, 2, .inl (fun _ => 0))), (q21, .inl (cy 1, 2, .inl (fun _ => 0)))] ++ wls cy a 2
theorem in_X2_init_X2 : ∀ w ∈ u_ws RX2 TX2 3, w ∈ wsX2_init := by decide +kernel
theorem in_X2_init_X6 : ∀ w ∈ u_ws RX6 TX6 10, w ∈ wsX2_init := by decide +kernel
set_option maxHeartbeats 1000000 in
set_option maxRecDepth 100000 in
theorem c_X2_init (l : Launch) (D : va_G) (cy : Nat → ClassId) (h0 : Nat) : MC l D cy yX2_init wsX2_init ({ frames := 2, cells := 11, slots := 70, locals := 32 }) h0 (.inr (2, [.null, .null, .null])) 11 70 (fun u => ∃ (q6 q14 q21 : Nat) (a : Nat → Nat) (f : Nat → Option Nat), (∀ i, i < 2 → f i = some (a (4 * i))) ∧ u = wX2 cy h0 q6 q14 q21 a f) := by
  refine MC.go (cc := cX2_init) (maxL := 2) (by decide) rfl rfl (Nat.le_of_ble_eq_true rfl) ?_
  intro p_ e_ s_ m_ args_ bl_ mt_ c_ A_ Q_ ls hx hb hml hin hown hts hK hN hA hD hP hS hl hret
  refine lv_aload_n hx hb dX2_init_0 rfl (lv_at hl 0 rfl) ?_
  refine W.objInit hx hb hown (hts (.methodLink RX2 3 objectInit) (by decide +kernel)) (hts (.instanceMethod objectInit) (by decide +kernel)) (hts (.code objectInit ⟨#[0xb1]⟩ 1 none) (List.mem_of_getElem? (i := 3) rfl)) rfl (by rw [hml]; exact hl.1) rfl dX2_init_1 (Nat.le_of_ble_eq_true rfl) (Nat.le_of_ble_eq_true rfl) ?_
  refine W.eq (g2 := F0 m_ 4 ls []) rfl ?_
  refine lv_aload_n hx hb dX2_init_4 rfl (lv_at hl 0 rfl) ?_
  refine lv_iconst (v := 2) hx hb dX2_init_5 (by decide) ?_
  refine rp_newQ (N' := 2) hx hb hown (hts (.classLink RX2 9 RX6) (by decide +kernel)) hN hK hP hD hS hA (by decide) (by decide) (by decide) (Nat.le_of_ble_eq_true rfl) (Nat.le_of_ble_eq_true rfl) dX2_init_6 (fun q6 H hP hD hS => ?_)
  have hP : va_P D classes [(h0, .inr (2, [.null, .null, .null])), (q6, .inl (cy 2, 2, .inr (.inr (.inr (.inr (fun _ => none))))))] H := hP
  have hD : va_D A_ [(h0, .inr (2, [.null, .null, .null])), (q6, .inl (cy 2, 2, .inr (.inr (.inr (.inr (fun _ => none))))))] := hD
  refine W.widen (k := 1) (n := 2) (by omega) (by omega) ?_
  refine va_putF (C := RX2) (T := TX2) (N := 3) hx hb hts in_X2_init_X2 tyX2 tyX2_ok nmX2 hown hK hP hD hS 0 rfl rfl 0 (by decide) (hts (.fieldLink RX2 11 "UnsaidWell$Images" "wells" "[LUnsaidWell$Well;") (by decide +kernel)) (fun _ h => h) rfl hin rfl (tyX2_ok 0 (by decide)) rfl rfl (Nat.le_of_ble_eq_true rfl) dX2_init_9 (fun H locs hP hD hS => ?_)
  have hP : va_P D classes [(h0, .inr (2, [.ref q6, .null, .null])), (q6, .inl (cy 2, 2, .inr (.inr (.inr (.inr (fun _ => none))))))] H := hP
  have hD : va_D A_ [(h0, .inr (2, [.ref q6, .null, .null])), (q6, .inl (cy 2, 2, .inr (.inr (.inr (.inr (fun _ => none))))))] := hD
  refine lv_aload_n hx hb dX2_init_12 rfl (lv_at hl 0 rfl) ?_
  refine lv_iconst (v := 2) hx hb dX2_init_13 (by decide) ?_
  refine rp_newI (N' := 2) hx hb (hts (.arrayClass .int) (by decide +kernel)) hK hP hD hS hA (by decide) (by decide) (by decide) (Nat.le_of_ble_eq_true rfl) (Nat.le_of_ble_eq_true rfl) dX2_init_14 (fun q14 H hP hD hS => ?_)
  have hP : va_P D classes [(h0, .inr (2, [.ref q6, .null, .null])), (q6, .inl (cy 2, 2, .inr (.inr (.inr (.inr (fun _ => none)))))), (q14, .inl (cy 0, 2, .inl (fun _ => 0)))] H := hP
  have hD : va_D A_ [(h0, .inr (2, [.ref q6, .null, .null])), (q6, .inl (cy 2, 2, .inr (.inr (.inr (.inr (fun _ => none)))))), (q14, .inl (cy 0, 2, .inl (fun _ => 0)))] := hD
  refine W.widen (k := 2) (n := 4) (by omega) (by omega) ?_
  refine va_putF (C := RX2) (T := TX2) (N := 3) hx hb hts in_X2_init_X2 tyX2 tyX2_ok nmX2 hown hK hP hD hS 0 rfl rfl 1 (by decide) (hts (.fieldLink RX2 17 "UnsaidWell$Images" "grains" "[I") (by decide +kernel)) (fun _ h => h) rfl hin rfl (tyX2_ok 1 (by decide)) rfl rfl (Nat.le_of_ble_eq_true rfl) dX2_init_16 (fun H locs hP hD hS => ?_)
  have hP : va_P D classes [(h0, .inr (2, [.ref q6, .ref q14, .null])), (q6, .inl (cy 2, 2, .inr (.inr (.inr (.inr (fun _ => none)))))), (q14, .inl (cy 0, 2, .inl (fun _ => 0)))] H := hP
  have hD : va_D A_ [(h0, .inr (2, [.ref q6, .ref q14, .null])), (q6, .inl (cy 2, 2, .inr (.inr (.inr (.inr (fun _ => none)))))), (q14, .inl (cy 0, 2, .inl (fun _ => 0)))] := hD
  refine lv_aload_n hx hb dX2_init_19 rfl (lv_at hl 0 rfl) ?_
  refine lv_iconst (v := 2) hx hb dX2_init_20 (by decide) ?_
  refine rp_newZ (N' := 2) hx hb (hts (.arrayClass .boolean) (by decide +kernel)) hK hP hD hS hA (by decide) (by decide) (by decide) (Nat.le_of_ble_eq_true rfl) (Nat.le_of_ble_eq_true rfl) dX2_init_21 (fun q21 H hP hD hS => ?_)
  have hP : va_P D classes [(h0, .inr (2, [.ref q6, .ref q14, .null])), (q6, .inl (cy 2, 2, .inr (.inr (.inr (.inr (fun _ => none)))))), (q14, .inl (cy 0, 2, .inl (fun _ => 0))), (q21, .inl (cy 1, 2, .inl (fun _ => 0)))] H := hP
  have hD : va_D A_ [(h0, .inr (2, [.ref q6, .ref q14, .null])), (q6, .inl (cy 2, 2, .inr (.inr (.inr (.inr (fun _ => none)))))), (q14, .inl (cy 0, 2, .inl (fun _ => 0))), (q21, .inl (cy 1, 2, .inl (fun _ => 0)))] := hD
  refine W.widen (k := 3) (n := 6) (by omega) (by omega) ?_
  refine va_putF (C := RX2) (T := TX2) (N := 3) hx hb hts in_X2_init_X2 tyX2 tyX2_ok nmX2 hown hK hP hD hS 0 rfl rfl 2 (by decide) (hts (.fieldLink RX2 21 "UnsaidWell$Images" "kept" "[Z") (by decide +kernel)) (fun _ h => h) rfl hin rfl (tyX2_ok 2 (by decide)) rfl rfl (Nat.le_of_ble_eq_true rfl) dX2_init_23 (fun H locs hP hD hS => ?_)
  have hP : va_P D classes [(h0, .inr (2, [.ref q6, .ref q14, .ref q21])), (q6, .inl (cy 2, 2, .inr (.inr (.inr (.inr (fun _ => none)))))), (q14, .inl (cy 0, 2, .inl (fun _ => 0))), (q21, .inl (cy 1, 2, .inl (fun _ => 0)))] H := hP
  have hD : va_D A_ [(h0, .inr (2, [.ref q6, .ref q14, .ref q21])), (q6, .inl (cy 2, 2, .inr (.inr (.inr (.inr (fun _ => none)))))), (q14, .inl (cy 0, 2, .inl (fun _ => 0))), (q21, .inl (cy 1, 2, .inl (fun _ => 0)))] := hD
  refine lv_iconst (v := 0) hx hb dX2_init_26 (by decide) ?_
  refine lv_istore_n (lv' := [(1, .int 0), (0, .ref h0)]) hx hb dX2_init_27 rfl hl (by decide) rfl (fun ls hl => ?_)
  have LL : ∀ (fu j : Nat) (a : Nat → Nat) (f : Nat → Option Nat), j ≤ 2 → (∀ i, i < j → f i = some (a (4 * i))) → 2 - j < fu → ∀ (x1 : Int32) (H : Heap) (locs : List Loc) (ls : Array Slot), nI j = x1 → va_P D classes ([(h0, .inr (2, [.ref q6, .ref q14, .ref q21])), (q6, .inl (cy 2, 2, .inr (.inr (.inr (.inr f))))), (q14, .inl (cy 0, 2, .inl (fun _ => 0))), (q21, .inl (cy 1, 2, .inl (fun _ => 0)))] ++ wls cy a j) H → va_D A_ ([(h0, .inr (2, [.ref q6, .ref q14, .ref q21])), (q6, .inl (cy 2, 2, .inr (.inr (.inr (.inr f))))), (q14, .inl (cy 0, 2, .inl (fun _ => 0))), (q21, .inl (cy 1, 2, .inl (fun _ => 0)))] ++ wls cy a j) → va_S A_ s_.heap H locs → lv_has ls 2 [(1, .int x1), (0, .ref h0)] → W p_ l e_ ({ frames := 2, cells := 11, slots := 70, locals := 32 }) s_ m_ args_ bl_ mt_ c_ H locs (3 + 4 * j) (6 + 32 * j) Q_ (F0 m_ 28 ls []) := by
    intro fu
    induction fu with
    | zero => intro j a f _ _ hf; exact absurd hf (Nat.not_lt_zero _)
    | succ fu ih =>
      intro j a f hj hf hfu x1 H locs ls ex hP hD hS hl
      subst ex
      refine lv_iload_n hx hb dX2_init_28 rfl (lv_at hl 0 rfl) ?_
      refine lv_iconst (v := 2) hx hb dX2_init_29 (by decide) ?_
      refine lv_icmp_ge (tgt := 52) hx hb dX2_init_30 (by decide) (fun cg => ?_) (fun cg => ?_)
      · have ej : j = 2 := cl_ex (n := 2) hj (by omega) cg
        subst ej
        exact hret hP hD hS dX2_init_52 ⟨q6, q14, q21, a, f, hf, rfl⟩
      · have hj2 : j < 2 := cl_in (n := 2) (by omega) (by omega) cg
        refine lv_aload_n hx hb dX2_init_33 rfl (lv_at hl 1 rfl) ?_
        refine va_get (C := RX2) (T := TX2) (N := 3) hx hb hts in_X2_init_X2 hown hK hP 0 rfl rfl 0 (by decide) (hts (.fieldLink RX2 11 "UnsaidWell$Images" "wells" "[LUnsaidWell$Well;") (by decide +kernel)) (fun _ h => h) rfl dX2_init_34 ?_
        refine lv_iload_n hx hb dX2_init_37 rfl (lv_at hl 0 rfl) ?_
        refine va_new (ci := 6) (fs := [.int 0, .int 0, .int 0, .int 0, .int 0, .int 0, .null, .int 0, .null, .null]) (C := RX6) (T := TX6) (N := 10) hx hb hts in_X2_init_X6 tyX6 tyX6_ok hown (hts (.classLink RX2 9 RX6) (by decide +kernel)) (hts (.instantiable RX6 10) (by decide +kernel)) (hts (.initialized RX6) (by decide +kernel)) hK hP hD hS hA rfl (fun j hj => by rcases (show j = 0 ∨ j = 1 ∨ j = 2 ∨ j = 3 ∨ j = 4 ∨ j = 5 ∨ j = 6 ∨ j = 7 ∨ j = 8 ∨ j = 9 by omega) with rfl | rfl | rfl | rfl | rfl | rfl | rfl | rfl | rfl | rfl <;> rfl) (by show _ ≤ 11; omega) (by show _ ≤ 70; omega) dX2_init_38 (fun q H hP hD hS => ?_)
        refine lv_dup hx hb dX2_init_41 rfl ?_
        refine rp_callN (Ts := wsX2_init) hx hb hml hown hts hK hN hA hD hP hS hl.1 (c_X6_init l D cy q) gX2_init_X6_init_n25 rfl ⟨rfl, rfl⟩ (by decide +kernel) hN.2.2.2.2.2.2.2.1 (by decide +kernel) rfl (by decide +kernel) ⟨Nat.le_of_ble_eq_true rfl, Nat.le_of_ble_eq_true rfl⟩ ⟨by show _ ≤ 11; omega, by show _ ≤ 70; omega⟩ (Nat.le_of_ble_eq_true rfl) dX2_init_42 (fun u H locs hq hP hD hS => ?_)
        obtain ⟨q1, q2, q3, rfl⟩ := hq
        refine va_astq (i := nI j) (r := (RX6, TX6, 10)) hx hb hK hP hD hS 1 2 _ 6 rfl rfl (sb_ar (i := 0) rfl) rfl (vp_in_nI hj2 (by decide)) dX2_init_45 (fun H locs hP hD hS => ?_)
        rw [nI_clamp (by omega)] at hP hD
        have hP : va_P D classes ([(h0, .inr (2, [.ref q6, .ref q14, .ref q21])), (q6, .inl (cy 2, 2, .inr (.inr (.inr (.inr (va_up f j (some q))))))), (q14, .inl (cy 0, 2, .inl (fun _ => 0))), (q21, .inl (cy 1, 2, .inl (fun _ => 0)))] ++ wls cy (a4 a j q q1 q2 q3) (j + 1)) H := by rw [← wls_s, ← List.append_assoc]; exact hP
        have hD : va_D A_ ([(h0, .inr (2, [.ref q6, .ref q14, .ref q21])), (q6, .inl (cy 2, 2, .inr (.inr (.inr (.inr (va_up f j (some q))))))), (q14, .inl (cy 0, 2, .inl (fun _ => 0))), (q21, .inl (cy 1, 2, .inl (fun _ => 0)))] ++ wls cy (a4 a j q q1 q2 q3) (j + 1)) := by rw [← wls_s, ← List.append_assoc]; exact hD
        refine lv_iinc (v := (nI j + 1)) (lv' := [(1, .int (nI j + 1)), (0, .ref h0)]) hx hb dX2_init_46 hl (k := 0) rfl rfl (by decide) rfl (fun ls hl => ?_)
        refine lv_goto (tgt := 28) hx hb dX2_init_49 (by decide) ?_
        refine W.widen (k := 3 + 4 * (j + 1)) (n := 6 + 32 * (j + 1)) (by omega) (by omega) ?_
        exact ih (j + 1) (a4 a j q q1 q2 q3) (va_up f j (some q)) hj2 (a4_f hf) (by omega) _ _ _ _ (nI_1 j).symm hP hD hS hl
  exact LL 3 0 (fun _ => 0) (fun _ => none) (by omega) (fun i hi => absurd hi (by omega)) (by omega) 0 _ _ _ rfl hP hD hS hl
