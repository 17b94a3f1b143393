theorem in_X9_depthOf_X9 : ∀ w ∈ u_ws RX9 TX9 38, w ∈ wsX9_depthOf := by decide +kernel
set_option maxHeartbeats 1000000 in
set_option maxRecDepth 100000 in
theorem c_X9_depthOf (l : Launch) (D : va_G) (cy : Nat → ClassId) (ad : Nat → Nat) (σ : Nat → Nat → Int32) (s : Nat) (hs : s < 10) : MI l D (tysW cy) 19 ad (cfM ad cy) yX9_depthOf wsX9_depthOf ({ frames := 1, cells := 0, slots := 0, locals := 21 }) σ [.ref (ad 0), .int (nI s)] (fun v_ τ_ => (dRowM (σ 5) (σ 13) (s + 1) s) = v_ ∧ (va_up σ 13 (dRowM (σ 5) (σ 13) (s + 1))) = τ_) := by
  refine MI.go (cc := cX9_depthOf) (maxL := 4) .int (by decide) rfl (Nat.le_of_ble_eq_true rfl) ?_
  intro p_ e_ s_ m_ args_ bl_ mt_ c_ A_ Q_ ls hx hb hml hown hts hK hA hD hP hS hl hret
  have hl : lv_has ls 4 [(0, .ref (ad 0)), (1, .int (nI s))] := hl
  refine lv_iconst (v := 0) hx hb dX9_depthOf_0 (by decide) ?_
  refine lv_istore_n (lv' := [(2, .int 0), (0, .ref (ad 0)), (1, .int (nI s))]) hx hb dX9_depthOf_1 rfl hl (by decide) rfl (fun ls hl => ?_)
  have L2 : ∀ (fu2 : Nat) (k : Nat), (k ≤ s + 1) → s + 1 - k < fu2 → ∀ (x2 : Int32) (τ : Nat → Nat → Int32) (H : Heap) (locs : List Loc) (ls : Array Slot), (nI k) = x2 → (va_up σ 13 (dRowM (σ 5) (σ 13) k)) = τ → va_P D classes (rw_ 19 ad (cfM ad cy) τ) H → va_S A_ s_.heap H locs → lv_has ls 4 [(2, .int x2), (0, .ref (ad 0)), (1, .int (nI s))] → W p_ l e_ ({ frames := 1, cells := 0, slots := 0, locals := 21 }) s_ m_ args_ bl_ mt_ c_ H locs 0 0 Q_ (F0 m_ 2 ls []) := by
    intro fu2
    induction fu2 with
    | zero => intro k hk hf; exact absurd hf (Nat.not_lt_zero _)
    | succ fu2 ih2 =>
      intro k hk hf2 x2 τ H locs ls ex2 eτ hP hS hl
      subst ex2
      subst eτ
      refine lv_iload_n hx hb dX9_depthOf_2 rfl (lv_at hl 0 rfl) ?_
      refine lv_iload_n hx hb dX9_depthOf_3 rfl (lv_at hl 2 rfl) ?_
      refine lv_icmp_gt (tgt := 84) hx hb dX9_depthOf_4 (by decide) (fun c4 => ?_) (fun c4 => ?_)
      · skip
        have ek := cl_gt (i := k) (n := s) hk (by omega) c4
        refine lv_aload_n hx hb dX9_depthOf_84 rfl (lv_at hl 1 rfl) ?_
        refine rp_get (C := RX9) (T := TX9) (N := 38) hx hb hts in_X9_depthOf_X9 hown hK hP 0 (by decide) (kX9 _) rfl 30 (by decide) (by decide +kernel) rfl dX9_depthOf_85 ?_
        refine lv_iload_n hx hb dX9_depthOf_88 rfl (lv_at hl 2 rfl) ?_
        refine rp_iald hx hb hK hP 13 (by decide) (kX9_30 _) 0 rfl s rfl (by omega) (by decide) dX9_depthOf_89 ?_
        rw [show (va_up σ 13 (dRowM (σ 5) (σ 13) k)) 13 s = ((dRowM (σ 5) (σ 13) k) s) from va_S']
        exact hret hP hS dX9_depthOf_90 rfl ⟨(by rw [ek]), (by rw [ek])⟩
      · skip
        have hk2 := cl_ngt (i := k) (n := s) (by omega) (by omega) c4
        refine lv_aload_n hx hb dX9_depthOf_7 rfl (lv_at hl 1 rfl) ?_
        refine rp_get (C := RX9) (T := TX9) (N := 38) hx hb hts in_X9_depthOf_X9 hown hK hP 0 (by decide) (kX9 _) rfl 30 (by decide) (by decide +kernel) rfl dX9_depthOf_8 ?_
        refine lv_iload_n hx hb dX9_depthOf_11 rfl (lv_at hl 0 rfl) ?_
        refine lv_iconst (v := 0) hx hb dX9_depthOf_12 (by decide) ?_
        refine rp_iast (x := 0) hx hb hK hP hD hS 13 (by decide) (fun f => kX9_30 f) 0 rfl k rfl (by omega) (by decide) dX9_depthOf_13 (fun H locs hP hS => ?_)
        refine lv_iconst (v := 0) hx hb dX9_depthOf_14 (by decide) ?_
        refine lv_istore_n (lv' := [(3, .int 0), (2, .int (nI k)), (0, .ref (ad 0)), (1, .int (nI s))]) hx hb dX9_depthOf_15 rfl hl (by decide) rfl (fun ls hl => ?_)
        have L16 : ∀ (fu16 : Nat) (a : Nat), (a ≤ k) → k - a < fu16 → ∀ (x3 : Int32) (τ : Nat → Nat → Int32) (H : Heap) (locs : List Loc) (ls : Array Slot), (nI a) = x3 → (va_up σ 13 (upd (dRowM (σ 5) (σ 13) k) k (dInM (σ 5 k) (dRowM (σ 5) (σ 13) k) a))) = τ → va_P D classes (rw_ 19 ad (cfM ad cy) τ) H → va_S A_ s_.heap H locs → lv_has ls 4 [(3, .int x3), (2, .int (nI k)), (0, .ref (ad 0)), (1, .int (nI s))] → W p_ l e_ ({ frames := 1, cells := 0, slots := 0, locals := 21 }) s_ m_ args_ bl_ mt_ c_ H locs 0 0 Q_ (F0 m_ 16 ls []) := by
          intro fu16
          induction fu16 with
          | zero => intro a ha hf; exact absurd hf (Nat.not_lt_zero _)
          | succ fu16 ih16 =>
            intro a ha hf16 x3 τ H locs ls ex3 eτ hP hS hl
            subst ex3
            subst eτ
            refine lv_iload_n hx hb dX9_depthOf_16 rfl (lv_at hl 0 rfl) ?_
            refine lv_iload_n hx hb dX9_depthOf_17 rfl (lv_at hl 1 rfl) ?_
            refine lv_icmp_ge (tgt := 78) hx hb dX9_depthOf_18 (by decide) (fun c18 => ?_) (fun c18 => ?_)
            · skip
              have ea := cl_ex ha (by omega) c18
              refine lv_iinc (v := ((nI k) + 1)) (lv' := [(2, .int ((nI k) + 1)), (3, .int (nI a)), (0, .ref (ad 0)), (1, .int (nI s))]) hx hb dX9_depthOf_78 hl (k := 1) rfl rfl (by decide) rfl (fun ls hl => ?_)
              refine lv_goto (tgt := 2) hx hb dX9_depthOf_81 (by decide) ?_
              exact ih2 (k + 1) (by omega) (by omega) _ _ _ _ _ ((nI_1 k).symm) (by rw [ea]; rfl) hP hS (lv_sub hl [0, 2, 3] rfl)
            · skip
              have ha2 := cl_in (by omega) (by omega) c18
              refine lv_aload_n hx hb dX9_depthOf_21 rfl (lv_at hl 2 rfl) ?_
              refine rp_get (C := RX9) (T := TX9) (N := 38) hx hb hts in_X9_depthOf_X9 hown hK hP 0 (by decide) (kX9 _) rfl 30 (by decide) (by decide +kernel) rfl dX9_depthOf_22 ?_
              refine lv_iload_n hx hb dX9_depthOf_25 rfl (lv_at hl 1 rfl) ?_
              refine lv_aload_n hx hb dX9_depthOf_26 rfl (lv_at hl 2 rfl) ?_
              refine rp_get (C := RX9) (T := TX9) (N := 38) hx hb hts in_X9_depthOf_X9 hown hK hP 0 (by decide) (kX9 _) rfl 10 (by decide) (by decide +kernel) rfl dX9_depthOf_27 ?_
              refine lv_iload_n hx hb dX9_depthOf_30 rfl (lv_at hl 1 rfl) ?_
              refine rp_iald hx hb hK hP 5 (by decide) (kX9_10 _) 0 rfl k rfl (by omega) (by decide) dX9_depthOf_31 ?_
              rw [show (va_up σ 13 (upd (dRowM (σ 5) (σ 13) k) k (dInM (σ 5 k) (dRowM (σ 5) (σ 13) k) a))) 5 k = (σ 5 k) from (va_R (by decide))]
              refine lv_iload_n hx hb dX9_depthOf_32 rfl (lv_at hl 0 rfl) ?_
              refine rp_callSI (na := 2) hx hb hml hown hts hK hA hD hP hS hl.1 [.int (σ 5 k), .int (nI a)] (c_X9_has l D cy ad (va_up σ 13 (upd (dRowM (σ 5) (σ 13) k) k (dInM (σ 5 k) (dRowM (σ 5) (σ 13) k) a))) (σ 5 k) (nI a) ) gX9_depthOf_X9_has rfl (by decide +kernel) rfl ⟨Nat.le_of_ble_eq_true rfl, Nat.le_of_ble_eq_true rfl⟩ ⟨rfl, rfl⟩ ⟨Nat.zero_le _, Nat.zero_le _⟩ rfl (Nat.le_of_ble_eq_true rfl) dX9_depthOf_33 (fun v_ τ_ H locs hq hP hS => ?_)
              obtain ⟨rfl, rfl⟩ := hq
              refine lv_if_eq (tgt := 65) hx hb dX9_depthOf_36 (by decide) (fun c36 => ?_) (fun c36 => ?_)
              · skip
                have c36 := bi_eq0.mp c36
                refine lv_aload_n hx hb dX9_depthOf_65 rfl (lv_at hl 2 rfl) ?_
                refine rp_get (C := RX9) (T := TX9) (N := 38) hx hb hts in_X9_depthOf_X9 hown hK hP 0 (by decide) (kX9 _) rfl 30 (by decide) (by decide +kernel) rfl dX9_depthOf_66 ?_
                refine lv_iload_n hx hb dX9_depthOf_69 rfl (lv_at hl 1 rfl) ?_
                refine rp_iald hx hb hK hP 13 (by decide) (kX9_30 _) 0 rfl k rfl (by omega) (by decide) dX9_depthOf_70 ?_
                rw [show (va_up σ 13 (upd (dRowM (σ 5) (σ 13) k) k (dInM (σ 5 k) (dRowM (σ 5) (σ 13) k) a))) 13 k = ((upd (dRowM (σ 5) (σ 13) k) k (dInM (σ 5 k) (dRowM (σ 5) (σ 13) k) a)) k) from va_S']
                rw [show upd (dRowM (σ 5) (σ 13) k) k (dInM (σ 5 k) (dRowM (σ 5) (σ 13) k) a) k = (dInM (σ 5 k) (dRowM (σ 5) (σ 13) k) a) from pk_us]
                refine rp_iast (x := (dInM (σ 5 k) (dRowM (σ 5) (σ 13) k) a)) hx hb hK hP hD hS 13 (by decide) (fun f => kX9_30 f) 0 rfl k rfl (by omega) (by decide) dX9_depthOf_71 (fun H locs hP hS => ?_)
                refine lv_iinc (v := ((nI a) + 1)) (lv' := [(3, .int ((nI a) + 1)), (2, .int (nI k)), (0, .ref (ad 0)), (1, .int (nI s))]) hx hb dX9_depthOf_72 hl (k := 0) rfl rfl (by decide) rfl (fun ls hl => ?_)
                refine lv_goto (tgt := 16) hx hb dX9_depthOf_75 (by decide) ?_
                exact ih16 (a + 1) (by omega) (by omega) _ _ _ _ _ ((nI_1 a).symm) (by first | rw [vu_up, upd_upd, dInM_t c36 c51] | rw [vu_up, upd_upd, dInM_f c36] | rw [vu_up, upd_upd, dInM_g c51]) hP hS (lv_sub hl [0, 1, 2, 3] rfl)
              · skip
                have c36 := bi_ne0.mp c36
                refine lv_aload_n hx hb dX9_depthOf_39 rfl (lv_at hl 2 rfl) ?_
                refine rp_get (C := RX9) (T := TX9) (N := 38) hx hb hts in_X9_depthOf_X9 hown hK hP 0 (by decide) (kX9 _) rfl 30 (by decide) (by decide +kernel) rfl dX9_depthOf_40 ?_
                refine lv_iload_n hx hb dX9_depthOf_43 rfl (lv_at hl 0 rfl) ?_
                refine rp_iald hx hb hK hP 13 (by decide) (kX9_30 _) 0 rfl a rfl (by omega) (by decide) dX9_depthOf_44 ?_
                rw [show (va_up σ 13 (upd (dRowM (σ 5) (σ 13) k) k (dInM (σ 5 k) (dRowM (σ 5) (σ 13) k) a))) 13 a = ((upd (dRowM (σ 5) (σ 13) k) k (dInM (σ 5 k) (dRowM (σ 5) (σ 13) k) a)) a) from va_S']
                rw [show upd (dRowM (σ 5) (σ 13) k) k (dInM (σ 5 k) (dRowM (σ 5) (σ 13) k) a) a = (dRowM (σ 5) (σ 13) k) a from pk_un (by omega)]
                refine lv_aload_n hx hb dX9_depthOf_45 rfl (lv_at hl 2 rfl) ?_
                refine rp_get (C := RX9) (T := TX9) (N := 38) hx hb hts in_X9_depthOf_X9 hown hK hP 0 (by decide) (kX9 _) rfl 30 (by decide) (by decide +kernel) rfl dX9_depthOf_46 ?_
                refine lv_iload_n hx hb dX9_depthOf_49 rfl (lv_at hl 1 rfl) ?_
                refine rp_iald hx hb hK hP 13 (by decide) (kX9_30 _) 0 rfl k rfl (by omega) (by decide) dX9_depthOf_50 ?_
                rw [show (va_up σ 13 (upd (dRowM (σ 5) (σ 13) k) k (dInM (σ 5 k) (dRowM (σ 5) (σ 13) k) a))) 13 k = ((upd (dRowM (σ 5) (σ 13) k) k (dInM (σ 5 k) (dRowM (σ 5) (σ 13) k) a)) k) from va_S']
                rw [show upd (dRowM (σ 5) (σ 13) k) k (dInM (σ 5 k) (dRowM (σ 5) (σ 13) k) a) k = (dInM (σ 5 k) (dRowM (σ 5) (σ 13) k) a) from pk_us]
                refine lv_icmp_lt (tgt := 65) hx hb dX9_depthOf_51 (by decide) (fun c51 => ?_) (fun c51 => ?_)
                · skip
                  refine lv_aload_n hx hb dX9_depthOf_65 rfl (lv_at hl 2 rfl) ?_
                  refine rp_get (C := RX9) (T := TX9) (N := 38) hx hb hts in_X9_depthOf_X9 hown hK hP 0 (by decide) (kX9 _) rfl 30 (by decide) (by decide +kernel) rfl dX9_depthOf_66 ?_
                  refine lv_iload_n hx hb dX9_depthOf_69 rfl (lv_at hl 1 rfl) ?_
                  refine rp_iald hx hb hK hP 13 (by decide) (kX9_30 _) 0 rfl k rfl (by omega) (by decide) dX9_depthOf_70 ?_
                  rw [show (va_up σ 13 (upd (dRowM (σ 5) (σ 13) k) k (dInM (σ 5 k) (dRowM (σ 5) (σ 13) k) a))) 13 k = ((upd (dRowM (σ 5) (σ 13) k) k (dInM (σ 5 k) (dRowM (σ 5) (σ 13) k) a)) k) from va_S']
                  rw [show upd (dRowM (σ 5) (σ 13) k) k (dInM (σ 5 k) (dRowM (σ 5) (σ 13) k) a) k = (dInM (σ 5 k) (dRowM (σ 5) (σ 13) k) a) from pk_us]
                  refine rp_iast (x := (dInM (σ 5 k) (dRowM (σ 5) (σ 13) k) a)) hx hb hK hP hD hS 13 (by decide) (fun f => kX9_30 f) 0 rfl k rfl (by omega) (by decide) dX9_depthOf_71 (fun H locs hP hS => ?_)
                  refine lv_iinc (v := ((nI a) + 1)) (lv' := [(3, .int ((nI a) + 1)), (2, .int (nI k)), (0, .ref (ad 0)), (1, .int (nI s))]) hx hb dX9_depthOf_72 hl (k := 0) rfl rfl (by decide) rfl (fun ls hl => ?_)
                  refine lv_goto (tgt := 16) hx hb dX9_depthOf_75 (by decide) ?_
                  exact ih16 (a + 1) (by omega) (by omega) _ _ _ _ _ ((nI_1 a).symm) (by first | rw [vu_up, upd_upd, dInM_t c36 c51] | rw [vu_up, upd_upd, dInM_f c36] | rw [vu_up, upd_upd, dInM_g c51]) hP hS (lv_sub hl [0, 1, 2, 3] rfl)
                · skip
                  refine lv_aload_n hx hb dX9_depthOf_54 rfl (lv_at hl 2 rfl) ?_
                  refine rp_get (C := RX9) (T := TX9) (N := 38) hx hb hts in_X9_depthOf_X9 hown hK hP 0 (by decide) (kX9 _) rfl 30 (by decide) (by decide +kernel) rfl dX9_depthOf_55 ?_
                  refine lv_iload_n hx hb dX9_depthOf_58 rfl (lv_at hl 0 rfl) ?_
                  refine rp_iald hx hb hK hP 13 (by decide) (kX9_30 _) 0 rfl a rfl (by omega) (by decide) dX9_depthOf_59 ?_
                  rw [show (va_up σ 13 (upd (dRowM (σ 5) (σ 13) k) k (dInM (σ 5 k) (dRowM (σ 5) (σ 13) k) a))) 13 a = ((upd (dRowM (σ 5) (σ 13) k) k (dInM (σ 5 k) (dRowM (σ 5) (σ 13) k) a)) a) from va_S']
                  rw [show upd (dRowM (σ 5) (σ 13) k) k (dInM (σ 5 k) (dRowM (σ 5) (σ 13) k) a) a = (dRowM (σ 5) (σ 13) k) a from pk_un (by omega)]
                  refine lv_iconst (v := 1) hx hb dX9_depthOf_60 (by decide) ?_
                  refine lv_iadd hx hb dX9_depthOf_61 ?_
                  refine lv_goto (tgt := 71) hx hb dX9_depthOf_62 (by decide) ?_
                  refine rp_iast (x := (((dRowM (σ 5) (σ 13) k) a) + 1)) hx hb hK hP hD hS 13 (by decide) (fun f => kX9_30 f) 0 rfl k rfl (by omega) (by decide) dX9_depthOf_71 (fun H locs hP hS => ?_)
                  refine lv_iinc (v := ((nI a) + 1)) (lv' := [(3, .int ((nI a) + 1)), (2, .int (nI k)), (0, .ref (ad 0)), (1, .int (nI s))]) hx hb dX9_depthOf_72 hl (k := 0) rfl rfl (by decide) rfl (fun ls hl => ?_)
                  refine lv_goto (tgt := 16) hx hb dX9_depthOf_75 (by decide) ?_
                  exact ih16 (a + 1) (by omega) (by omega) _ _ _ _ _ ((nI_1 a).symm) (by first | rw [vu_up, upd_upd, dInM_t c36 c51] | rw [vu_up, upd_upd, dInM_f c36] | rw [vu_up, upd_upd, dInM_g c51]) hP hS (lv_sub hl [0, 1, 2, 3] rfl)
        exact L16 ((k - 0) + 1) 0 (Nat.zero_le _) (Nat.lt_succ_self _) _ _ _ _ _ (by first | rfl | simp [*]) ((vu_up _ _ _ _ _).symm) hP hS (lv_sub hl [0, 1, 2, 3] rfl)
  exact L2 ((s + 1 - 0) + 1) 0 (by omega) (Nat.lt_succ_self _) _ _ _ _ _ (by first | rfl | simp [*]) (va_self _ _) hP hS (lv_sub hl [0, 1, 2] rfl)

theorem in_X9_rootsOf_X9 : ∀ w ∈ u_ws RX9 TX9 38, w ∈ wsX9_rootsOf := by decide +kernel
set_option maxHeartbeats 1000000 in
set_option maxRecDepth 100000 in
theorem c_X9_rootsOf (l : Launch) (D : va_G) (cy : Nat → ClassId) (ad : Nat → Nat) (σ : Nat → Nat → Int32) (s : Nat) (hs : s < 10) : MI l D (tysW cy) 19 ad (cfM ad cy) yX9_rootsOf wsX9_rootsOf ({ frames := 1, cells := 0, slots := 0, locals := 21 }) σ [.ref (ad 0), .int (nI s)] (fun v_ τ_ => (rtD (σ 5) (s + 1) ((1 : Int32) <<< (nI s &&& 31)) 0) = v_ ∧ σ = τ_) := by
  refine MI.go (cc := cX9_rootsOf) (maxL := 5) .int (by decide) rfl (Nat.le_of_ble_eq_true rfl) ?_
  intro p_ e_ s_ m_ args_ bl_ mt_ c_ A_ Q_ ls hx hb hml hown hts hK hA hD hP hS hl hret
  have hl : lv_has ls 5 [(0, .ref (ad 0)), (1, .int (nI s))] := hl
  refine lv_iconst (v := 1) hx hb dX9_rootsOf_0 (by decide) ?_
  refine lv_iload_n hx hb dX9_rootsOf_1 rfl (lv_at hl 1 rfl) ?_
  refine lv_ishl hx hb dX9_rootsOf_2 ?_
  refine lv_istore_n (lv' := [(2, .int ((1 : Int32) <<< ((nI s) &&& 31))), (0, .ref (ad 0)), (1, .int (nI s))]) hx hb dX9_rootsOf_3 rfl hl (by decide) rfl (fun ls hl => ?_)
  refine lv_iconst (v := 0) hx hb dX9_rootsOf_4 (by decide) ?_
  refine lv_istore_n (lv' := [(3, .int 0), (2, .int ((1 : Int32) <<< ((nI s) &&& 31))), (0, .ref (ad 0)), (1, .int (nI s))]) hx hb dX9_rootsOf_5 rfl hl (by decide) rfl (fun ls hl => ?_)
  refine lv_iload_n hx hb dX9_rootsOf_6 rfl (lv_at hl 3 rfl) ?_
  refine lv_istore (lv' := [(4, .int (nI s)), (3, .int 0), (2, .int ((1 : Int32) <<< ((nI s) &&& 31))), (0, .ref (ad 0)), (1, .int (nI s))]) hx hb dX9_rootsOf_7 hl (by decide) rfl (fun ls hl => ?_)
  have L9 : ∀ (fu9 : Nat) (j : Nat) (a : Int32) (r : Int32), (j ≤ s + 1) → (rtD (σ 5) j a r = rtD (σ 5) (s + 1) ((1 : Int32) <<< (nI s &&& 31)) 0) → j < fu9 → ∀ (x4 : Int32) (x3 : Int32) (x2 : Int32) (τ : Nat → Nat → Int32) (H : Heap) (locs : List Loc) (ls : Array Slot), (nI j + (-1)) = x4 → r = x3 → a = x2 → σ = τ → va_P D classes (rw_ 19 ad (cfM ad cy) τ) H → va_S A_ s_.heap H locs → lv_has ls 5 [(4, .int x4), (3, .int x3), (2, .int x2), (0, .ref (ad 0)), (1, .int (nI s))] → W p_ l e_ ({ frames := 1, cells := 0, slots := 0, locals := 21 }) s_ m_ args_ bl_ mt_ c_ H locs 0 0 Q_ (F0 m_ 9 ls []) := by
    intro fu9
    induction fu9 with
    | zero => intro j a r hj hF hf; exact absurd hf (Nat.not_lt_zero _)
    | succ fu9 ih9 =>
      intro j a r hj hF hf9 x4 x3 x2 τ H locs ls ex4 ex3 ex2 eτ hP hS hl
      subst ex4
      subst ex3
      subst ex2
      subst eτ
      refine lv_iload hx hb dX9_rootsOf_9 (lv_at hl 0 rfl) ?_
      refine lv_if_lt (tgt := 60) hx hb dX9_rootsOf_11 (by decide) (fun c11 => ?_) (fun c11 => ?_)
      · skip
        have ej := dn_t (by omega) c11
        refine lv_iload_n hx hb dX9_rootsOf_60 rfl (lv_at hl 1 rfl) ?_
        exact hret hP hS dX9_rootsOf_61 rfl ⟨(by rw [← hF, ej]; rfl), rfl⟩
      · skip
        obtain ⟨q, rfl⟩ := dn_f c11
        rw [pk_m1] at hl
        refine lv_iload_n hx hb dX9_rootsOf_14 rfl (lv_at hl 2 rfl) ?_
        refine lv_iload hx hb dX9_rootsOf_15 (lv_at hl 0 rfl) ?_
        refine rp_callSI (na := 2) hx hb hml hown hts hK hA hD hP hS hl.1 [.int a, .int (nI q)] (c_X9_has l D cy ad σ a (nI q) ) gX9_rootsOf_X9_has rfl (by decide +kernel) rfl ⟨Nat.le_of_ble_eq_true rfl, Nat.le_of_ble_eq_true rfl⟩ ⟨rfl, rfl⟩ ⟨Nat.zero_le _, Nat.zero_le _⟩ rfl (Nat.le_of_ble_eq_true rfl) dX9_rootsOf_17 (fun v_ τ_ H locs hq hP hS => ?_)
        obtain ⟨rfl, rfl⟩ := hq
        refine lv_if_eq (tgt := 54) hx hb dX9_rootsOf_20 (by decide) (fun c20 => ?_) (fun c20 => ?_)
        · skip
          have c20 := bi_eq0.mp c20
          refine lv_iinc (v := ((nI q) + (-1))) (lv' := [(4, .int ((nI q) + (-1))), (3, .int r), (2, .int a), (0, .ref (ad 0)), (1, .int (nI s))]) hx hb dX9_rootsOf_54 hl (k := 0) rfl rfl (by decide) rfl (fun ls hl => ?_)
          refine lv_goto (tgt := 9) hx hb dX9_rootsOf_57 (by decide) ?_
          exact ih9 q _ _ (by omega) (by first | (rw [← hF, rtD, if_pos c20, if_pos c41]) | (rw [← hF, rtD, if_pos c20, if_neg c41]) | (rw [← hF, rtD, if_neg c20])) (by omega) _ _ _ _ _ _ _ (by first | rfl | simp [*]) rfl rfl rfl hP hS (lv_sub hl [0, 1, 2, 3, 4] rfl)
        · skip
          have c20 := bi_ne0.mp c20
          refine lv_iload_n hx hb dX9_rootsOf_23 rfl (lv_at hl 2 rfl) ?_
          refine lv_aload_n hx hb dX9_rootsOf_24 rfl (lv_at hl 3 rfl) ?_
          refine rp_get (C := RX9) (T := TX9) (N := 38) hx hb hts in_X9_rootsOf_X9 hown hK hP 0 (by decide) (kX9 _) rfl 10 (by decide) (by decide +kernel) rfl dX9_rootsOf_25 ?_
          refine lv_iload hx hb dX9_rootsOf_28 (lv_at hl 0 rfl) ?_
          refine rp_iald hx hb hK hP 5 (by decide) (kX9_10 _) 0 rfl q rfl (by omega) (by decide) dX9_rootsOf_30 ?_
          refine lv_ior hx hb dX9_rootsOf_31 ?_
          refine lv_istore_n (lv' := [(2, .int (a ||| (σ 5 q))), (4, .int (nI q)), (3, .int r), (0, .ref (ad 0)), (1, .int (nI s))]) hx hb dX9_rootsOf_32 rfl hl (by decide) rfl (fun ls hl => ?_)
          refine lv_iload_n hx hb dX9_rootsOf_33 rfl (lv_at hl 2 rfl) ?_
          refine lv_aload_n hx hb dX9_rootsOf_34 rfl (lv_at hl 3 rfl) ?_
          refine rp_get (C := RX9) (T := TX9) (N := 38) hx hb hts in_X9_rootsOf_X9 hown hK hP 0 (by decide) (kX9 _) rfl 10 (by decide) (by decide +kernel) rfl dX9_rootsOf_35 ?_
          refine lv_iload hx hb dX9_rootsOf_38 (lv_at hl 1 rfl) ?_
          refine rp_iald hx hb hK hP 5 (by decide) (kX9_10 _) 0 rfl q rfl (by omega) (by decide) dX9_rootsOf_40 ?_
          refine lv_if_ne (tgt := 51) hx hb dX9_rootsOf_41 (by decide) (fun c41 => ?_) (fun c41 => ?_)
          · skip
            refine lv_iconst (v := 0) hx hb dX9_rootsOf_51 (by decide) ?_
            refine lv_ior hx hb dX9_rootsOf_52 ?_
            refine lv_istore_n (lv' := [(3, .int (r ||| 0)), (2, .int (a ||| (σ 5 q))), (4, .int (nI q)), (0, .ref (ad 0)), (1, .int (nI s))]) hx hb dX9_rootsOf_53 rfl hl (by decide) rfl (fun ls hl => ?_)
            refine lv_iinc (v := ((nI q) + (-1))) (lv' := [(4, .int ((nI q) + (-1))), (3, .int (r ||| 0)), (2, .int (a ||| (σ 5 q))), (0, .ref (ad 0)), (1, .int (nI s))]) hx hb dX9_rootsOf_54 hl (k := 2) rfl rfl (by decide) rfl (fun ls hl => ?_)
            refine lv_goto (tgt := 9) hx hb dX9_rootsOf_57 (by decide) ?_
            exact ih9 q _ _ (by omega) (by first | (rw [← hF, rtD, if_pos c20, if_pos c41]) | (rw [← hF, rtD, if_pos c20, if_neg c41]) | (rw [← hF, rtD, if_neg c20])) (by omega) _ _ _ _ _ _ _ (by first | rfl | simp [*]) rfl rfl rfl hP hS (lv_sub hl [0, 1, 2, 3, 4] rfl)
          · skip
            refine lv_iconst (v := 1) hx hb dX9_rootsOf_44 (by decide) ?_
            refine lv_iload hx hb dX9_rootsOf_45 (lv_at hl 1 rfl) ?_
            refine lv_ishl hx hb dX9_rootsOf_47 ?_
            refine lv_goto (tgt := 52) hx hb dX9_rootsOf_48 (by decide) ?_
            refine lv_ior hx hb dX9_rootsOf_52 ?_
            refine lv_istore_n (lv' := [(3, .int (r ||| ((1 : Int32) <<< ((nI q) &&& 31)))), (2, .int (a ||| (σ 5 q))), (4, .int (nI q)), (0, .ref (ad 0)), (1, .int (nI s))]) hx hb dX9_rootsOf_53 rfl hl (by decide) rfl (fun ls hl => ?_)
            refine lv_iinc (v := ((nI q) + (-1))) (lv' := [(4, .int ((nI q) + (-1))), (3, .int (r ||| ((1 : Int32) <<< ((nI q) &&& 31)))), (2, .int (a ||| (σ 5 q))), (0, .ref (ad 0)), (1, .int (nI s))]) hx hb dX9_rootsOf_54 hl (k := 2) rfl rfl (by decide) rfl (fun ls hl => ?_)
            refine lv_goto (tgt := 9) hx hb dX9_rootsOf_57 (by decide) ?_
            exact ih9 q _ _ (by omega) (by first | (rw [← hF, rtD, if_pos c20, if_pos c41]) | (rw [← hF, rtD, if_pos c20, if_neg c41]) | (rw [← hF, rtD, if_neg c20])) (by omega) _ _ _ _ _ _ _ (by first | rfl | simp [*]) rfl rfl rfl hP hS (lv_sub hl [0, 1, 2, 3, 4] rfl)
  exact L9 ((s + 1) + 1) (s + 1) ((1 : Int32) <<< (nI s &&& 31)) 0 (by omega) rfl (Nat.lt_succ_self _) _ _ _ _ _ _ _ (pk_m1 s) (by first | rfl | simp [*]) (by first | rfl | simp [*]) rfl hP hS (lv_sub hl [0, 1, 2, 3, 4] rfl)

theorem in_X9_leansOf_X9 : ∀ w ∈ u_ws RX9 TX9 38, w ∈ wsX9_leansOf := by decide +kernel
set_option maxHeartbeats 1000000 in
set_option maxRecDepth 100000 in
theorem c_X9_leansOf (l : Launch) (D : va_G) (cy : Nat → ClassId) (ad : Nat → Nat) (σ : Nat → Nat → Int32) (n : Nat) (v : Int32) (hn : n ≤ 10) (en : σ 0 5 = nI n) : MI l D (tysW cy) 19 ad (cfM ad cy) yX9_leansOf wsX9_leansOf ({ frames := 1, cells := 0, slots := 0, locals := 21 }) σ [.ref (ad 0), .int v] (fun v_ τ_ => (leanN (σ 2) (σ 5) v n) = v_ ∧ σ = τ_) := by
  refine MI.go (cc := cX9_leansOf) (maxL := 5) .int (by decide) rfl (Nat.le_of_ble_eq_true rfl) ?_
  intro p_ e_ s_ m_ args_ bl_ mt_ c_ A_ Q_ ls hx hb hml hown hts hK hA hD hP hS hl hret
  have hl : lv_has ls 5 [(0, .ref (ad 0)), (1, .int v)] := hl
  refine lv_iconst (v := 0) hx hb dX9_leansOf_0 (by decide) ?_
  refine lv_istore_n (lv' := [(2, .int 0), (0, .ref (ad 0)), (1, .int v)]) hx hb dX9_leansOf_1 rfl hl (by decide) rfl (fun ls hl => ?_)
  refine lv_iconst (v := 0) hx hb dX9_leansOf_2 (by decide) ?_
  refine lv_istore_n (lv' := [(3, .int 0), (2, .int 0), (0, .ref (ad 0)), (1, .int v)]) hx hb dX9_leansOf_3 rfl hl (by decide) rfl (fun ls hl => ?_)
  have L4 : ∀ (fu4 : Nat) (i : Nat), (i ≤ n) → n - i < fu4 → ∀ (x3 : Int32) (x2 : Int32) (τ : Nat → Nat → Int32) (H : Heap) (locs : List Loc) (ls : Array Slot), (nI i) = x3 → (leanN (σ 2) (σ 5) v i) = x2 → σ = τ → va_P D classes (rw_ 19 ad (cfM ad cy) τ) H → va_S A_ s_.heap H locs → lv_has ls 5 [(3, .int x3), (2, .int x2), (0, .ref (ad 0)), (1, .int v)] → W p_ l e_ ({ frames := 1, cells := 0, slots := 0, locals := 21 }) s_ m_ args_ bl_ mt_ c_ H locs 0 0 Q_ (F0 m_ 4 ls []) := by
    intro fu4
    induction fu4 with
    | zero => intro i hi hf; exact absurd hf (Nat.not_lt_zero _)
    | succ fu4 ih4 =>
      intro i hi hf4 x3 x2 τ H locs ls ex3 ex2 eτ hP hS hl
      subst ex3
      subst ex2
      subst eτ
      refine lv_iload_n hx hb dX9_leansOf_4 rfl (lv_at hl 0 rfl) ?_
      refine lv_aload_n hx hb dX9_leansOf_5 rfl (lv_at hl 2 rfl) ?_
      refine rp_get (C := RX9) (T := TX9) (N := 38) hx hb hts in_X9_leansOf_X9 hown hK hP 0 (by decide) (kX9 _) rfl 5 (by decide) (by decide +kernel) rfl dX9_leansOf_6 ?_
      rw [en]
      refine lv_icmp_ge (tgt := 84) hx hb dX9_leansOf_9 (by decide) (fun c9 => ?_) (fun c9 => ?_)
      · skip
        have ei := cl_ex hi (by omega) c9
        refine lv_iload_n hx hb dX9_leansOf_84 rfl (lv_at hl 1 rfl) ?_
        exact hret hP hS dX9_leansOf_85 rfl ⟨(by rw [ei]), rfl⟩
      · skip
        have hi2 := cl_in (by omega) (by omega) c9
        refine lv_iconst (v := 0) hx hb dX9_leansOf_12 (by decide) ?_
        refine lv_istore (lv' := [(4, .int 0), (3, .int (nI i)), (2, .int (leanN (σ 2) (σ 5) v i)), (0, .ref (ad 0)), (1, .int v)]) hx hb dX9_leansOf_13 hl (by decide) rfl (fun ls hl => ?_)
        have L15 : ∀ (fu15 : Nat) (a : Nat), (a ≤ i) → i - a < fu15 → ∀ (x4 : Int32) (x2 : Int32) (τ : Nat → Nat → Int32) (H : Heap) (locs : List Loc) (ls : Array Slot), (nI a) = x4 → (leanI (σ 2) (σ 5) v i (leanN (σ 2) (σ 5) v i) a) = x2 → σ = τ → va_P D classes (rw_ 19 ad (cfM ad cy) τ) H → va_S A_ s_.heap H locs → lv_has ls 5 [(4, .int x4), (3, .int (nI i)), (2, .int x2), (0, .ref (ad 0)), (1, .int v)] → W p_ l e_ ({ frames := 1, cells := 0, slots := 0, locals := 21 }) s_ m_ args_ bl_ mt_ c_ H locs 0 0 Q_ (F0 m_ 15 ls []) := by
          intro fu15
          induction fu15 with
          | zero => intro a ha hf; exact absurd hf (Nat.not_lt_zero _)
          | succ fu15 ih15 =>
            intro a ha hf15 x4 x2 τ H locs ls ex4 ex2 eτ hP hS hl
            subst ex4
            subst ex2
            subst eτ
            refine lv_iload hx hb dX9_leansOf_15 (lv_at hl 0 rfl) ?_
            refine lv_iload_n hx hb dX9_leansOf_17 rfl (lv_at hl 1 rfl) ?_
            refine lv_icmp_ge (tgt := 78) hx hb dX9_leansOf_18 (by decide) (fun c18 => ?_) (fun c18 => ?_)
            · skip
              have ea := cl_ex ha (by omega) c18
              refine lv_iinc (v := ((nI i) + 1)) (lv' := [(3, .int ((nI i) + 1)), (4, .int (nI a)), (2, .int (leanI (σ 2) (σ 5) v i (leanN (σ 2) (σ 5) v i) a)), (0, .ref (ad 0)), (1, .int v)]) hx hb dX9_leansOf_78 hl (k := 1) rfl rfl (by decide) rfl (fun ls hl => ?_)
              refine lv_goto (tgt := 4) hx hb dX9_leansOf_81 (by decide) ?_
              exact ih4 (i + 1) (by omega) (by omega) _ _ _ _ _ _ ((nI_1 i).symm) (by rw [ea]; rfl) rfl hP hS (lv_sub hl [0, 2, 3, 4] rfl)
            · skip
              have ha2 := cl_in (by omega) (by omega) c18
              refine lv_iload_n hx hb dX9_leansOf_21 rfl (lv_at hl 2 rfl) ?_
              refine lv_aload_n hx hb dX9_leansOf_22 rfl (lv_at hl 3 rfl) ?_
              refine rp_get (C := RX9) (T := TX9) (N := 38) hx hb hts in_X9_leansOf_X9 hown hK hP 0 (by decide) (kX9 _) rfl 6 (by decide) (by decide +kernel) rfl dX9_leansOf_23 ?_
              refine lv_iload_n hx hb dX9_leansOf_26 rfl (lv_at hl 1 rfl) ?_
              refine rp_iald hx hb hK hP 2 (by decide) (kX9_6 _) 0 rfl i rfl (by omega) (by decide) dX9_leansOf_27 ?_
              refine lv_iload_n hx hb dX9_leansOf_28 rfl (lv_at hl 4 rfl) ?_
              refine lv_icmp_ne (tgt := 69) hx hb dX9_leansOf_29 (by decide) (fun c29 => ?_) (fun c29 => ?_)
              · skip
                refine lv_iconst (v := 0) hx hb dX9_leansOf_69 (by decide) ?_
                refine lv_ior hx hb dX9_leansOf_70 ?_
                refine lv_istore_n (lv' := [(2, .int ((leanI (σ 2) (σ 5) v i (leanN (σ 2) (σ 5) v i) a) ||| 0)), (4, .int (nI a)), (3, .int (nI i)), (0, .ref (ad 0)), (1, .int v)]) hx hb dX9_leansOf_71 rfl hl (by decide) rfl (fun ls hl => ?_)
                refine lv_iinc (v := ((nI a) + 1)) (lv' := [(4, .int ((nI a) + 1)), (2, .int ((leanI (σ 2) (σ 5) v i (leanN (σ 2) (σ 5) v i) a) ||| 0)), (3, .int (nI i)), (0, .ref (ad 0)), (1, .int v)]) hx hb dX9_leansOf_72 hl (k := 1) rfl rfl (by decide) rfl (fun ls hl => ?_)
                refine lv_goto (tgt := 15) hx hb dX9_leansOf_75 (by decide) ?_
                exact ih15 (a + 1) (by omega) (by omega) _ _ _ _ _ _ ((nI_1 a).symm) (by first | exact congrArg (fun z => _ ||| z) (if_pos ⟨c29, c43, c54⟩) | exact congrArg (fun z => _ ||| z) (if_neg (fun q => c29 q.1)) | exact congrArg (fun z => _ ||| z) (if_neg (fun q => c43 q.2.1)) | exact congrArg (fun z => _ ||| z) (if_neg (fun q => q.2.2 c54))) rfl hP hS (lv_sub hl [0, 2, 1, 3, 4] rfl)
              · skip
                refine lv_aload_n hx hb dX9_leansOf_32 rfl (lv_at hl 3 rfl) ?_
                refine rp_get (C := RX9) (T := TX9) (N := 38) hx hb hts in_X9_leansOf_X9 hown hK hP 0 (by decide) (kX9 _) rfl 10 (by decide) (by decide +kernel) rfl dX9_leansOf_33 ?_
                refine lv_iload_n hx hb dX9_leansOf_36 rfl (lv_at hl 1 rfl) ?_
                refine rp_iald hx hb hK hP 5 (by decide) (kX9_10 _) 0 rfl i rfl (by omega) (by decide) dX9_leansOf_37 ?_
                refine lv_iload hx hb dX9_leansOf_38 (lv_at hl 0 rfl) ?_
                refine rp_callSI (na := 2) hx hb hml hown hts hK hA hD hP hS hl.1 [.int (σ 5 i), .int (nI a)] (c_X9_has l D cy ad σ (σ 5 i) (nI a) ) gX9_leansOf_X9_has rfl (by decide +kernel) rfl ⟨Nat.le_of_ble_eq_true rfl, Nat.le_of_ble_eq_true rfl⟩ ⟨rfl, rfl⟩ ⟨Nat.zero_le _, Nat.zero_le _⟩ rfl (Nat.le_of_ble_eq_true rfl) dX9_leansOf_40 (fun v_ τ_ H locs hq hP hS => ?_)
                obtain ⟨rfl, rfl⟩ := hq
                refine lv_if_eq (tgt := 69) hx hb dX9_leansOf_43 (by decide) (fun c43 => ?_) (fun c43 => ?_)
                · skip
                  have c43 := bi_eq0.mp c43
                  refine lv_iconst (v := 0) hx hb dX9_leansOf_69 (by decide) ?_
                  refine lv_ior hx hb dX9_leansOf_70 ?_
                  refine lv_istore_n (lv' := [(2, .int ((leanI (σ 2) (σ 5) v i (leanN (σ 2) (σ 5) v i) a) ||| 0)), (4, .int (nI a)), (3, .int (nI i)), (0, .ref (ad 0)), (1, .int v)]) hx hb dX9_leansOf_71 rfl hl (by decide) rfl (fun ls hl => ?_)
                  refine lv_iinc (v := ((nI a) + 1)) (lv' := [(4, .int ((nI a) + 1)), (2, .int ((leanI (σ 2) (σ 5) v i (leanN (σ 2) (σ 5) v i) a) ||| 0)), (3, .int (nI i)), (0, .ref (ad 0)), (1, .int v)]) hx hb dX9_leansOf_72 hl (k := 1) rfl rfl (by decide) rfl (fun ls hl => ?_)
                  refine lv_goto (tgt := 15) hx hb dX9_leansOf_75 (by decide) ?_
                  exact ih15 (a + 1) (by omega) (by omega) _ _ _ _ _ _ ((nI_1 a).symm) (by first | exact congrArg (fun z => _ ||| z) (if_pos ⟨c29, c43, c54⟩) | exact congrArg (fun z => _ ||| z) (if_neg (fun q => c29 q.1)) | exact congrArg (fun z => _ ||| z) (if_neg (fun q => c43 q.2.1)) | exact congrArg (fun z => _ ||| z) (if_neg (fun q => q.2.2 c54))) rfl hP hS (lv_sub hl [0, 2, 1, 3, 4] rfl)
                · skip
                  have c43 := bi_ne0.mp c43
                  refine lv_aload_n hx hb dX9_leansOf_46 rfl (lv_at hl 3 rfl) ?_
                  refine rp_get (C := RX9) (T := TX9) (N := 38) hx hb hts in_X9_leansOf_X9 hown hK hP 0 (by decide) (kX9 _) rfl 6 (by decide) (by decide +kernel) rfl dX9_leansOf_47 ?_
                  refine lv_iload hx hb dX9_leansOf_50 (lv_at hl 0 rfl) ?_
                  refine rp_iald hx hb hK hP 2 (by decide) (kX9_6 _) 0 rfl a rfl (by omega) (by decide) dX9_leansOf_52 ?_
                  refine lv_iload_n hx hb dX9_leansOf_53 rfl (lv_at hl 4 rfl) ?_
                  refine lv_icmp_eq (tgt := 69) hx hb dX9_leansOf_54 (by decide) (fun c54 => ?_) (fun c54 => ?_)
                  · skip
                    refine lv_iconst (v := 0) hx hb dX9_leansOf_69 (by decide) ?_
                    refine lv_ior hx hb dX9_leansOf_70 ?_
                    refine lv_istore_n (lv' := [(2, .int ((leanI (σ 2) (σ 5) v i (leanN (σ 2) (σ 5) v i) a) ||| 0)), (4, .int (nI a)), (3, .int (nI i)), (0, .ref (ad 0)), (1, .int v)]) hx hb dX9_leansOf_71 rfl hl (by decide) rfl (fun ls hl => ?_)
                    refine lv_iinc (v := ((nI a) + 1)) (lv' := [(4, .int ((nI a) + 1)), (2, .int ((leanI (σ 2) (σ 5) v i (leanN (σ 2) (σ 5) v i) a) ||| 0)), (3, .int (nI i)), (0, .ref (ad 0)), (1, .int v)]) hx hb dX9_leansOf_72 hl (k := 1) rfl rfl (by decide) rfl (fun ls hl => ?_)
                    refine lv_goto (tgt := 15) hx hb dX9_leansOf_75 (by decide) ?_
                    exact ih15 (a + 1) (by omega) (by omega) _ _ _ _ _ _ ((nI_1 a).symm) (by first | exact congrArg (fun z => _ ||| z) (if_pos ⟨c29, c43, c54⟩) | exact congrArg (fun z => _ ||| z) (if_neg (fun q => c29 q.1)) | exact congrArg (fun z => _ ||| z) (if_neg (fun q => c43 q.2.1)) | exact congrArg (fun z => _ ||| z) (if_neg (fun q => q.2.2 c54))) rfl hP hS (lv_sub hl [0, 2, 1, 3, 4] rfl)
                  · skip
                    refine lv_iconst (v := 1) hx hb dX9_leansOf_57 (by decide) ?_
                    refine lv_aload_n hx hb dX9_leansOf_58 rfl (lv_at hl 3 rfl) ?_
                    refine rp_get (C := RX9) (T := TX9) (N := 38) hx hb hts in_X9_leansOf_X9 hown hK hP 0 (by decide) (kX9 _) rfl 6 (by decide) (by decide +kernel) rfl dX9_leansOf_59 ?_
                    refine lv_iload hx hb dX9_leansOf_62 (lv_at hl 0 rfl) ?_
                    refine rp_iald hx hb hK hP 2 (by decide) (kX9_6 _) 0 rfl a rfl (by omega) (by decide) dX9_leansOf_64 ?_
                    refine lv_ishl hx hb dX9_leansOf_65 ?_
                    refine lv_goto (tgt := 70) hx hb dX9_leansOf_66 (by decide) ?_
                    refine lv_ior hx hb dX9_leansOf_70 ?_
                    refine lv_istore_n (lv' := [(2, .int ((leanI (σ 2) (σ 5) v i (leanN (σ 2) (σ 5) v i) a) ||| ((1 : Int32) <<< ((σ 2 a) &&& 31)))), (4, .int (nI a)), (3, .int (nI i)), (0, .ref (ad 0)), (1, .int v)]) hx hb dX9_leansOf_71 rfl hl (by decide) rfl (fun ls hl => ?_)
                    refine lv_iinc (v := ((nI a) + 1)) (lv' := [(4, .int ((nI a) + 1)), (2, .int ((leanI (σ 2) (σ 5) v i (leanN (σ 2) (σ 5) v i) a) ||| ((1 : Int32) <<< ((σ 2 a) &&& 31)))), (3, .int (nI i)), (0, .ref (ad 0)), (1, .int v)]) hx hb dX9_leansOf_72 hl (k := 1) rfl rfl (by decide) rfl (fun ls hl => ?_)
                    refine lv_goto (tgt := 15) hx hb dX9_leansOf_75 (by decide) ?_
                    exact ih15 (a + 1) (by omega) (by omega) _ _ _ _ _ _ ((nI_1 a).symm) (by first | exact congrArg (fun z => _ ||| z) (if_pos ⟨c29, c43, c54⟩) | exact congrArg (fun z => _ ||| z) (if_neg (fun q => c29 q.1)) | exact congrArg (fun z => _ ||| z) (if_neg (fun q => c43 q.2.1)) | exact congrArg (fun z => _ ||| z) (if_neg (fun q => q.2.2 c54))) rfl hP hS (lv_sub hl [0, 2, 1, 3, 4] rfl)
        exact L15 ((i - 0) + 1) 0 (Nat.zero_le _) (Nat.lt_succ_self _) _ _ _ _ _ _ (by first | rfl | simp [*]) (by first | rfl | simp [*]) rfl hP hS (lv_sub hl [0, 1, 2, 3, 4] rfl)
  exact L4 ((n - 0) + 1) 0 (Nat.zero_le _) (Nat.lt_succ_self _) _ _ _ _ _ _ (by first | rfl | simp [*]) (by first | rfl | simp [*]) rfl hP hS (lv_sub hl [0, 1, 2, 3] rfl)

theorem in_X9_shareOf_X9 : ∀ w ∈ u_ws RX9 TX9 38, w ∈ wsX9_shareOf := by decide +kernel
set_option maxHeartbeats 1000000 in
set_option maxRecDepth 100000 in
theorem c_X9_shareOf (l : Launch) (D : va_G) (cy : Nat → ClassId) (ad : Nat → Nat) (σ : Nat → Nat → Int32) (k : Nat) (p : Nat) (hk : k ≤ 5) (ek : σ 0 3 = nI k) (hp : p < k) (hall : ¬ allN (σ 1) k = 0) : MI l D (tysW cy) 19 ad (cfM ad cy) yX9_shareOf wsX9_shareOf ({ frames := 1, cells := 0, slots := 0, locals := 22 }) σ [.ref (ad 0), .int (nI p)] (fun v_ τ_ => (σ 6 12 * σ 1 p / allN (σ 1) k + (if leftN (σ 6 12) (σ 1) (allN (σ 1) k) k ≤ nI p then 0 else 1)) = v_ ∧ σ = τ_) := by
  refine MI.go (cc := cX9_shareOf) (maxL := 5) .int (by decide) rfl (Nat.le_of_ble_eq_true rfl) ?_
  intro p_ e_ s_ m_ args_ bl_ mt_ c_ A_ Q_ ls hx hb hml hown hts hK hA hD hP hS hl hret
  have hl : lv_has ls 5 [(0, .ref (ad 0)), (1, .int (nI p))] := hl
  refine lv_aload_n hx hb dX9_shareOf_0 rfl (lv_at hl 0 rfl) ?_
  refine rp_callVI (na := 0) hx hb hml hown hts hK hA hD hP hS hl.1 0 (by decide) (kX9 _) rfl [] (c_X9_allArms l D cy ad σ k (by first | assumption | omega) (by first | assumption | rfl)) gX9_shareOf_X9_allArms rfl (by decide +kernel) rfl ⟨Nat.le_of_ble_eq_true rfl, Nat.le_of_ble_eq_true rfl⟩ ⟨rfl, rfl⟩ ⟨Nat.zero_le _, Nat.zero_le _⟩ rfl (Nat.le_of_ble_eq_true rfl) dX9_shareOf_1 (fun v_ τ_ H locs hq hP hS => ?_)
  obtain ⟨rfl, rfl⟩ := hq
  refine lv_istore_n (lv' := [(2, .int (allN (σ 1) k)), (0, .ref (ad 0)), (1, .int (nI p))]) hx hb dX9_shareOf_4 rfl hl (by decide) rfl (fun ls hl => ?_)
  refine lv_aload_n hx hb dX9_shareOf_5 rfl (lv_at hl 1 rfl) ?_
  refine rp_get (C := RX9) (T := TX9) (N := 38) hx hb hts in_X9_shareOf_X9 hown hK hP 0 (by decide) (kX9 _) rfl 11 (by decide) (by decide +kernel) rfl dX9_shareOf_6 ?_
  refine lv_bipush (v := 12) hx hb dX9_shareOf_9 (by decide) ?_
  refine rp_iald hx hb hK hP 6 (by decide) (kX9_11 _) 0 rfl 12 rfl (by decide) (by decide) dX9_shareOf_11 ?_
  refine lv_istore_n (lv' := [(3, .int (σ 6 12)), (2, .int (allN (σ 1) k)), (0, .ref (ad 0)), (1, .int (nI p))]) hx hb dX9_shareOf_12 rfl hl (by decide) rfl (fun ls hl => ?_)
  refine lv_iconst (v := 0) hx hb dX9_shareOf_13 (by decide) ?_
  refine lv_istore (lv' := [(4, .int 0), (3, .int (σ 6 12)), (2, .int (allN (σ 1) k)), (0, .ref (ad 0)), (1, .int (nI p))]) hx hb dX9_shareOf_14 hl (by decide) rfl (fun ls hl => ?_)
  have L16 : ∀ (fu16 : Nat) (i : Nat), (i ≤ k) → k - i < fu16 → ∀ (x4 : Int32) (x3 : Int32) (τ : Nat → Nat → Int32) (H : Heap) (locs : List Loc) (ls : Array Slot), (nI i) = x4 → (leftN (σ 6 12) (σ 1) (allN (σ 1) k) i) = x3 → σ = τ → va_P D classes (rw_ 19 ad (cfM ad cy) τ) H → va_S A_ s_.heap H locs → lv_has ls 5 [(4, .int x4), (3, .int x3), (2, .int (allN (σ 1) k)), (0, .ref (ad 0)), (1, .int (nI p))] → W p_ l e_ ({ frames := 1, cells := 0, slots := 0, locals := 22 }) s_ m_ args_ bl_ mt_ c_ H locs 0 0 Q_ (F0 m_ 16 ls []) := by
    intro fu16
    induction fu16 with
    | zero => intro i hi hf; exact absurd hf (Nat.not_lt_zero _)
    | succ fu16 ih16 =>
      intro i hi hf16 x4 x3 τ H locs ls ex4 ex3 eτ hP hS hl
      subst ex4
      subst ex3
      subst eτ
      refine lv_iload hx hb dX9_shareOf_16 (lv_at hl 0 rfl) ?_
      refine lv_aload_n hx hb dX9_shareOf_18 rfl (lv_at hl 3 rfl) ?_
      refine rp_get (C := RX9) (T := TX9) (N := 38) hx hb hts in_X9_shareOf_X9 hown hK hP 0 (by decide) (kX9 _) rfl 3 (by decide) (by decide +kernel) rfl dX9_shareOf_19 ?_
      rw [ek]
      refine lv_icmp_ge (tgt := 51) hx hb dX9_shareOf_22 (by decide) (fun c22 => ?_) (fun c22 => ?_)
      · skip
        have ei := cl_ex hi (by omega) c22
        refine lv_aload_n hx hb dX9_shareOf_51 rfl (lv_at hl 3 rfl) ?_
        refine rp_get (C := RX9) (T := TX9) (N := 38) hx hb hts in_X9_shareOf_X9 hown hK hP 0 (by decide) (kX9 _) rfl 11 (by decide) (by decide +kernel) rfl dX9_shareOf_52 ?_
        refine lv_bipush (v := 12) hx hb dX9_shareOf_55 (by decide) ?_
        refine rp_iald hx hb hK hP 6 (by decide) (kX9_11 _) 0 rfl 12 rfl (by decide) (by decide) dX9_shareOf_57 ?_
        refine lv_aload_n hx hb dX9_shareOf_58 rfl (lv_at hl 3 rfl) ?_
        refine rp_get (C := RX9) (T := TX9) (N := 38) hx hb hts in_X9_shareOf_X9 hown hK hP 0 (by decide) (kX9 _) rfl 4 (by decide) (by decide +kernel) rfl dX9_shareOf_59 ?_
        refine lv_iload_n hx hb dX9_shareOf_62 rfl (lv_at hl 4 rfl) ?_
        refine rp_iald hx hb hK hP 1 (by decide) (kX9_4 _) 0 rfl p rfl (by omega) (by decide) dX9_shareOf_63 ?_
        refine lv_imul hx hb dX9_shareOf_64 ?_
        refine lv_iload_n hx hb dX9_shareOf_65 rfl (lv_at hl 2 rfl) ?_
        refine lv_idiv hx hb dX9_shareOf_66 hall ?_
        refine lv_iload_n hx hb dX9_shareOf_67 rfl (lv_at hl 4 rfl) ?_
        refine lv_iload_n hx hb dX9_shareOf_68 rfl (lv_at hl 1 rfl) ?_
        refine lv_icmp_ge (tgt := 76) hx hb dX9_shareOf_69 (by decide) (fun c69 => ?_) (fun c69 => ?_)
        · skip
          refine lv_iconst (v := 0) hx hb dX9_shareOf_76 (by decide) ?_
          refine lv_iadd hx hb dX9_shareOf_77 ?_
          exact hret hP hS dX9_shareOf_78 rfl ⟨(by first | (rw [← ei] at *; rw [if_pos c69]) | (rw [← ei] at *; rw [if_neg c69])), rfl⟩
        · skip
          refine lv_iconst (v := 1) hx hb dX9_shareOf_72 (by decide) ?_
          refine lv_goto (tgt := 77) hx hb dX9_shareOf_73 (by decide) ?_
          refine lv_iadd hx hb dX9_shareOf_77 ?_
          exact hret hP hS dX9_shareOf_78 rfl ⟨(by first | (rw [← ei] at *; rw [if_pos c69]) | (rw [← ei] at *; rw [if_neg c69])), rfl⟩
      · skip
        have hi2 := cl_in (by omega) (by omega) c22
        refine lv_iload_n hx hb dX9_shareOf_25 rfl (lv_at hl 1 rfl) ?_
        refine lv_aload_n hx hb dX9_shareOf_26 rfl (lv_at hl 3 rfl) ?_
        refine rp_get (C := RX9) (T := TX9) (N := 38) hx hb hts in_X9_shareOf_X9 hown hK hP 0 (by decide) (kX9 _) rfl 11 (by decide) (by decide +kernel) rfl dX9_shareOf_27 ?_
        refine lv_bipush (v := 12) hx hb dX9_shareOf_30 (by decide) ?_
        refine rp_iald hx hb hK hP 6 (by decide) (kX9_11 _) 0 rfl 12 rfl (by decide) (by decide) dX9_shareOf_32 ?_
        refine lv_aload_n hx hb dX9_shareOf_33 rfl (lv_at hl 3 rfl) ?_
        refine rp_get (C := RX9) (T := TX9) (N := 38) hx hb hts in_X9_shareOf_X9 hown hK hP 0 (by decide) (kX9 _) rfl 4 (by decide) (by decide +kernel) rfl dX9_shareOf_34 ?_
        refine lv_iload hx hb dX9_shareOf_37 (lv_at hl 0 rfl) ?_
        refine rp_iald hx hb hK hP 1 (by decide) (kX9_4 _) 0 rfl i rfl (by omega) (by decide) dX9_shareOf_39 ?_
        refine lv_imul hx hb dX9_shareOf_40 ?_
        refine lv_iload_n hx hb dX9_shareOf_41 rfl (lv_at hl 2 rfl) ?_
        refine lv_idiv hx hb dX9_shareOf_42 hall ?_
        refine lv_isub hx hb dX9_shareOf_43 ?_
        refine lv_istore_n (lv' := [(3, .int ((leftN (σ 6 12) (σ 1) (allN (σ 1) k) i) - (((σ 6 12) * (σ 1 i)) / (allN (σ 1) k)))), (4, .int (nI i)), (2, .int (allN (σ 1) k)), (0, .ref (ad 0)), (1, .int (nI p))]) hx hb dX9_shareOf_44 rfl hl (by decide) rfl (fun ls hl => ?_)
        refine lv_iinc (v := ((nI i) + 1)) (lv' := [(4, .int ((nI i) + 1)), (3, .int ((leftN (σ 6 12) (σ 1) (allN (σ 1) k) i) - (((σ 6 12) * (σ 1 i)) / (allN (σ 1) k)))), (2, .int (allN (σ 1) k)), (0, .ref (ad 0)), (1, .int (nI p))]) hx hb dX9_shareOf_45 hl (k := 1) rfl rfl (by decide) rfl (fun ls hl => ?_)
        refine lv_goto (tgt := 16) hx hb dX9_shareOf_48 (by decide) ?_
        exact ih16 (i + 1) (by omega) (by omega) _ _ _ _ _ _ ((nI_1 i).symm) rfl rfl hP hS (lv_sub hl [0, 1, 2, 3, 4] rfl)
  exact L16 ((k - 0) + 1) 0 (Nat.zero_le _) (Nat.lt_succ_self _) _ _ _ _ _ _ (by first | rfl | simp [*]) (by first | rfl | simp [*]) rfl hP hS (lv_sub hl [0, 1, 2, 3, 4] rfl)

def R_X9_canPour (ar : Nat → Int32) (ow : Nat → Int32) (wt : Nat → Int32) (N : Nat → Int32) (p : Nat) (s : Nat) : Int32 := (if (hasB ((N 10) ||| (N 11)) (nI s)) then 0 else (R_X9_drawsOf ar ow wt p s (N s) (N 12)))
theorem in_X9_canPour_X9 : ∀ w ∈ u_ws RX9 TX9 38, w ∈ wsX9_canPour := by decide +kernel
set_option maxHeartbeats 1000000 in
set_option maxRecDepth 100000 in
theorem c_X9_canPour (l : Launch) (D : va_G) (cy : Nat → ClassId) (ad : Nat → Nat) (σ : Nat → Nat → Int32) (ar : Nat → Int32) (ow : Nat → Int32) (wt : Nat → Int32) (N : Nat → Int32) (p : Nat) (s : Nat) (r_ar : σ 1 = ar) (r_ow : σ 2 = ow) (r_wt : σ 3 = wt) (r_N : σ 6 = N) (hp : p < 5) (hs : s < 10) : MI l D (tysW cy) 19 ad (cfM ad cy) yX9_canPour wsX9_canPour ({ frames := 1, cells := 0, slots := 0, locals := 27 }) σ [.ref (ad 0), .int (nI p), .int (nI s)] (fun v_ τ_ => (R_X9_canPour ar ow wt N p s) = v_ ∧ σ = τ_) := by
  refine MI.go (cc := cX9_canPour) (maxL := 3) .int (by decide) rfl (Nat.le_of_ble_eq_true rfl) ?_
  intro p_ e_ s_ m_ args_ bl_ mt_ c_ A_ Q_ ls hx hb hml hown hts hK hA hD hP hS hl hret
  have hl : lv_has ls 3 [(0, .ref (ad 0)), (1, .int (nI p)), (2, .int (nI s))] := hl
  subst r_ar r_ow r_wt r_N
  refine lv_aload_n hx hb dX9_canPour_0 rfl (lv_at hl 0 rfl) ?_
  refine rp_get (C := RX9) (T := TX9) (N := 38) hx hb hts in_X9_canPour_X9 hown hK hP 0 (by decide) (kX9 _) rfl 11 (by decide) (by decide +kernel) rfl dX9_canPour_1 ?_
  refine lv_bipush (v := 10) hx hb dX9_canPour_4 (by decide) ?_
  refine rp_iald hx hb hK hP 6 (by decide) (kX9_11 _) 0 rfl 10 rfl (by decide) (by decide) dX9_canPour_6 ?_
  refine lv_aload_n hx hb dX9_canPour_7 rfl (lv_at hl 0 rfl) ?_
  refine rp_get (C := RX9) (T := TX9) (N := 38) hx hb hts in_X9_canPour_X9 hown hK hP 0 (by decide) (kX9 _) rfl 11 (by decide) (by decide +kernel) rfl dX9_canPour_8 ?_
  refine lv_bipush (v := 11) hx hb dX9_canPour_11 (by decide) ?_
  refine rp_iald hx hb hK hP 6 (by decide) (kX9_11 _) 0 rfl 11 rfl (by decide) (by decide) dX9_canPour_13 ?_
  refine lv_ior hx hb dX9_canPour_14 ?_
  refine lv_iload_n hx hb dX9_canPour_15 rfl (lv_at hl 2 rfl) ?_
  refine rp_callSI (na := 2) hx hb hml hown hts hK hA hD hP hS hl.1 [.int ((σ 6 10) ||| (σ 6 11)), .int (nI s)] (c_X9_has l D cy ad σ ((σ 6 10) ||| (σ 6 11)) (nI s) ) gX9_canPour_X9_has rfl (by decide +kernel) rfl ⟨Nat.le_of_ble_eq_true rfl, Nat.le_of_ble_eq_true rfl⟩ ⟨rfl, rfl⟩ ⟨Nat.zero_le _, Nat.zero_le _⟩ rfl (Nat.le_of_ble_eq_true rfl) dX9_canPour_16 (fun v_ τ_ H locs hq hP hS => ?_)
  obtain ⟨rfl, rfl⟩ := hq
  refine lv_if_eq (tgt := 26) hx hb dX9_canPour_19 (by decide) (fun c19 => ?_) (fun c19 => ?_)
  · skip
    have c19 := bi_eq0.mp c19
    refine lv_aload_n hx hb dX9_canPour_26 rfl (lv_at hl 0 rfl) ?_
    refine lv_iload_n hx hb dX9_canPour_27 rfl (lv_at hl 1 rfl) ?_
    refine lv_iload_n hx hb dX9_canPour_28 rfl (lv_at hl 2 rfl) ?_
    refine lv_aload_n hx hb dX9_canPour_29 rfl (lv_at hl 0 rfl) ?_
    refine rp_get (C := RX9) (T := TX9) (N := 38) hx hb hts in_X9_canPour_X9 hown hK hP 0 (by decide) (kX9 _) rfl 11 (by decide) (by decide +kernel) rfl dX9_canPour_30 ?_
    refine lv_iload_n hx hb dX9_canPour_33 rfl (lv_at hl 2 rfl) ?_
    refine rp_iald hx hb hK hP 6 (by decide) (kX9_11 _) 0 rfl s rfl (by omega) (by decide) dX9_canPour_34 ?_
    refine lv_aload_n hx hb dX9_canPour_35 rfl (lv_at hl 0 rfl) ?_
    refine rp_get (C := RX9) (T := TX9) (N := 38) hx hb hts in_X9_canPour_X9 hown hK hP 0 (by decide) (kX9 _) rfl 11 (by decide) (by decide +kernel) rfl dX9_canPour_36 ?_
    refine lv_bipush (v := 12) hx hb dX9_canPour_39 (by decide) ?_
    refine rp_iald hx hb hK hP 6 (by decide) (kX9_11 _) 0 rfl 12 rfl (by decide) (by decide) dX9_canPour_41 ?_
    refine rp_callVI (na := 4) hx hb hml hown hts hK hA hD hP hS hl.1 0 (by decide) (kX9 _) rfl [.int (nI p), .int (nI s), .int (σ 6 s), .int (σ 6 12)] (c_X9_drawsOf l D cy ad σ (σ 1) (σ 2) (σ 3) p s (σ 6 s) (σ 6 12) rfl rfl rfl (by first | assumption | omega) (by first | assumption | omega)) gX9_canPour_X9_drawsOf rfl (by decide +kernel) rfl ⟨Nat.le_of_ble_eq_true rfl, Nat.le_of_ble_eq_true rfl⟩ ⟨rfl, rfl⟩ ⟨Nat.zero_le _, Nat.zero_le _⟩ rfl (Nat.le_of_ble_eq_true rfl) dX9_canPour_42 (fun v_ τ_ H locs hq hP hS => ?_)
    obtain ⟨rfl, rfl⟩ := hq
    exact hret hP hS dX9_canPour_45 rfl ⟨(by unfold R_X9_canPour <;> rw [if_neg c19] <;> first | with_reducible rfl), rfl⟩
  · skip
    have c19 := bi_ne0.mp c19
    refine lv_iconst (v := 0) hx hb dX9_canPour_22 (by decide) ?_
    refine lv_goto (tgt := 45) hx hb dX9_canPour_23 (by decide) ?_
    exact hret hP hS dX9_canPour_45 rfl ⟨(by unfold R_X9_canPour <;> rw [if_pos c19] <;> first | with_reducible rfl), rfl⟩

def R_X9_pourNow (ar : Nat → Int32) (ow : Nat → Int32) (wt : Nat → Int32) (N : Nat → Int32) (p : Nat) (s : Nat) : Int32 := (if (ow s) = (nI p) then (if (R_X9_canPour ar ow wt N p s) ≤ 0 then (R_X9_canPour ar ow wt N p s) else (if ((N s) + ((R_X9_canPour ar ow wt N p s) / 1)) < (wt s) then (R_X9_canPour ar ow wt N p s) else (R_X9_canPour ar ow wt N p s))) else (if (R_X9_canPour ar ow wt N p s) ≤ 0 then (R_X9_canPour ar ow wt N p s) else (if ((N s) + ((R_X9_canPour ar ow wt N p s) / 2)) < (wt s) then (R_X9_canPour ar ow wt N p s) else (R_X9_canPour ar ow wt N p s))))
def T_X9_pourNow (ar : Nat → Int32) (ow : Nat → Int32) (wt : Nat → Int32) (N : Nat → Int32) (p : Nat) (s : Nat) : Nat → Int32 := (if (ow s) = (nI p) then (if (R_X9_canPour ar ow wt N p s) ≤ 0 then upd (upd (upd N 12 ((N 12) - (R_X9_canPour ar ow wt N p s))) 15 ((N 15) + (R_X9_canPour ar ow wt N p s))) s ((N s) + ((R_X9_canPour ar ow wt N p s) / 1)) else (if ((N s) + ((R_X9_canPour ar ow wt N p s) / 1)) < (wt s) then upd (upd (upd N 12 ((N 12) - (R_X9_canPour ar ow wt N p s))) 15 ((N 15) + (R_X9_canPour ar ow wt N p s))) s ((N s) + ((R_X9_canPour ar ow wt N p s) / 1)) else upd (upd (upd (upd (upd N 12 ((N 12) - (R_X9_canPour ar ow wt N p s))) 15 ((N 15) + (R_X9_canPour ar ow wt N p s))) s ((N s) + ((R_X9_canPour ar ow wt N p s) / 1))) s 0) 10 ((N 10) ||| ((1 : Int32) <<< ((nI s) &&& 31))))) else (if (R_X9_canPour ar ow wt N p s) ≤ 0 then upd (upd (upd N 12 ((N 12) - (R_X9_canPour ar ow wt N p s))) 15 ((N 15) + (R_X9_canPour ar ow wt N p s))) s ((N s) + ((R_X9_canPour ar ow wt N p s) / 2)) else (if ((N s) + ((R_X9_canPour ar ow wt N p s) / 2)) < (wt s) then upd (upd (upd N 12 ((N 12) - (R_X9_canPour ar ow wt N p s))) 15 ((N 15) + (R_X9_canPour ar ow wt N p s))) s ((N s) + ((R_X9_canPour ar ow wt N p s) / 2)) else upd (upd (upd (upd (upd N 12 ((N 12) - (R_X9_canPour ar ow wt N p s))) 15 ((N 15) + (R_X9_canPour ar ow wt N p s))) s ((N s) + ((R_X9_canPour ar ow wt N p s) / 2))) s 0) 10 ((N 10) ||| ((1 : Int32) <<< ((nI s) &&& 31))))))
theorem in_X9_pourNow_X9 : ∀ w ∈ u_ws RX9 TX9 38, w ∈ wsX9_pourNow := by decide +kernel
set_option maxHeartbeats 1000000 in
set_option maxRecDepth 100000 in
theorem c_X9_pourNow (l : Launch) (D : va_G) (cy : Nat → ClassId) (ad : Nat → Nat) (σ : Nat → Nat → Int32) (ar : Nat → Int32) (ow : Nat → Int32) (wt : Nat → Int32) (N : Nat → Int32) (p : Nat) (s : Nat) (r_ar : σ 1 = ar) (r_ow : σ 2 = ow) (r_wt : σ 3 = wt) (r_N : σ 6 = N) (hp : p < 5) (hs : s < 10) : MI l D (tysW cy) 19 ad (cfM ad cy) yX9_pourNow wsX9_pourNow ({ frames := 2, cells := 0, slots := 0, locals := 49 }) σ [.ref (ad 0), .int (nI p), .int (nI s)] (fun v_ τ_ => (R_X9_pourNow ar ow wt N p s) = v_ ∧ (va_up σ 6 (T_X9_pourNow ar ow wt N p s)) = τ_) := by
  refine MI.go (cc := cX9_pourNow) (maxL := 4) .int (by decide) rfl (Nat.le_of_ble_eq_true rfl) ?_
  intro p_ e_ s_ m_ args_ bl_ mt_ c_ A_ Q_ ls hx hb hml hown hts hK hA hD hP hS hl hret
  have hl : lv_has ls 4 [(0, .ref (ad 0)), (1, .int (nI p)), (2, .int (nI s))] := hl
  subst r_ar r_ow r_wt r_N
  refine lv_aload_n hx hb dX9_pourNow_0 rfl (lv_at hl 0 rfl) ?_
  refine lv_iload_n hx hb dX9_pourNow_1 rfl (lv_at hl 1 rfl) ?_
  refine lv_iload_n hx hb dX9_pourNow_2 rfl (lv_at hl 2 rfl) ?_
  refine rp_callVI (na := 2) hx hb hml hown hts hK hA hD hP hS hl.1 0 (by decide) (kX9 _) rfl [.int (nI p), .int (nI s)] (c_X9_canPour l D cy ad σ (σ 1) (σ 2) (σ 3) (σ 6) p s rfl rfl rfl rfl (by first | assumption | omega) (by first | assumption | omega)) gX9_pourNow_X9_canPour rfl (by decide +kernel) rfl ⟨Nat.le_of_ble_eq_true rfl, Nat.le_of_ble_eq_true rfl⟩ ⟨rfl, rfl⟩ ⟨Nat.zero_le _, Nat.zero_le _⟩ rfl (Nat.le_of_ble_eq_true rfl) dX9_pourNow_3 (fun v_ τ_ H locs hq hP hS => ?_)
  obtain ⟨rfl, rfl⟩ := hq
  refine lv_istore_n (lv' := [(3, .int (R_X9_canPour (σ 1) (σ 2) (σ 3) (σ 6) p s)), (0, .ref (ad 0)), (1, .int (nI p)), (2, .int (nI s))]) hx hb dX9_pourNow_6 rfl hl (by decide) rfl (fun ls hl => ?_)
  refine lv_aload_n hx hb dX9_pourNow_7 rfl (lv_at hl 1 rfl) ?_
  refine rp_get (C := RX9) (T := TX9) (N := 38) hx hb hts in_X9_pourNow_X9 hown hK hP 0 (by decide) (kX9 _) rfl 11 (by decide) (by decide +kernel) rfl dX9_pourNow_8 ?_
  refine lv_bipush (v := 12) hx hb dX9_pourNow_11 (by decide) ?_
  refine lv_dup2_11 hx hb dX9_pourNow_13 rfl rfl ?_
  refine rp_iald hx hb hK hP 6 (by decide) (kX9_11 _) 0 rfl 12 rfl (by decide) (by decide) dX9_pourNow_14 ?_
  refine lv_iload_n hx hb dX9_pourNow_15 rfl (lv_at hl 0 rfl) ?_
  refine lv_isub hx hb dX9_pourNow_16 ?_
  refine rp_iast (x := ((σ 6 12) - (R_X9_canPour (σ 1) (σ 2) (σ 3) (σ 6) p s))) hx hb hK hP hD hS 6 (by decide) (fun f => kX9_11 f) 0 rfl 12 rfl (by decide) (by decide) dX9_pourNow_17 (fun H locs hP hS => ?_)
  refine lv_aload_n hx hb dX9_pourNow_18 rfl (lv_at hl 1 rfl) ?_
  refine rp_get (C := RX9) (T := TX9) (N := 38) hx hb hts in_X9_pourNow_X9 hown hK hP 0 (by decide) (kX9 _) rfl 11 (by decide) (by decide +kernel) rfl dX9_pourNow_19 ?_
  refine lv_bipush (v := 15) hx hb dX9_pourNow_22 (by decide) ?_
  refine lv_dup2_11 hx hb dX9_pourNow_24 rfl rfl ?_
  refine rp_iald hx hb hK hP 6 (by decide) (kX9_11 _) 0 rfl 15 rfl (by decide) (by decide) dX9_pourNow_25 ?_
  rw [show (up2 σ 6 12 ((σ 6 12) - (R_X9_canPour (σ 1) (σ 2) (σ 3) (σ 6) p s))) 6 15 = (σ 6 15) from (up2_K (by decide))]
  refine lv_iload_n hx hb dX9_pourNow_26 rfl (lv_at hl 0 rfl) ?_
  refine lv_iadd hx hb dX9_pourNow_27 ?_
  refine rp_iast (x := ((σ 6 15) + (R_X9_canPour (σ 1) (σ 2) (σ 3) (σ 6) p s))) hx hb hK hP hD hS 6 (by decide) (fun f => kX9_11 f) 0 rfl 15 rfl (by decide) (by decide) dX9_pourNow_28 (fun H locs hP hS => ?_)
  refine lv_aload_n hx hb dX9_pourNow_29 rfl (lv_at hl 1 rfl) ?_
  refine rp_get (C := RX9) (T := TX9) (N := 38) hx hb hts in_X9_pourNow_X9 hown hK hP 0 (by decide) (kX9 _) rfl 11 (by decide) (by decide +kernel) rfl dX9_pourNow_30 ?_
  refine lv_iload_n hx hb dX9_pourNow_33 rfl (lv_at hl 3 rfl) ?_
  refine lv_dup2_11 hx hb dX9_pourNow_34 rfl rfl ?_
  refine rp_iald hx hb hK hP 6 (by decide) (kX9_11 _) 0 rfl s rfl (by omega) (by decide) dX9_pourNow_35 ?_
  rw [show (up2 (up2 σ 6 12 ((σ 6 12) - (R_X9_canPour (σ 1) (σ 2) (σ 3) (σ 6) p s))) 6 15 ((σ 6 15) + (R_X9_canPour (σ 1) (σ 2) (σ 3) (σ 6) p s))) 6 s = (σ 6 s) from ((up2_K (by omega)).trans (up2_K (by omega)))]
  refine lv_iload_n hx hb dX9_pourNow_36 rfl (lv_at hl 0 rfl) ?_
  refine lv_aload_n hx hb dX9_pourNow_37 rfl (lv_at hl 1 rfl) ?_
  refine rp_get (C := RX9) (T := TX9) (N := 38) hx hb hts in_X9_pourNow_X9 hown hK hP 0 (by decide) (kX9 _) rfl 6 (by decide) (by decide +kernel) rfl dX9_pourNow_38 ?_
  refine lv_iload_n hx hb dX9_pourNow_41 rfl (lv_at hl 3 rfl) ?_
  refine rp_iald hx hb hK hP 2 (by decide) (kX9_6 _) 0 rfl s rfl (by omega) (by decide) dX9_pourNow_42 ?_
  rw [show (up2 (up2 σ 6 12 ((σ 6 12) - (R_X9_canPour (σ 1) (σ 2) (σ 3) (σ 6) p s))) 6 15 ((σ 6 15) + (R_X9_canPour (σ 1) (σ 2) (σ 3) (σ 6) p s))) 2 s = (σ 2 s) from ((up2_R (by decide)).trans (up2_R (by decide)))]
  refine lv_iload_n hx hb dX9_pourNow_43 rfl (lv_at hl 2 rfl) ?_
  refine lv_icmp_ne (tgt := 51) hx hb dX9_pourNow_44 (by decide) (fun c44 => ?_) (fun c44 => ?_)
  · skip
    refine lv_iconst (v := 2) hx hb dX9_pourNow_51 (by decide) ?_
    refine lv_idiv hx hb dX9_pourNow_52 (by first | decide | assumption) ?_
    refine lv_iadd hx hb dX9_pourNow_53 ?_
    refine rp_iast (x := ((σ 6 s) + ((R_X9_canPour (σ 1) (σ 2) (σ 3) (σ 6) p s) / 2))) hx hb hK hP hD hS 6 (by decide) (fun f => kX9_11 f) 0 rfl s rfl (by omega) (by decide) dX9_pourNow_54 (fun H locs hP hS => ?_)
    refine lv_iload_n hx hb dX9_pourNow_55 rfl (lv_at hl 0 rfl) ?_
    refine lv_if_le (tgt := 94) hx hb dX9_pourNow_56 (by decide) (fun c56 => ?_) (fun c56 => ?_)
    · skip
      refine lv_iload_n hx hb dX9_pourNow_94 rfl (lv_at hl 0 rfl) ?_
      exact hret hP hS dX9_pourNow_95 rfl ⟨(by unfold R_X9_pourNow <;> rw [if_neg c44, if_pos c56] <;> first | with_reducible rfl), (by unfold T_X9_pourNow <;> rw [if_neg c44, if_pos c56] <;> simp only [up2, va_up_self, bx_uu, va_self])⟩
    · skip
      refine lv_aload_n hx hb dX9_pourNow_59 rfl (lv_at hl 1 rfl) ?_
      refine rp_get (C := RX9) (T := TX9) (N := 38) hx hb hts in_X9_pourNow_X9 hown hK hP 0 (by decide) (kX9 _) rfl 11 (by decide) (by decide +kernel) rfl dX9_pourNow_60 ?_
      refine lv_iload_n hx hb dX9_pourNow_63 rfl (lv_at hl 3 rfl) ?_
      refine rp_iald hx hb hK hP 6 (by decide) (kX9_11 _) 0 rfl s rfl (by omega) (by decide) dX9_pourNow_64 ?_
      rw [show (up2 (up2 (up2 σ 6 12 ((σ 6 12) - (R_X9_canPour (σ 1) (σ 2) (σ 3) (σ 6) p s))) 6 15 ((σ 6 15) + (R_X9_canPour (σ 1) (σ 2) (σ 3) (σ 6) p s))) 6 s ((σ 6 s) + ((R_X9_canPour (σ 1) (σ 2) (σ 3) (σ 6) p s) / 2))) 6 s = ((σ 6 s) + ((R_X9_canPour (σ 1) (σ 2) (σ 3) (σ 6) p s) / 2)) from up2_S]
      refine lv_aload_n hx hb dX9_pourNow_65 rfl (lv_at hl 1 rfl) ?_
      refine rp_get (C := RX9) (T := TX9) (N := 38) hx hb hts in_X9_pourNow_X9 hown hK hP 0 (by decide) (kX9 _) rfl 7 (by decide) (by decide +kernel) rfl dX9_pourNow_66 ?_
      refine lv_iload_n hx hb dX9_pourNow_69 rfl (lv_at hl 3 rfl) ?_
      refine rp_iald hx hb hK hP 3 (by decide) (kX9_7 _) 0 rfl s rfl (by omega) (by decide) dX9_pourNow_70 ?_
      rw [show (up2 (up2 (up2 σ 6 12 ((σ 6 12) - (R_X9_canPour (σ 1) (σ 2) (σ 3) (σ 6) p s))) 6 15 ((σ 6 15) + (R_X9_canPour (σ 1) (σ 2) (σ 3) (σ 6) p s))) 6 s ((σ 6 s) + ((R_X9_canPour (σ 1) (σ 2) (σ 3) (σ 6) p s) / 2))) 3 s = (σ 3 s) from ((up2_R (by decide)).trans ((up2_R (by decide)).trans (up2_R (by decide))))]
      refine lv_icmp_lt (tgt := 94) hx hb dX9_pourNow_71 (by decide) (fun c71 => ?_) (fun c71 => ?_)
      · skip
        refine lv_iload_n hx hb dX9_pourNow_94 rfl (lv_at hl 0 rfl) ?_
        exact hret hP hS dX9_pourNow_95 rfl ⟨(by unfold R_X9_pourNow <;> rw [if_neg c44, if_neg c56, if_pos c71] <;> first | with_reducible rfl), (by unfold T_X9_pourNow <;> rw [if_neg c44, if_neg c56, if_pos c71] <;> simp only [up2, va_up_self, bx_uu, va_self])⟩
      · skip
        refine lv_aload_n hx hb dX9_pourNow_74 rfl (lv_at hl 1 rfl) ?_
        refine rp_get (C := RX9) (T := TX9) (N := 38) hx hb hts in_X9_pourNow_X9 hown hK hP 0 (by decide) (kX9 _) rfl 11 (by decide) (by decide +kernel) rfl dX9_pourNow_75 ?_
        refine lv_iload_n hx hb dX9_pourNow_78 rfl (lv_at hl 3 rfl) ?_
        refine lv_iconst (v := 0) hx hb dX9_pourNow_79 (by decide) ?_
        refine rp_iast (x := 0) hx hb hK hP hD hS 6 (by decide) (fun f => kX9_11 f) 0 rfl s rfl (by omega) (by decide) dX9_pourNow_80 (fun H locs hP hS => ?_)
        refine lv_aload_n hx hb dX9_pourNow_81 rfl (lv_at hl 1 rfl) ?_
        refine rp_get (C := RX9) (T := TX9) (N := 38) hx hb hts in_X9_pourNow_X9 hown hK hP 0 (by decide) (kX9 _) rfl 11 (by decide) (by decide +kernel) rfl dX9_pourNow_82 ?_
        refine lv_bipush (v := 10) hx hb dX9_pourNow_85 (by decide) ?_
        refine lv_dup2_11 hx hb dX9_pourNow_87 rfl rfl ?_
        refine rp_iald hx hb hK hP 6 (by decide) (kX9_11 _) 0 rfl 10 rfl (by decide) (by decide) dX9_pourNow_88 ?_
        rw [show (up2 (up2 (up2 (up2 σ 6 12 ((σ 6 12) - (R_X9_canPour (σ 1) (σ 2) (σ 3) (σ 6) p s))) 6 15 ((σ 6 15) + (R_X9_canPour (σ 1) (σ 2) (σ 3) (σ 6) p s))) 6 s ((σ 6 s) + ((R_X9_canPour (σ 1) (σ 2) (σ 3) (σ 6) p s) / 2))) 6 s 0) 6 10 = (σ 6 10) from ((up2_K (by omega)).trans ((up2_K (by omega)).trans ((up2_K (by decide)).trans (up2_K (by decide)))))]
        refine lv_iconst (v := 1) hx hb dX9_pourNow_89 (by decide) ?_
        refine lv_iload_n hx hb dX9_pourNow_90 rfl (lv_at hl 3 rfl) ?_
        refine lv_ishl hx hb dX9_pourNow_91 ?_
        refine lv_ior hx hb dX9_pourNow_92 ?_
        refine rp_iast (x := ((σ 6 10) ||| ((1 : Int32) <<< ((nI s) &&& 31)))) hx hb hK hP hD hS 6 (by decide) (fun f => kX9_11 f) 0 rfl 10 rfl (by decide) (by decide) dX9_pourNow_93 (fun H locs hP hS => ?_)
        refine lv_iload_n hx hb dX9_pourNow_94 rfl (lv_at hl 0 rfl) ?_
        exact hret hP hS dX9_pourNow_95 rfl ⟨(by unfold R_X9_pourNow <;> rw [if_neg c44, if_neg c56, if_neg c71] <;> first | with_reducible rfl), (by unfold T_X9_pourNow <;> rw [if_neg c44, if_neg c56, if_neg c71] <;> simp only [up2, va_up_self, bx_uu, va_self])⟩
  · skip
    refine lv_iconst (v := 1) hx hb dX9_pourNow_47 (by decide) ?_
    refine lv_goto (tgt := 52) hx hb dX9_pourNow_48 (by decide) ?_
    refine lv_idiv hx hb dX9_pourNow_52 (by first | decide | assumption) ?_
    refine lv_iadd hx hb dX9_pourNow_53 ?_
    refine rp_iast (x := ((σ 6 s) + ((R_X9_canPour (σ 1) (σ 2) (σ 3) (σ 6) p s) / 1))) hx hb hK hP hD hS 6 (by decide) (fun f => kX9_11 f) 0 rfl s rfl (by omega) (by decide) dX9_pourNow_54 (fun H locs hP hS => ?_)
    refine lv_iload_n hx hb dX9_pourNow_55 rfl (lv_at hl 0 rfl) ?_
    refine lv_if_le (tgt := 94) hx hb dX9_pourNow_56 (by decide) (fun c56 => ?_) (fun c56 => ?_)
    · skip
      refine lv_iload_n hx hb dX9_pourNow_94 rfl (lv_at hl 0 rfl) ?_
      exact hret hP hS dX9_pourNow_95 rfl ⟨(by unfold R_X9_pourNow <;> rw [if_pos c44, if_pos c56] <;> first | with_reducible rfl), (by unfold T_X9_pourNow <;> rw [if_pos c44, if_pos c56] <;> simp only [up2, va_up_self, bx_uu, va_self])⟩
    · skip
      refine lv_aload_n hx hb dX9_pourNow_59 rfl (lv_at hl 1 rfl) ?_
      refine rp_get (C := RX9) (T := TX9) (N := 38) hx hb hts in_X9_pourNow_X9 hown hK hP 0 (by decide) (kX9 _) rfl 11 (by decide) (by decide +kernel) rfl dX9_pourNow_60 ?_
      refine lv_iload_n hx hb dX9_pourNow_63 rfl (lv_at hl 3 rfl) ?_
      refine rp_iald hx hb hK hP 6 (by decide) (kX9_11 _) 0 rfl s rfl (by omega) (by decide) dX9_pourNow_64 ?_
      rw [show (up2 (up2 (up2 σ 6 12 ((σ 6 12) - (R_X9_canPour (σ 1) (σ 2) (σ 3) (σ 6) p s))) 6 15 ((σ 6 15) + (R_X9_canPour (σ 1) (σ 2) (σ 3) (σ 6) p s))) 6 s ((σ 6 s) + ((R_X9_canPour (σ 1) (σ 2) (σ 3) (σ 6) p s) / 1))) 6 s = ((σ 6 s) + ((R_X9_canPour (σ 1) (σ 2) (σ 3) (σ 6) p s) / 1)) from up2_S]
      refine lv_aload_n hx hb dX9_pourNow_65 rfl (lv_at hl 1 rfl) ?_
      refine rp_get (C := RX9) (T := TX9) (N := 38) hx hb hts in_X9_pourNow_X9 hown hK hP 0 (by decide) (kX9 _) rfl 7 (by decide) (by decide +kernel) rfl dX9_pourNow_66 ?_
      refine lv_iload_n hx hb dX9_pourNow_69 rfl (lv_at hl 3 rfl) ?_
      refine rp_iald hx hb hK hP 3 (by decide) (kX9_7 _) 0 rfl s rfl (by omega) (by decide) dX9_pourNow_70 ?_
      rw [show (up2 (up2 (up2 σ 6 12 ((σ 6 12) - (R_X9_canPour (σ 1) (σ 2) (σ 3) (σ 6) p s))) 6 15 ((σ 6 15) + (R_X9_canPour (σ 1) (σ 2) (σ 3) (σ 6) p s))) 6 s ((σ 6 s) + ((R_X9_canPour (σ 1) (σ 2) (σ 3) (σ 6) p s) / 1))) 3 s = (σ 3 s) from ((up2_R (by decide)).trans ((up2_R (by decide)).trans (up2_R (by decide))))]
      refine lv_icmp_lt (tgt := 94) hx hb dX9_pourNow_71 (by decide) (fun c71 => ?_) (fun c71 => ?_)
      · skip
        refine lv_iload_n hx hb dX9_pourNow_94 rfl (lv_at hl 0 rfl) ?_
        exact hret hP hS dX9_pourNow_95 rfl ⟨(by unfold R_X9_pourNow <;> rw [if_pos c44, if_neg c56, if_pos c71] <;> first | with_reducible rfl), (by unfold T_X9_pourNow <;> rw [if_pos c44, if_neg c56, if_pos c71] <;> simp only [up2, va_up_self, bx_uu, va_self])⟩
      · skip
        refine lv_aload_n hx hb dX9_pourNow_74 rfl (lv_at hl 1 rfl) ?_
        refine rp_get (C := RX9) (T := TX9) (N := 38) hx hb hts in_X9_pourNow_X9 hown hK hP 0 (by decide) (kX9 _) rfl 11 (by decide) (by decide +kernel) rfl dX9_pourNow_75 ?_
        refine lv_iload_n hx hb dX9_pourNow_78 rfl (lv_at hl 3 rfl) ?_
        refine lv_iconst (v := 0) hx hb dX9_pourNow_79 (by decide) ?_
        refine rp_iast (x := 0) hx hb hK hP hD hS 6 (by decide) (fun f => kX9_11 f) 0 rfl s rfl (by omega) (by decide) dX9_pourNow_80 (fun H locs hP hS => ?_)
        refine lv_aload_n hx hb dX9_pourNow_81 rfl (lv_at hl 1 rfl) ?_
        refine rp_get (C := RX9) (T := TX9) (N := 38) hx hb hts in_X9_pourNow_X9 hown hK hP 0 (by decide) (kX9 _) rfl 11 (by decide) (by decide +kernel) rfl dX9_pourNow_82 ?_
        refine lv_bipush (v := 10) hx hb dX9_pourNow_85 (by decide) ?_
        refine lv_dup2_11 hx hb dX9_pourNow_87 rfl rfl ?_
        refine rp_iald hx hb hK hP 6 (by decide) (kX9_11 _) 0 rfl 10 rfl (by decide) (by decide) dX9_pourNow_88 ?_
        rw [show (up2 (up2 (up2 (up2 σ 6 12 ((σ 6 12) - (R_X9_canPour (σ 1) (σ 2) (σ 3) (σ 6) p s))) 6 15 ((σ 6 15) + (R_X9_canPour (σ 1) (σ 2) (σ 3) (σ 6) p s))) 6 s ((σ 6 s) + ((R_X9_canPour (σ 1) (σ 2) (σ 3) (σ 6) p s) / 1))) 6 s 0) 6 10 = (σ 6 10) from ((up2_K (by omega)).trans ((up2_K (by omega)).trans ((up2_K (by decide)).trans (up2_K (by decide)))))]
        refine lv_iconst (v := 1) hx hb dX9_pourNow_89 (by decide) ?_
        refine lv_iload_n hx hb dX9_pourNow_90 rfl (lv_at hl 3 rfl) ?_
        refine lv_ishl hx hb dX9_pourNow_91 ?_
        refine lv_ior hx hb dX9_pourNow_92 ?_
        refine rp_iast (x := ((σ 6 10) ||| ((1 : Int32) <<< ((nI s) &&& 31)))) hx hb hK hP hD hS 6 (by decide) (fun f => kX9_11 f) 0 rfl 10 rfl (by decide) (by decide) dX9_pourNow_93 (fun H locs hP hS => ?_)
        refine lv_iload_n hx hb dX9_pourNow_94 rfl (lv_at hl 0 rfl) ?_
        exact hret hP hS dX9_pourNow_95 rfl ⟨(by unfold R_X9_pourNow <;> rw [if_pos c44, if_neg c56, if_neg c71] <;> first | with_reducible rfl), (by unfold T_X9_pourNow <;> rw [if_pos c44, if_neg c56, if_neg c71] <;> simp only [up2, va_up_self, bx_uu, va_self])⟩

def R_X9_sayNow (N : Nat → Int32) (s : Nat) : Int32 := (N s)
def T_X9_sayNow (N : Nat → Int32) (s : Nat) : Nat → Int32 := upd (upd N s 0) 10 ((N 10) &&& (((1 : Int32) <<< ((nI s) &&& 31)) ^^^ (-1)))
theorem in_X9_sayNow_X9 : ∀ w ∈ u_ws RX9 TX9 38, w ∈ wsX9_sayNow := by decide +kernel
set_option maxHeartbeats 1000000 in
set_option maxRecDepth 100000 in
theorem c_X9_sayNow (l : Launch) (D : va_G) (cy : Nat → ClassId) (ad : Nat → Nat) (σ : Nat → Nat → Int32) (N : Nat → Int32) (s : Nat) (r_N : σ 6 = N) (hs : s < 10) : MI l D (tysW cy) 19 ad (cfM ad cy) yX9_sayNow wsX9_sayNow ({ frames := 0, cells := 0, slots := 0, locals := 0 }) σ [.ref (ad 0), .int (nI s)] (fun v_ τ_ => (R_X9_sayNow N s) = v_ ∧ (va_up σ 6 (T_X9_sayNow N s)) = τ_) := by
  refine MI.go (cc := cX9_sayNow) (maxL := 3) .int (by decide) rfl (Nat.le_of_ble_eq_true rfl) ?_
  intro p_ e_ s_ m_ args_ bl_ mt_ c_ A_ Q_ ls hx hb hml hown hts hK hA hD hP hS hl hret
  have hl : lv_has ls 3 [(0, .ref (ad 0)), (1, .int (nI s))] := hl
  subst r_N
  refine lv_aload_n hx hb dX9_sayNow_0 rfl (lv_at hl 0 rfl) ?_
  refine rp_get (C := RX9) (T := TX9) (N := 38) hx hb hts in_X9_sayNow_X9 hown hK hP 0 (by decide) (kX9 _) rfl 11 (by decide) (by decide +kernel) rfl dX9_sayNow_1 ?_
  refine lv_iload_n hx hb dX9_sayNow_4 rfl (lv_at hl 1 rfl) ?_
  refine rp_iald hx hb hK hP 6 (by decide) (kX9_11 _) 0 rfl s rfl (by omega) (by decide) dX9_sayNow_5 ?_
  refine lv_istore_n (lv' := [(2, .int (σ 6 s)), (0, .ref (ad 0)), (1, .int (nI s))]) hx hb dX9_sayNow_6 rfl hl (by decide) rfl (fun ls hl => ?_)
  refine lv_aload_n hx hb dX9_sayNow_7 rfl (lv_at hl 1 rfl) ?_
  refine rp_get (C := RX9) (T := TX9) (N := 38) hx hb hts in_X9_sayNow_X9 hown hK hP 0 (by decide) (kX9 _) rfl 11 (by decide) (by decide +kernel) rfl dX9_sayNow_8 ?_
  refine lv_iload_n hx hb dX9_sayNow_11 rfl (lv_at hl 2 rfl) ?_
  refine lv_iconst (v := 0) hx hb dX9_sayNow_12 (by decide) ?_
  refine rp_iast (x := 0) hx hb hK hP hD hS 6 (by decide) (fun f => kX9_11 f) 0 rfl s rfl (by omega) (by decide) dX9_sayNow_13 (fun H locs hP hS => ?_)
  refine lv_aload_n hx hb dX9_sayNow_14 rfl (lv_at hl 1 rfl) ?_
  refine rp_get (C := RX9) (T := TX9) (N := 38) hx hb hts in_X9_sayNow_X9 hown hK hP 0 (by decide) (kX9 _) rfl 11 (by decide) (by decide +kernel) rfl dX9_sayNow_15 ?_
  refine lv_bipush (v := 10) hx hb dX9_sayNow_18 (by decide) ?_
  refine lv_dup2_11 hx hb dX9_sayNow_20 rfl rfl ?_
  refine rp_iald hx hb hK hP 6 (by decide) (kX9_11 _) 0 rfl 10 rfl (by decide) (by decide) dX9_sayNow_21 ?_
  rw [show (up2 σ 6 s 0) 6 10 = (σ 6 10) from (up2_K (by omega))]
  refine lv_iconst (v := 1) hx hb dX9_sayNow_22 (by decide) ?_
  refine lv_iload_n hx hb dX9_sayNow_23 rfl (lv_at hl 2 rfl) ?_
  refine lv_ishl hx hb dX9_sayNow_24 ?_
  refine lv_iconst (v := (-1)) hx hb dX9_sayNow_25 (by decide) ?_
  refine lv_ixor hx hb dX9_sayNow_26 ?_
  refine lv_iand hx hb dX9_sayNow_27 ?_
  refine rp_iast (x := ((σ 6 10) &&& (((1 : Int32) <<< ((nI s) &&& 31)) ^^^ (-1)))) hx hb hK hP hD hS 6 (by decide) (fun f => kX9_11 f) 0 rfl 10 rfl (by decide) (by decide) dX9_sayNow_28 (fun H locs hP hS => ?_)
  refine lv_iload_n hx hb dX9_sayNow_29 rfl (lv_at hl 0 rfl) ?_
  exact hret hP hS dX9_sayNow_30 rfl ⟨(by unfold R_X9_sayNow <;> first | with_reducible rfl), (by unfold T_X9_sayNow <;> simp only [up2, va_up_self, bx_uu, va_self])⟩

def T_X9_pass (N : Nat → Int32) (sp : Int32) : Nat → Int32 := upd (upd (upd (upd N 12 (R_X9_filled (N 12) (sp + (N 13)))) 13 ((N 13) / 2)) 15 0) 14 ((N 14) + 1)
theorem in_X9_pass_X9 : ∀ w ∈ u_ws RX9 TX9 38, w ∈ wsX9_pass := by decide +kernel
set_option maxHeartbeats 1000000 in
set_option maxRecDepth 100000 in
theorem c_X9_pass (l : Launch) (D : va_G) (cy : Nat → ClassId) (ad : Nat → Nat) (σ : Nat → Nat → Int32) (N : Nat → Int32) (sp : Int32) (r_N : σ 6 = N) (s_sp : σ 0 2 = sp) : MV l D (tysW cy) 19 ad (cfM ad cy) yX9_pass wsX9_pass ({ frames := 1, cells := 0, slots := 0, locals := 21 }) σ [.ref (ad 0)] (fun τ_ => (va_up σ 6 (T_X9_pass N sp)) = τ_) := by
  refine MV.go (cc := cX9_pass) (maxL := 1) (by decide) rfl (Nat.le_of_ble_eq_true rfl) ?_
  intro p_ e_ s_ m_ args_ bl_ mt_ c_ A_ Q_ ls hx hb hml hown hts hK hA hD hP hS hl hret
  have hl : lv_has ls 1 [(0, .ref (ad 0))] := hl
  subst r_N s_sp
  refine lv_aload_n hx hb dX9_pass_0 rfl (lv_at hl 0 rfl) ?_
  refine rp_get (C := RX9) (T := TX9) (N := 38) hx hb hts in_X9_pass_X9 hown hK hP 0 (by decide) (kX9 _) rfl 11 (by decide) (by decide +kernel) rfl dX9_pass_1 ?_
  refine lv_bipush (v := 12) hx hb dX9_pass_4 (by decide) ?_
  refine lv_aload_n hx hb dX9_pass_6 rfl (lv_at hl 0 rfl) ?_
  refine rp_get (C := RX9) (T := TX9) (N := 38) hx hb hts in_X9_pass_X9 hown hK hP 0 (by decide) (kX9 _) rfl 11 (by decide) (by decide +kernel) rfl dX9_pass_7 ?_
  refine lv_bipush (v := 12) hx hb dX9_pass_10 (by decide) ?_
  refine rp_iald hx hb hK hP 6 (by decide) (kX9_11 _) 0 rfl 12 rfl (by decide) (by decide) dX9_pass_12 ?_
  refine lv_aload_n hx hb dX9_pass_13 rfl (lv_at hl 0 rfl) ?_
  refine rp_get (C := RX9) (T := TX9) (N := 38) hx hb hts in_X9_pass_X9 hown hK hP 0 (by decide) (kX9 _) rfl 2 (by decide) (by decide +kernel) rfl dX9_pass_14 ?_
  refine lv_aload_n hx hb dX9_pass_17 rfl (lv_at hl 0 rfl) ?_
  refine rp_get (C := RX9) (T := TX9) (N := 38) hx hb hts in_X9_pass_X9 hown hK hP 0 (by decide) (kX9 _) rfl 11 (by decide) (by decide +kernel) rfl dX9_pass_18 ?_
  refine lv_bipush (v := 13) hx hb dX9_pass_21 (by decide) ?_
  refine rp_iald hx hb hK hP 6 (by decide) (kX9_11 _) 0 rfl 13 rfl (by decide) (by decide) dX9_pass_23 ?_
  refine lv_iadd hx hb dX9_pass_24 ?_
  refine rp_callSI (na := 2) hx hb hml hown hts hK hA hD hP hS hl.1 [.int (σ 6 12), .int ((σ 0 2) + (σ 6 13))] (c_X9_filled l D cy ad σ (σ 6 12) ((σ 0 2) + (σ 6 13)) ) gX9_pass_X9_filled rfl (by decide +kernel) rfl ⟨Nat.le_of_ble_eq_true rfl, Nat.le_of_ble_eq_true rfl⟩ ⟨rfl, rfl⟩ ⟨Nat.zero_le _, Nat.zero_le _⟩ rfl (Nat.le_of_ble_eq_true rfl) dX9_pass_25 (fun v_ τ_ H locs hq hP hS => ?_)
  obtain ⟨rfl, rfl⟩ := hq
  refine rp_iast (x := (R_X9_filled (σ 6 12) ((σ 0 2) + (σ 6 13)))) hx hb hK hP hD hS 6 (by decide) (fun f => kX9_11 f) 0 rfl 12 rfl (by decide) (by decide) dX9_pass_28 (fun H locs hP hS => ?_)
  refine lv_aload_n hx hb dX9_pass_29 rfl (lv_at hl 0 rfl) ?_
  refine rp_get (C := RX9) (T := TX9) (N := 38) hx hb hts in_X9_pass_X9 hown hK hP 0 (by decide) (kX9 _) rfl 11 (by decide) (by decide +kernel) rfl dX9_pass_30 ?_
  refine lv_bipush (v := 13) hx hb dX9_pass_33 (by decide) ?_
  refine lv_dup2_11 hx hb dX9_pass_35 rfl rfl ?_
  refine rp_iald hx hb hK hP 6 (by decide) (kX9_11 _) 0 rfl 13 rfl (by decide) (by decide) dX9_pass_36 ?_
  rw [show (up2 σ 6 12 (R_X9_filled (σ 6 12) ((σ 0 2) + (σ 6 13)))) 6 13 = (σ 6 13) from (up2_K (by decide))]
  refine lv_iconst (v := 2) hx hb dX9_pass_37 (by decide) ?_
  refine lv_idiv hx hb dX9_pass_38 (by first | decide | assumption) ?_
  refine rp_iast (x := ((σ 6 13) / 2)) hx hb hK hP hD hS 6 (by decide) (fun f => kX9_11 f) 0 rfl 13 rfl (by decide) (by decide) dX9_pass_39 (fun H locs hP hS => ?_)
  refine lv_aload_n hx hb dX9_pass_40 rfl (lv_at hl 0 rfl) ?_
  refine rp_get (C := RX9) (T := TX9) (N := 38) hx hb hts in_X9_pass_X9 hown hK hP 0 (by decide) (kX9 _) rfl 11 (by decide) (by decide +kernel) rfl dX9_pass_41 ?_
  refine lv_bipush (v := 15) hx hb dX9_pass_44 (by decide) ?_
  refine lv_iconst (v := 0) hx hb dX9_pass_46 (by decide) ?_
  refine rp_iast (x := 0) hx hb hK hP hD hS 6 (by decide) (fun f => kX9_11 f) 0 rfl 15 rfl (by decide) (by decide) dX9_pass_47 (fun H locs hP hS => ?_)
  refine lv_aload_n hx hb dX9_pass_48 rfl (lv_at hl 0 rfl) ?_
  refine rp_get (C := RX9) (T := TX9) (N := 38) hx hb hts in_X9_pass_X9 hown hK hP 0 (by decide) (kX9 _) rfl 11 (by decide) (by decide +kernel) rfl dX9_pass_49 ?_
  refine lv_bipush (v := 14) hx hb dX9_pass_52 (by decide) ?_
  refine lv_dup2_11 hx hb dX9_pass_54 rfl rfl ?_
  refine rp_iald hx hb hK hP 6 (by decide) (kX9_11 _) 0 rfl 14 rfl (by decide) (by decide) dX9_pass_55 ?_
  rw [show (up2 (up2 (up2 σ 6 12 (R_X9_filled (σ 6 12) ((σ 0 2) + (σ 6 13)))) 6 13 ((σ 6 13) / 2)) 6 15 0) 6 14 = (σ 6 14) from ((up2_K (by decide)).trans ((up2_K (by decide)).trans (up2_K (by decide))))]
  refine lv_iconst (v := 1) hx hb dX9_pass_56 (by decide) ?_
  refine lv_iadd hx hb dX9_pass_57 ?_
  refine rp_iast (x := ((σ 6 14) + 1)) hx hb hK hP hD hS 6 (by decide) (fun f => kX9_11 f) 0 rfl 14 rfl (by decide) (by decide) dX9_pass_58 (fun H locs hP hS => ?_)
  exact hret hP hS dX9_pass_59 (by unfold T_X9_pass <;> simp only [up2, va_up_self, bx_uu, va_self])
