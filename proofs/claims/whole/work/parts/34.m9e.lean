theorem in_X9_chance_X9 : ∀ w ∈ u_ws RX9 TX9 38, w ∈ wsX9_chance := by decide +kernel
set_option maxHeartbeats 1000000 in
set_option maxRecDepth 100000 in
theorem c_X9_chance (l : Launch) (D : va_G) (cy : Nat → ClassId) (ad : Nat → Nat) (σ : Nat → Nat → Int32) (ar : Nat → Int32) (ow : Nat → Int32) (wt : Nat → Int32) (N : Nat → Int32) (n : Nat) (k : Nat) (sd : Nat) (r_ar : σ 1 = ar) (r_ow : σ 2 = ow) (r_wt : σ 3 = wt) (r_N : σ 6 = N) (hn : n ≤ 10) (en : σ 0 5 = nI n) (hk : k ≤ 5) (ek : σ 0 3 = nI k) (hsd : sd < 2 ^ 31) (esd : σ 0 12 = nI sd) : MV l D (tysW cy) 19 ad (cfM ad cy) yX9_chance wsX9_chance ({ frames := 3, cells := 0, slots := 0, locals := 72 }) σ [.ref (ad 0)] (fun τ_ => (va_up (up2 σ 0 12 (nI (chA ar ow wt n k sd N).1)) 6 (chA ar ow wt n k sd N).2) = τ_) := by
  refine MV.go (cc := cX9_chance) (maxL := 5) (by decide) rfl (Nat.le_of_ble_eq_true rfl) ?_
  intro p_ e_ s_ m_ args_ bl_ mt_ c_ A_ Q_ ls hx hb hml hown hts hK hA hD hP hS hl hret
  have hl : lv_has ls 5 [(0, .ref (ad 0))] := hl
  subst r_ar r_ow r_wt r_N
  have hq := chQ_lt (ar := σ 1) (ow := σ 2) (wt := σ 3) (n := n) (k := k) (N := σ 6) hsd
  have L53 : ∀ (τ : Nat → Nat → Int32) (H : Heap) (locs : List Loc) (ls : Array Slot), (va_up (up2 σ 0 12 (nI (chQ (σ 1) (σ 2) (σ 3) n k sd (σ 6)).1)) 6 ((chQ (σ 1) (σ 2) (σ 3) n k sd (σ 6)).2)) = τ → va_P D classes (rw_ 19 ad (cfM ad cy) τ) H → va_S A_ s_.heap H locs → lv_has ls 5 [(0, .ref (ad 0))] → W p_ l e_ ({ frames := 3, cells := 0, slots := 0, locals := 72 }) s_ m_ args_ bl_ mt_ c_ H locs 0 0 Q_ (F0 m_ 53 ls []) := by
    intro    τ H locs ls  eτ hP hS hl
    subst eτ
    refine lv_aload_n hx hb dX9_chance_53 rfl (lv_at hl 0 rfl) ?_
    refine lv_iconst (v := 4) hx hb dX9_chance_54 (by decide) ?_
    refine rp_callVI (na := 1) hx hb hml hown hts hK hA hD hP hS hl.1 0 (by decide) (kX9 _) rfl [.int 4] (c_X9_draw l D cy ad (va_up (up2 σ 0 12 (nI (chQ (σ 1) (σ 2) (σ 3) n k sd (σ 6)).1)) 6 ((chQ (σ 1) (σ 2) (σ 3) n k sd (σ 6)).2)) ((chQ (σ 1) (σ 2) (σ 3) n k sd (σ 6)).1) 4 hq ((va_R (by decide)).trans up2_S) (by decide) (by decide)) gX9_chance_X9_draw rfl (by decide +kernel) rfl ⟨Nat.le_of_ble_eq_true rfl, Nat.le_of_ble_eq_true rfl⟩ ⟨rfl, rfl⟩ ⟨Nat.zero_le _, Nat.zero_le _⟩ rfl (Nat.le_of_ble_eq_true rfl) dX9_chance_55 (fun v_ τ_ H locs hq hP hS => ?_)
    obtain ⟨rfl, rfl⟩ := hq
    refine lv_istore_n (lv' := [(1, .int (nI (lcg ((chQ (σ 1) (σ 2) (σ 3) n k sd (σ 6)).1) / 65536 % 4))), (0, .ref (ad 0))]) hx hb dX9_chance_58 rfl hl (by decide) rfl (fun ls hl => ?_)
    refine lv_iload_n hx hb dX9_chance_59 rfl (lv_at hl 0 rfl) ?_
    refine lv_if_ne (tgt := 79) hx hb dX9_chance_60 (by decide) (fun c60 => ?_) (fun c60 => ?_)
    · skip
      refine lv_iload_n hx hb dX9_chance_79 rfl (lv_at hl 0 rfl) ?_
      refine lv_iconst (v := 1) hx hb dX9_chance_80 (by decide) ?_
      refine lv_icmp_ne (tgt := 104) hx hb dX9_chance_81 (by decide) (fun c81 => ?_) (fun c81 => ?_)
      · skip
        exact hret hP hS dX9_chance_104 (ch_f ((if_neg c60).trans (if_neg c81)) (ch_st1 _ _ _ _))
      · skip
        refine lv_aload_n hx hb dX9_chance_84 rfl (lv_at hl 1 rfl) ?_
        refine rp_get (C := RX9) (T := TX9) (N := 38) hx hb hts in_X9_chance_X9 hown hK hP 0 (by decide) (kX9 _) rfl 5 (by decide) (by decide +kernel) rfl dX9_chance_85 ?_
        rw [show (up2 (va_up (up2 σ 0 12 (nI (chQ (σ 1) (σ 2) (σ 3) n k sd (σ 6)).1)) 6 ((chQ (σ 1) (σ 2) (σ 3) n k sd (σ 6)).2)) 0 12 (nI (lcg ((chQ (σ 1) (σ 2) (σ 3) n k sd (σ 6)).1)))) 0 5 = (σ 0 5) from ((up2_K (by decide)).trans ((va_R (by decide)).trans (up2_K (by decide))))]
        rw [en]
        refine lv_if_le (tgt := 104) hx hb dX9_chance_88 (by decide) (fun c88 => ?_) (fun c88 => ?_)
        · skip
          exact hret hP hS dX9_chance_104 (ch_f ((if_neg c60).trans ((if_pos c81).trans (if_pos c88))) (ch_st1 _ _ _ _))
        · skip
          have hn0 := nz_ c88 (by omega)
          refine lv_aload_n hx hb dX9_chance_91 rfl (lv_at hl 1 rfl) ?_
          refine lv_aload_n hx hb dX9_chance_92 rfl (lv_at hl 1 rfl) ?_
          refine lv_aload_n hx hb dX9_chance_93 rfl (lv_at hl 1 rfl) ?_
          refine rp_get (C := RX9) (T := TX9) (N := 38) hx hb hts in_X9_chance_X9 hown hK hP 0 (by decide) (kX9 _) rfl 5 (by decide) (by decide +kernel) rfl dX9_chance_94 ?_
          rw [show (up2 (va_up (up2 σ 0 12 (nI (chQ (σ 1) (σ 2) (σ 3) n k sd (σ 6)).1)) 6 ((chQ (σ 1) (σ 2) (σ 3) n k sd (σ 6)).2)) 0 12 (nI (lcg ((chQ (σ 1) (σ 2) (σ 3) n k sd (σ 6)).1)))) 0 5 = (σ 0 5) from ((up2_K (by decide)).trans ((va_R (by decide)).trans (up2_K (by decide))))]
          rw [en]
          refine rp_callVI (na := 1) hx hb hml hown hts hK hA hD hP hS hl.1 0 (by decide) (kX9 _) rfl [.int (nI n)] (c_X9_draw l D cy ad (up2 (va_up (up2 σ 0 12 (nI (chQ (σ 1) (σ 2) (σ 3) n k sd (σ 6)).1)) 6 ((chQ (σ 1) (σ 2) (σ 3) n k sd (σ 6)).2)) 0 12 (nI (lcg ((chQ (σ 1) (σ 2) (σ 3) n k sd (σ 6)).1)))) (lcg (chQ (σ 1) (σ 2) (σ 3) n k sd (σ 6)).1) n (lcg_lt _) up2_S (by first | assumption | omega) (by first | assumption | omega)) gX9_chance_X9_draw rfl (by decide +kernel) rfl ⟨Nat.le_of_ble_eq_true rfl, Nat.le_of_ble_eq_true rfl⟩ ⟨rfl, rfl⟩ ⟨Nat.zero_le _, Nat.zero_le _⟩ rfl (Nat.le_of_ble_eq_true rfl) dX9_chance_97 (fun v_ τ_ H locs hq hP hS => ?_)
          obtain ⟨rfl, rfl⟩ := hq
          refine rp_callVI (na := 1) hx hb hml hown hts hK hA hD hP hS hl.1 0 (by decide) (kX9 _) rfl [.int (nI (lcg (lcg (chQ (σ 1) (σ 2) (σ 3) n k sd (σ 6)).1) / 65536 % n))] (c_X9_sayNow l D cy ad (up2 (up2 (va_up (up2 σ 0 12 (nI (chQ (σ 1) (σ 2) (σ 3) n k sd (σ 6)).1)) 6 ((chQ (σ 1) (σ 2) (σ 3) n k sd (σ 6)).2)) 0 12 (nI (lcg ((chQ (σ 1) (σ 2) (σ 3) n k sd (σ 6)).1)))) 0 12 (nI (lcg (lcg (chQ (σ 1) (σ 2) (σ 3) n k sd (σ 6)).1)))) ((chQ (σ 1) (σ 2) (σ 3) n k sd (σ 6)).2) (lcg (lcg (chQ (σ 1) (σ 2) (σ 3) n k sd (σ 6)).1) / 65536 % n) ((up2_Q (by decide)).trans ((up2_Q (by decide)).trans va_Qs)) (Nat.lt_of_lt_of_le (Nat.mod_lt _ hn0) hn)) gX9_chance_X9_sayNow rfl (by decide +kernel) rfl ⟨Nat.le_of_ble_eq_true rfl, Nat.le_of_ble_eq_true rfl⟩ ⟨rfl, rfl⟩ ⟨Nat.zero_le _, Nat.zero_le _⟩ rfl (Nat.le_of_ble_eq_true rfl) dX9_chance_100 (fun v_ τ_ H locs hq hP hS => ?_)
          obtain ⟨rfl, rfl⟩ := hq
          refine lv_istore_n (lv' := [(2, .int (R_X9_sayNow ((chQ (σ 1) (σ 2) (σ 3) n k sd (σ 6)).2) (lcg (lcg (chQ (σ 1) (σ 2) (σ 3) n k sd (σ 6)).1) / 65536 % n))), (1, .int (nI (lcg ((chQ (σ 1) (σ 2) (σ 3) n k sd (σ 6)).1) / 65536 % 4))), (0, .ref (ad 0))]) hx hb dX9_chance_103 rfl hl (by decide) rfl (fun ls hl => ?_)
          exact hret hP hS dX9_chance_104 (ch_f ((if_neg c60).trans ((if_pos c81).trans (if_neg c88))) (ch_st _ _ _ _ _ _))
    · skip
      refine lv_aload_n hx hb dX9_chance_63 rfl (lv_at hl 1 rfl) ?_
      refine rp_get (C := RX9) (T := TX9) (N := 38) hx hb hts in_X9_chance_X9 hown hK hP 0 (by decide) (kX9 _) rfl 11 (by decide) (by decide +kernel) rfl dX9_chance_64 ?_
      refine lv_bipush (v := 13) hx hb dX9_chance_67 (by decide) ?_
      refine lv_aload_n hx hb dX9_chance_69 rfl (lv_at hl 1 rfl) ?_
      refine lv_bipush (v := 30) hx hb dX9_chance_70 (by decide) ?_
      refine rp_callVI (na := 1) hx hb hml hown hts hK hA hD hP hS hl.1 0 (by decide) (kX9 _) rfl [.int 30] (c_X9_draw l D cy ad (up2 (va_up (up2 σ 0 12 (nI (chQ (σ 1) (σ 2) (σ 3) n k sd (σ 6)).1)) 6 ((chQ (σ 1) (σ 2) (σ 3) n k sd (σ 6)).2)) 0 12 (nI (lcg ((chQ (σ 1) (σ 2) (σ 3) n k sd (σ 6)).1)))) (lcg (chQ (σ 1) (σ 2) (σ 3) n k sd (σ 6)).1) 30 (lcg_lt _) up2_S (by decide) (by decide)) gX9_chance_X9_draw rfl (by decide +kernel) rfl ⟨Nat.le_of_ble_eq_true rfl, Nat.le_of_ble_eq_true rfl⟩ ⟨rfl, rfl⟩ ⟨Nat.zero_le _, Nat.zero_le _⟩ rfl (Nat.le_of_ble_eq_true rfl) dX9_chance_72 (fun v_ τ_ H locs hq hP hS => ?_)
      obtain ⟨rfl, rfl⟩ := hq
      refine rp_iast (x := (nI (lcg (lcg (chQ (σ 1) (σ 2) (σ 3) n k sd (σ 6)).1) / 65536 % 30))) hx hb hK hP hD hS 6 (by decide) (fun f => kX9_11 f) 0 rfl 13 rfl (by decide) (by decide) dX9_chance_75 (fun H locs hP hS => ?_)
      refine lv_goto (tgt := 104) hx hb dX9_chance_76 (by decide) ?_
      exact hret hP hS dX9_chance_104 (ch_f (if_pos c60) (ch_ea _ _ _ _ _ _))
  refine lv_iconst (v := 0) hx hb dX9_chance_0 (by decide) ?_
  refine lv_istore_n (lv' := [(1, .int 0), (0, .ref (ad 0))]) hx hb dX9_chance_1 rfl hl (by decide) rfl (fun ls hl => ?_)
  have L2 : ∀ (fu2 : Nat) (i : Nat) (s1 : Nat) (N : Nat → Int32), (i ≤ 3) → (s1 < 2 ^ 31) → (nI k ≤ 0 ∨ nI n ≤ 0 → i = 0 ∧ s1 = sd ∧ N = σ 6) → (chP (σ 1) (σ 2) (σ 3) n k (3 - i) s1 N = chP (σ 1) (σ 2) (σ 3) n k 3 sd (σ 6)) → 3 - i < fu2 → ∀ (x1 : Int32) (τ : Nat → Nat → Int32) (H : Heap) (locs : List Loc) (ls : Array Slot), (nI i) = x1 → (va_up (up2 σ 0 12 (nI s1)) 6 N) = τ → va_P D classes (rw_ 19 ad (cfM ad cy) τ) H → va_S A_ s_.heap H locs → lv_has ls 5 [(1, .int x1), (0, .ref (ad 0))] → W p_ l e_ ({ frames := 3, cells := 0, slots := 0, locals := 72 }) s_ m_ args_ bl_ mt_ c_ H locs 0 0 Q_ (F0 m_ 2 ls []) := by
    intro fu2
    induction fu2 with
    | zero => intro i s1 N hi hs1 hF hG hf; exact absurd hf (Nat.not_lt_zero _)
    | succ fu2 ih2 =>
      intro i s1 N hi hs1 hF hG hf2 x1 τ H locs ls ex1 eτ hP hS hl
      subst ex1
      subst eτ
      refine lv_iload_n hx hb dX9_chance_2 rfl (lv_at hl 0 rfl) ?_
      refine lv_iconst (v := 3) hx hb dX9_chance_3 (by decide) ?_
      refine lv_icmp_ge (tgt := 53) hx hb dX9_chance_4 (by decide) (fun c4 => ?_) (fun c4 => ?_)
      · skip
        have ei : i = 3 := cl_ex hi (by omega) c4
        exact L53 _ _ _ _ (by first | (exact ch_j0 c11 (hF (Or.inl c11))) | (exact ch_j1 c11 c18 (hF (Or.inr c18))) | (exact ch_j2 ei hF hG)) hP hS (lv_sub hl [1] rfl)
      · skip
        have hi2 : i < 3 := cl_in (by omega) (by omega) c4
        refine lv_aload_n hx hb dX9_chance_7 rfl (lv_at hl 1 rfl) ?_
        refine rp_get (C := RX9) (T := TX9) (N := 38) hx hb hts in_X9_chance_X9 hown hK hP 0 (by decide) (kX9 _) rfl 3 (by decide) (by decide +kernel) rfl dX9_chance_8 ?_
        rw [show (va_up (up2 σ 0 12 (nI s1)) 6 N) 0 3 = (σ 0 3) from ((va_R (by decide)).trans (up2_K (by decide)))]
        rw [ek]
        refine lv_if_le (tgt := 53) hx hb dX9_chance_11 (by decide) (fun c11 => ?_) (fun c11 => ?_)
        · skip
          exact L53 _ _ _ _ (by first | (exact ch_j0 c11 (hF (Or.inl c11))) | (exact ch_j1 c11 c18 (hF (Or.inr c18))) | (exact ch_j2 ei hF hG)) hP hS (lv_sub hl [1] rfl)
        · skip
          have hk0 := nz_ c11 (by omega)
          refine lv_aload_n hx hb dX9_chance_14 rfl (lv_at hl 1 rfl) ?_
          refine rp_get (C := RX9) (T := TX9) (N := 38) hx hb hts in_X9_chance_X9 hown hK hP 0 (by decide) (kX9 _) rfl 5 (by decide) (by decide +kernel) rfl dX9_chance_15 ?_
          rw [show (va_up (up2 σ 0 12 (nI s1)) 6 N) 0 5 = (σ 0 5) from ((va_R (by decide)).trans (up2_K (by decide)))]
          rw [en]
          refine lv_if_le (tgt := 53) hx hb dX9_chance_18 (by decide) (fun c18 => ?_) (fun c18 => ?_)
          · skip
            exact L53 _ _ _ _ (by first | (exact ch_j0 c11 (hF (Or.inl c11))) | (exact ch_j1 c11 c18 (hF (Or.inr c18))) | (exact ch_j2 ei hF hG)) hP hS (lv_sub hl [1] rfl)
          · skip
            have hn0 := nz_ c18 (by omega)
            refine lv_aload_n hx hb dX9_chance_21 rfl (lv_at hl 1 rfl) ?_
            refine lv_aload_n hx hb dX9_chance_22 rfl (lv_at hl 1 rfl) ?_
            refine rp_get (C := RX9) (T := TX9) (N := 38) hx hb hts in_X9_chance_X9 hown hK hP 0 (by decide) (kX9 _) rfl 3 (by decide) (by decide +kernel) rfl dX9_chance_23 ?_
            rw [show (va_up (up2 σ 0 12 (nI s1)) 6 N) 0 3 = (σ 0 3) from ((va_R (by decide)).trans (up2_K (by decide)))]
            rw [ek]
            refine rp_callVI (na := 1) hx hb hml hown hts hK hA hD hP hS hl.1 0 (by decide) (kX9 _) rfl [.int (nI k)] (c_X9_draw l D cy ad (va_up (up2 σ 0 12 (nI s1)) 6 N) s1 k hs1 ((va_R (by decide)).trans up2_S) (by first | assumption | omega) (by first | assumption | omega)) gX9_chance_X9_draw rfl (by decide +kernel) rfl ⟨Nat.le_of_ble_eq_true rfl, Nat.le_of_ble_eq_true rfl⟩ ⟨rfl, rfl⟩ ⟨Nat.zero_le _, Nat.zero_le _⟩ rfl (Nat.le_of_ble_eq_true rfl) dX9_chance_26 (fun v_ τ_ H locs hq hP hS => ?_)
            obtain ⟨rfl, rfl⟩ := hq
            refine lv_istore_n (lv' := [(2, .int (nI (lcg s1 / 65536 % k))), (1, .int (nI i)), (0, .ref (ad 0))]) hx hb dX9_chance_29 rfl hl (by decide) rfl (fun ls hl => ?_)
            refine lv_aload_n hx hb dX9_chance_30 rfl (lv_at hl 2 rfl) ?_
            refine lv_aload_n hx hb dX9_chance_31 rfl (lv_at hl 2 rfl) ?_
            refine rp_get (C := RX9) (T := TX9) (N := 38) hx hb hts in_X9_chance_X9 hown hK hP 0 (by decide) (kX9 _) rfl 5 (by decide) (by decide +kernel) rfl dX9_chance_32 ?_
            rw [show (up2 (va_up (up2 σ 0 12 (nI s1)) 6 N) 0 12 (nI (lcg s1))) 0 5 = (σ 0 5) from ((up2_K (by decide)).trans ((va_R (by decide)).trans (up2_K (by decide))))]
            rw [en]
            refine rp_callVI (na := 1) hx hb hml hown hts hK hA hD hP hS hl.1 0 (by decide) (kX9 _) rfl [.int (nI n)] (c_X9_draw l D cy ad (up2 (va_up (up2 σ 0 12 (nI s1)) 6 N) 0 12 (nI (lcg s1))) (lcg s1) n (lcg_lt _) up2_S (by first | assumption | omega) (by first | assumption | omega)) gX9_chance_X9_draw rfl (by decide +kernel) rfl ⟨Nat.le_of_ble_eq_true rfl, Nat.le_of_ble_eq_true rfl⟩ ⟨rfl, rfl⟩ ⟨Nat.zero_le _, Nat.zero_le _⟩ rfl (Nat.le_of_ble_eq_true rfl) dX9_chance_35 (fun v_ τ_ H locs hq hP hS => ?_)
            obtain ⟨rfl, rfl⟩ := hq
            refine lv_istore_n (lv' := [(3, .int (nI (lcg (lcg s1) / 65536 % n))), (2, .int (nI (lcg s1 / 65536 % k))), (1, .int (nI i)), (0, .ref (ad 0))]) hx hb dX9_chance_38 rfl hl (by decide) rfl (fun ls hl => ?_)
            refine lv_aload_n hx hb dX9_chance_39 rfl (lv_at hl 3 rfl) ?_
            refine lv_iload_n hx hb dX9_chance_40 rfl (lv_at hl 1 rfl) ?_
            refine lv_iload_n hx hb dX9_chance_41 rfl (lv_at hl 0 rfl) ?_
            refine rp_callVI (na := 2) hx hb hml hown hts hK hA hD hP hS hl.1 0 (by decide) (kX9 _) rfl [.int (nI (lcg s1 / 65536 % k)), .int (nI (lcg (lcg s1) / 65536 % n))] (c_X9_pourNow l D cy ad (up2 (up2 (va_up (up2 σ 0 12 (nI s1)) 6 N) 0 12 (nI (lcg s1))) 0 12 (nI (lcg (lcg s1)))) (σ 1) (σ 2) (σ 3) N (lcg s1 / 65536 % k) (lcg (lcg s1) / 65536 % n) ((up2_Q (by decide)).trans ((up2_Q (by decide)).trans ((va_Q (by decide)).trans (up2_Q (by decide))))) ((up2_Q (by decide)).trans ((up2_Q (by decide)).trans ((va_Q (by decide)).trans (up2_Q (by decide))))) ((up2_Q (by decide)).trans ((up2_Q (by decide)).trans ((va_Q (by decide)).trans (up2_Q (by decide))))) ((up2_Q (by decide)).trans ((up2_Q (by decide)).trans va_Qs)) (Nat.lt_of_lt_of_le (Nat.mod_lt _ hk0) hk) (Nat.lt_of_lt_of_le (Nat.mod_lt _ hn0) hn)) gX9_chance_X9_pourNow rfl (by decide +kernel) rfl ⟨Nat.le_of_ble_eq_true rfl, Nat.le_of_ble_eq_true rfl⟩ ⟨rfl, rfl⟩ ⟨Nat.zero_le _, Nat.zero_le _⟩ rfl (Nat.le_of_ble_eq_true rfl) dX9_chance_42 (fun v_ τ_ H locs hq hP hS => ?_)
            obtain ⟨rfl, rfl⟩ := hq
            refine lv_istore (lv' := [(4, .int (R_X9_pourNow (σ 1) (σ 2) (σ 3) N (lcg s1 / 65536 % k) (lcg (lcg s1) / 65536 % n))), (3, .int (nI (lcg (lcg s1) / 65536 % n))), (2, .int (nI (lcg s1 / 65536 % k))), (1, .int (nI i)), (0, .ref (ad 0))]) hx hb dX9_chance_45 hl (by decide) rfl (fun ls hl => ?_)
            refine lv_iinc (v := ((nI i) + 1)) (lv' := [(1, .int ((nI i) + 1)), (4, .int (R_X9_pourNow (σ 1) (σ 2) (σ 3) N (lcg s1 / 65536 % k) (lcg (lcg s1) / 65536 % n))), (3, .int (nI (lcg (lcg s1) / 65536 % n))), (2, .int (nI (lcg s1 / 65536 % k))), (0, .ref (ad 0))]) hx hb dX9_chance_47 hl (k := 3) rfl rfl (by decide) rfl (fun ls hl => ?_)
            refine lv_goto (tgt := 2) hx hb dX9_chance_50 (by decide) ?_
            exact ih2 (i + 1) (lcg (lcg s1)) _ (by omega) (lcg_lt _) (fun q => absurd q (by rintro (h | h); exact c11 h; exact c18 h)) (by rw [← hG, show 3 - i = (3 - (i + 1)) + 1 by omega]; rfl) (by omega) _ _ _ _ _ ((nI_1 i).symm) (ch_st _ _ _ _ _ _) hP hS (lv_sub hl [0, 4] rfl)
  exact L2 ((3 - 0) + 1) 0 sd (σ 6) (by omega) hsd (fun _ => ⟨rfl, rfl, rfl⟩) rfl (Nat.lt_succ_self _) _ _ _ _ _ (by first | rfl | simp [*]) (by rw [up2_self _ _ _ esd, va_self]) hP hS (lv_sub hl [0, 1] rfl)

noncomputable def R_X9_drift (σ : Nat → Nat → Int32) (n : Nat) (k : Nat) (u : Nat) (sd : Nat) (v : Int32) : Int32 := (if (R_X9_nightsRefused σ v) = 0 then (((drN (σ 1) (σ 2) (σ 3) (σ 0 2) n k (v.toNatClampNeg) sd (σ 6)).2) 12) else (R_X9_nightsRefused σ v))
noncomputable def T_X9_drift (σ : Nat → Nat → Int32) (n : Nat) (k : Nat) (u : Nat) (sd : Nat) (v : Int32) : Nat → Nat → Int32 := (if (R_X9_nightsRefused σ v) = 0 then va_up (up2 (remT σ u) 0 12 (nI (drN (σ 1) (σ 2) (σ 3) (σ 0 2) n k (v.toNatClampNeg) sd (σ 6)).1)) 6 ((drN (σ 1) (σ 2) (σ 3) (σ 0 2) n k (v.toNatClampNeg) sd (σ 6)).2) else σ)
theorem in_X9_drift_X9 : ∀ w ∈ u_ws RX9 TX9 38, w ∈ wsX9_drift := by decide +kernel
set_option maxHeartbeats 1000000 in
set_option maxRecDepth 100000 in
theorem c_X9_drift (l : Launch) (D : va_G) (cy : Nat → ClassId) (ad : Nat → Nat) (σ : Nat → Nat → Int32) (n : Nat) (k : Nat) (u : Nat) (sd : Nat) (v : Int32) (hn : n ≤ 10) (en : σ 0 5 = nI n) (hk : k ≤ 5) (ek : σ 0 3 = nI k) (hu : u ≤ 16) (eu : σ 0 31 = nI u) (hsd : sd < 2 ^ 31) (esd : σ 0 12 = nI sd) : MI l D (tysW cy) 19 ad (cfM ad cy) yX9_drift wsX9_drift ({ frames := 4, cells := 0, slots := 0, locals := 96 }) σ [.ref (ad 0), .int v] (fun v_ τ_ => (R_X9_drift σ n k u sd v) = v_ ∧ (T_X9_drift σ n k u sd v) = τ_) := by
  refine MI.go (cc := cX9_drift) (maxL := 4) .int (by decide) rfl (Nat.le_of_ble_eq_true rfl) ?_
  intro p_ e_ s_ m_ args_ bl_ mt_ c_ A_ Q_ ls hx hb hml hown hts hK hA hD hP hS hl hret
  have hl : lv_has ls 4 [(0, .ref (ad 0)), (1, .int v)] := hl
  refine lv_aload_n hx hb dX9_drift_0 rfl (lv_at hl 0 rfl) ?_
  refine lv_iload_n hx hb dX9_drift_1 rfl (lv_at hl 1 rfl) ?_
  refine rp_callVI (na := 1) hx hb hml hown hts hK hA hD hP hS hl.1 0 (by decide) (kX9 _) rfl [.int v] (c_X9_nightsRefused l D cy ad σ v ) gX9_drift_X9_nightsRefused rfl (by decide +kernel) rfl ⟨Nat.le_of_ble_eq_true rfl, Nat.le_of_ble_eq_true rfl⟩ ⟨rfl, rfl⟩ ⟨Nat.zero_le _, Nat.zero_le _⟩ rfl (Nat.le_of_ble_eq_true rfl) dX9_drift_2 (fun v_ τ_ H locs hq hP hS => ?_)
  obtain ⟨rfl, rfl⟩ := hq
  refine lv_istore_n (lv' := [(2, .int (R_X9_nightsRefused σ v)), (0, .ref (ad 0)), (1, .int v)]) hx hb dX9_drift_5 rfl hl (by decide) rfl (fun ls hl => ?_)
  refine lv_iload_n hx hb dX9_drift_6 rfl (lv_at hl 0 rfl) ?_
  refine lv_if_eq (tgt := 12) hx hb dX9_drift_7 (by decide) (fun c7 => ?_) (fun c7 => ?_)
  · skip
    have cNR := nr_v c7
    obtain ⟨jv, hjv, rfl⟩ := nI_60 cNR
    refine lv_aload_n hx hb dX9_drift_12 rfl (lv_at hl 1 rfl) ?_
    refine rp_callVV (na := 0) hx hb hml hown hts hK hA hD hP hS hl.1 0 (by decide) (kX9 _) rfl [] (c_X9_remember l D cy ad σ u (by first | assumption | omega) (by first | assumption | rfl)) gX9_drift_X9_remember rfl (by decide +kernel) rfl ⟨Nat.le_of_ble_eq_true rfl, Nat.le_of_ble_eq_true rfl⟩ ⟨rfl, rfl⟩ ⟨Nat.zero_le _, Nat.zero_le _⟩ rfl (Nat.le_of_ble_eq_true rfl) dX9_drift_13 (fun τ_ H locs hq hP hS => ?_)
    subst hq
    refine lv_iconst (v := 0) hx hb dX9_drift_16 (by decide) ?_
    refine lv_istore_n (lv' := [(3, .int 0), (2, .int (R_X9_nightsRefused σ (nI jv))), (0, .ref (ad 0)), (1, .int (nI jv))]) hx hb dX9_drift_17 rfl hl (by decide) rfl (fun ls hl => ?_)
    have L18 : ∀ (fu18 : Nat) (i : Nat), (i ≤ jv) → jv - i < fu18 → ∀ (x3 : Int32) (τ : Nat → Nat → Int32) (H : Heap) (locs : List Loc) (ls : Array Slot), (nI i) = x3 → (va_up (up2 (remT σ u) 0 12 (nI (drN (σ 1) (σ 2) (σ 3) (σ 0 2) n k i sd (σ 6)).1)) 6 ((drN (σ 1) (σ 2) (σ 3) (σ 0 2) n k i sd (σ 6)).2)) = τ → va_P D classes (rw_ 19 ad (cfM ad cy) τ) H → va_S A_ s_.heap H locs → lv_has ls 4 [(3, .int x3), (2, .int (R_X9_nightsRefused σ (nI jv))), (0, .ref (ad 0)), (1, .int (nI jv))] → W p_ l e_ ({ frames := 4, cells := 0, slots := 0, locals := 96 }) s_ m_ args_ bl_ mt_ c_ H locs 0 0 Q_ (F0 m_ 18 ls []) := by
      intro fu18
      induction fu18 with
      | zero => intro i hi hf; exact absurd hf (Nat.not_lt_zero _)
      | succ fu18 ih18 =>
        intro i hi hf18 x3 τ H locs ls ex3 eτ hP hS hl
        subst ex3
        subst eτ
        refine lv_iload_n hx hb dX9_drift_18 rfl (lv_at hl 0 rfl) ?_
        refine lv_iload_n hx hb dX9_drift_19 rfl (lv_at hl 3 rfl) ?_
        refine lv_icmp_ge (tgt := 37) hx hb dX9_drift_20 (by decide) (fun c20 => ?_) (fun c20 => ?_)
        · skip
          have ei := cl_ex hi (by omega) c20
          refine lv_aload_n hx hb dX9_drift_37 rfl (lv_at hl 2 rfl) ?_
          refine rp_get (C := RX9) (T := TX9) (N := 38) hx hb hts in_X9_drift_X9 hown hK hP 0 (by decide) (kX9 _) rfl 11 (by decide) (by decide +kernel) rfl dX9_drift_38 ?_
          refine lv_bipush (v := 12) hx hb dX9_drift_41 (by decide) ?_
          refine rp_iald hx hb hK hP 6 (by decide) (kX9_11 _) 0 rfl 12 rfl (by decide) (by decide) dX9_drift_43 ?_
          rw [show (va_up (up2 (remT σ u) 0 12 (nI (drN (σ 1) (σ 2) (σ 3) (σ 0 2) n k i sd (σ 6)).1)) 6 ((drN (σ 1) (σ 2) (σ 3) (σ 0 2) n k i sd (σ 6)).2)) 6 12 = (((drN (σ 1) (σ 2) (σ 3) (σ 0 2) n k i sd (σ 6)).2) 12) from va_S']
          exact hret hP hS dX9_drift_44 rfl ⟨(by unfold R_X9_drift <;> (try rw [nI_clamp (n := jv) (by omega)]) <;> rw [if_pos c7] <;> first | with_reducible rfl | (rw [ei]) | (rw [nI_clamp (by omega), ei])), (by unfold T_X9_drift <;> (try rw [nI_clamp (n := jv) (by omega)]) <;> rw [if_pos c7] <;> first | with_reducible rfl | (rw [ei]) | (rw [nI_clamp (by omega), ei]))⟩
        · skip
          have hi2 := cl_in (by omega) (by omega) c20
          refine lv_aload_n hx hb dX9_drift_23 rfl (lv_at hl 2 rfl) ?_
          refine rp_callVV (na := 0) hx hb hml hown hts hK hA hD hP hS hl.1 0 (by decide) (kX9 _) rfl [] (c_X9_chance l D cy ad (va_up (up2 (remT σ u) 0 12 (nI (drN (σ 1) (σ 2) (σ 3) (σ 0 2) n k i sd (σ 6)).1)) 6 ((drN (σ 1) (σ 2) (σ 3) (σ 0 2) n k i sd (σ 6)).2)) (σ 1) (σ 2) (σ 3) ((drN (σ 1) (σ 2) (σ 3) (σ 0 2) n k i sd (σ 6)).2) n k ((drN (σ 1) (σ 2) (σ 3) (σ 0 2) n k i sd (σ 6)).1) ((va_Q (by decide)).trans ((up2_Q (by decide)).trans (remT_r _ _ (by decide) (by decide)))) ((va_Q (by decide)).trans ((up2_Q (by decide)).trans (remT_r _ _ (by decide) (by decide)))) ((va_Q (by decide)).trans ((up2_Q (by decide)).trans (remT_r _ _ (by decide) (by decide)))) va_Qs (by first | assumption | omega) ((va_R (by decide)).trans ((up2_K (by decide)).trans ((remT_0 _ _ (by decide)).trans en))) (by first | assumption | omega) ((va_R (by decide)).trans ((up2_K (by decide)).trans ((remT_0 _ _ (by decide)).trans ek))) (drN_lt _ _ _ rfl hsd) ((va_R (by decide)).trans up2_S)) gX9_drift_X9_chance rfl (by decide +kernel) rfl ⟨Nat.le_of_ble_eq_true rfl, Nat.le_of_ble_eq_true rfl⟩ ⟨rfl, rfl⟩ ⟨Nat.zero_le _, Nat.zero_le _⟩ rfl (Nat.le_of_ble_eq_true rfl) dX9_drift_24 (fun τ_ H locs hq hP hS => ?_)
          subst hq
          refine lv_aload_n hx hb dX9_drift_27 rfl (lv_at hl 2 rfl) ?_
          refine rp_callVV (na := 0) hx hb hml hown hts hK hA hD hP hS hl.1 0 (by decide) (kX9 _) rfl [] (c_X9_pass l D cy ad (va_up (up2 (va_up (up2 (remT σ u) 0 12 (nI (drN (σ 1) (σ 2) (σ 3) (σ 0 2) n k i sd (σ 6)).1)) 6 ((drN (σ 1) (σ 2) (σ 3) (σ 0 2) n k i sd (σ 6)).2)) 0 12 (nI (chA (σ 1) (σ 2) (σ 3) n k ((drN (σ 1) (σ 2) (σ 3) (σ 0 2) n k i sd (σ 6)).1) ((drN (σ 1) (σ 2) (σ 3) (σ 0 2) n k i sd (σ 6)).2)).1)) 6 ((chA (σ 1) (σ 2) (σ 3) n k ((drN (σ 1) (σ 2) (σ 3) (σ 0 2) n k i sd (σ 6)).1) ((drN (σ 1) (σ 2) (σ 3) (σ 0 2) n k i sd (σ 6)).2)).2)) ((chA (σ 1) (σ 2) (σ 3) n k ((drN (σ 1) (σ 2) (σ 3) (σ 0 2) n k i sd (σ 6)).1) ((drN (σ 1) (σ 2) (σ 3) (σ 0 2) n k i sd (σ 6)).2)).2) (σ 0 2) va_Qs (((va_R (by decide)).trans ((up2_K (by decide)).trans ((va_R (by decide)).trans (up2_K (by decide))))).trans (remT_0 _ _ (by decide)))) gX9_drift_X9_pass rfl (by decide +kernel) rfl ⟨Nat.le_of_ble_eq_true rfl, Nat.le_of_ble_eq_true rfl⟩ ⟨rfl, rfl⟩ ⟨Nat.zero_le _, Nat.zero_le _⟩ rfl (Nat.le_of_ble_eq_true rfl) dX9_drift_28 (fun τ_ H locs hq hP hS => ?_)
          subst hq
          refine lv_iinc (v := ((nI i) + 1)) (lv' := [(3, .int ((nI i) + 1)), (2, .int (R_X9_nightsRefused σ (nI jv))), (0, .ref (ad 0)), (1, .int (nI jv))]) hx hb dX9_drift_31 hl (k := 0) rfl rfl (by decide) rfl (fun ls hl => ?_)
          refine lv_goto (tgt := 18) hx hb dX9_drift_34 (by decide) ?_
          exact ih18 (i + 1) (by omega) (by omega) _ _ _ _ _ ((nI_1 i).symm) (by rw [drN_s1, drN_s2]; exact dr_st _ _ _ _ _ _) hP hS (lv_sub hl [0, 1, 2, 3] rfl)
    exact L18 ((jv - 0) + 1) 0 (Nat.zero_le _) (Nat.lt_succ_self _) _ _ _ _ _ (by first | rfl | simp [*]) (by rw [drN_0, fst_, snd_, up2_self _ _ _ ((remT_0 _ _ (by decide)).trans esd)]; exact va_selfR _ _ (remT_r _ _ (by decide) (by decide))) hP hS (lv_sub hl [0, 1, 2, 3] rfl)
  · skip
    refine lv_iload_n hx hb dX9_drift_10 rfl (lv_at hl 0 rfl) ?_
    exact hret hP hS dX9_drift_11 rfl ⟨(by unfold R_X9_drift <;> rw [if_neg c7] <;> first | with_reducible rfl | (rw [nI_clamp (by omega), ei])), (by unfold T_X9_drift <;> rw [if_neg c7] <;> first | with_reducible rfl | (rw [nI_clamp (by omega), ei]))⟩
