def R_X9_state (σ : Nat → Nat → Int32) (n : Nat) (v : Int32) (w : Int32) (x : Int32) : Int32 := (if (0 ≤ v ∧ ¬ nI (2 ^ n) ≤ v) then (if (0 ≤ w ∧ ¬ nI (2 ^ n) ≤ w) then (if (0 ≤ x ∧ x ≤ 1) then (if ((minN 1000000 (stC (σ 3) (σ 5) (σ 6) (R_X9_free σ) n v w) (2 ^ n)).1) < 0 then ((minN 1000000 (stC (σ 3) (σ 5) (σ 6) (R_X9_free σ) n v w) (2 ^ n)).1) else (if x = 1 then ((minN 1000000 (stC (σ 3) (σ 5) (σ 6) (R_X9_free σ) n v w) (2 ^ n)).1) else ((minN 1000000 (stC (σ 3) (σ 5) (σ 6) (R_X9_free σ) n v w) (2 ^ n)).2))) else (-1000000002)) else (-1000000001)) else (-1000000001))
theorem in_X9_state_X9 : ∀ w ∈ u_ws RX9 TX9 38, w ∈ wsX9_state := by decide +kernel
set_option maxHeartbeats 1000000 in
set_option maxRecDepth 100000 in
theorem c_X9_state (l : Launch) (D : va_G) (cy : Nat → ClassId) (ad : Nat → Nat) (σ : Nat → Nat → Int32) (n : Nat) (v : Int32) (w : Int32) (x : Int32) (hn : n ≤ 10) (en : σ 0 5 = nI n) : MI l D (tysW cy) 19 ad (cfM ad cy) yX9_state wsX9_state ({ frames := 2, cells := 0, slots := 0, locals := 46 }) σ [.ref (ad 0), .int v, .int w, .int x] (fun v_ τ_ => (R_X9_state σ n v w x) = v_ ∧ σ = τ_) := by
  refine MI.go (cc := cX9_state) (maxL := 10) .int (by decide) rfl (Nat.le_of_ble_eq_true rfl) ?_
  intro p_ e_ s_ m_ args_ bl_ mt_ c_ A_ Q_ ls hx hb hml hown hts hK hA hD hP hS hl hret
  have hl : lv_has ls 10 [(0, .ref (ad 0)), (1, .int v), (2, .int w), (3, .int x)] := hl
  have hp := pow_le hn
  refine lv_aload_n hx hb dX9_state_0 rfl (lv_at hl 0 rfl) ?_
  refine lv_iload_n hx hb dX9_state_1 rfl (lv_at hl 1 rfl) ?_
  refine rp_callVI (na := 1) hx hb hml hown hts hK hA hD hP hS hl.1 0 (by decide) (kX9 _) rfl [.int v] (c_X9_isSet l D cy ad σ n v (by first | assumption | omega) (by first | assumption | rfl)) gX9_state_X9_isSet rfl (by decide +kernel) rfl ⟨Nat.le_of_ble_eq_true rfl, Nat.le_of_ble_eq_true rfl⟩ ⟨rfl, rfl⟩ ⟨Nat.zero_le _, Nat.zero_le _⟩ rfl (Nat.le_of_ble_eq_true rfl) dX9_state_2 (fun v_ τ_ H locs hq hP hS => ?_)
  obtain ⟨rfl, rfl⟩ := hq
  refine lv_if_eq (tgt := 16) hx hb dX9_state_5 (by decide) (fun c5 => ?_) (fun c5 => ?_)
  · skip
    have c5 := bi_eq0.mp c5
    refine lv_ldc (v := (-1000000001)) hx hb hown (hts (.constant RX9 206 (-1000000001)) (by decide +kernel)) dX9_state_16 ?_
    exact hret hP hS dX9_state_18 rfl ⟨(by unfold R_X9_state <;> rw [if_neg c5] <;> first | with_reducible rfl), rfl⟩
  · skip
    have c5 := bi_ne0.mp c5
    refine lv_aload_n hx hb dX9_state_8 rfl (lv_at hl 0 rfl) ?_
    refine lv_iload_n hx hb dX9_state_9 rfl (lv_at hl 2 rfl) ?_
    refine rp_callVI (na := 1) hx hb hml hown hts hK hA hD hP hS hl.1 0 (by decide) (kX9 _) rfl [.int w] (c_X9_isSet l D cy ad σ n w (by first | assumption | omega) (by first | assumption | rfl)) gX9_state_X9_isSet rfl (by decide +kernel) rfl ⟨Nat.le_of_ble_eq_true rfl, Nat.le_of_ble_eq_true rfl⟩ ⟨rfl, rfl⟩ ⟨Nat.zero_le _, Nat.zero_le _⟩ rfl (Nat.le_of_ble_eq_true rfl) dX9_state_10 (fun v_ τ_ H locs hq hP hS => ?_)
    obtain ⟨rfl, rfl⟩ := hq
    refine lv_if_ne (tgt := 19) hx hb dX9_state_13 (by decide) (fun c13 => ?_) (fun c13 => ?_)
    · skip
      have c13 := bi_ne0.mp c13
      refine lv_iload_n hx hb dX9_state_19 rfl (lv_at hl 3 rfl) ?_
      refine lv_i2l (v := (x).toInt64) hx hb dX9_state_20 rfl ?_
      refine lv_lconst (v := 0) hx hb dX9_state_21 (by decide) ?_
      refine lv_lconst (v := 1) hx hb dX9_state_22 (by decide) ?_
      refine rp_callSI (na := 3) hx hb hml hown hts hK hA hD hP hS hl.1 [.long (x).toInt64, .long 0, .long 1] (c_X9_in l D cy ad σ ((x).toInt64) 0 1 ) gX9_state_X9_in rfl (by decide +kernel) rfl ⟨Nat.le_of_ble_eq_true rfl, Nat.le_of_ble_eq_true rfl⟩ ⟨rfl, rfl⟩ ⟨Nat.zero_le _, Nat.zero_le _⟩ rfl (Nat.le_of_ble_eq_true rfl) dX9_state_23 (fun v_ τ_ H locs hq hP hS => ?_)
      obtain ⟨rfl, rfl⟩ := hq
      rw [in_0_1]
      refine lv_if_ne (tgt := 32) hx hb dX9_state_26 (by decide) (fun c26 => ?_) (fun c26 => ?_)
      · skip
        have c26 := bi_ne0.mp c26
        refine lv_iconst (v := (-1)) hx hb dX9_state_32 (by decide) ?_
        refine lv_istore (lv' := [(4, .int (-1)), (0, .ref (ad 0)), (1, .int v), (2, .int w), (3, .int x)]) hx hb dX9_state_33 hl (by decide) rfl (fun ls hl => ?_)
        refine lv_ldcw (v := 1000000) hx hb hown (hts (.constant RX9 278 (1000000)) (by decide +kernel)) dX9_state_35 ?_
        refine lv_istore (lv' := [(5, .int 1000000), (4, .int (-1)), (0, .ref (ad 0)), (1, .int v), (2, .int w), (3, .int x)]) hx hb dX9_state_38 hl (by decide) rfl (fun ls hl => ?_)
        refine lv_iconst (v := 0) hx hb dX9_state_40 (by decide) ?_
        refine lv_istore (lv' := [(6, .int 0), (5, .int 1000000), (4, .int (-1)), (0, .ref (ad 0)), (1, .int v), (2, .int w), (3, .int x)]) hx hb dX9_state_41 hl (by decide) rfl (fun ls hl => ?_)
        have L43 : ∀ (fu43 : Nat) (i : Nat), (i ≤ 2 ^ n) → 2 ^ n - i < fu43 → ∀ (x6 : Int32) (x5 : Int32) (x4 : Int32) (τ : Nat → Nat → Int32) (H : Heap) (locs : List Loc) (ls : Array Slot), (nI i) = x6 → ((minN 1000000 (stC (σ 3) (σ 5) (σ 6) (R_X9_free σ) n v w) i).2) = x5 → ((minN 1000000 (stC (σ 3) (σ 5) (σ 6) (R_X9_free σ) n v w) i).1) = x4 → σ = τ → va_P D classes (rw_ 19 ad (cfM ad cy) τ) H → va_S A_ s_.heap H locs → lv_has ls 10 [(6, .int x6), (5, .int x5), (4, .int x4), (0, .ref (ad 0)), (1, .int v), (2, .int w), (3, .int x)] → W p_ l e_ ({ frames := 2, cells := 0, slots := 0, locals := 46 }) s_ m_ args_ bl_ mt_ c_ H locs 0 0 Q_ (F0 m_ 43 ls []) := by
          intro fu43
          induction fu43 with
          | zero => intro i hi hf; exact absurd hf (Nat.not_lt_zero _)
          | succ fu43 ih43 =>
            intro i hi hf43 x6 x5 x4 τ H locs ls ex6 ex5 ex4 eτ hP hS hl
            subst ex6
            subst ex5
            subst ex4
            subst eτ
            refine lv_iload hx hb dX9_state_43 (lv_at hl 0 rfl) ?_
            refine lv_iconst (v := 1) hx hb dX9_state_45 (by decide) ?_
            refine lv_aload_n hx hb dX9_state_46 rfl (lv_at hl 3 rfl) ?_
            refine rp_get (C := RX9) (T := TX9) (N := 38) hx hb hts in_X9_state_X9 hown hK hP 0 (by decide) (kX9 _) rfl 5 (by decide) (by decide +kernel) rfl dX9_state_47 ?_
            rw [en]
            refine lv_ishl hx hb dX9_state_50 ?_
            rw [shl1 hn]
            refine lv_icmp_ge (tgt := 162) hx hb dX9_state_51 (by decide) (fun c51 => ?_) (fun c51 => ?_)
            · skip
              have ei := cl_ex hi (by omega) c51
              refine lv_iload hx hb dX9_state_162 (lv_at hl 2 rfl) ?_
              refine lv_if_lt (tgt := 172) hx hb dX9_state_164 (by decide) (fun c164 => ?_) (fun c164 => ?_)
              · skip
                rw [ei] at c164
                refine lv_iload hx hb dX9_state_172 (lv_at hl 2 rfl) ?_
                refine lv_goto (tgt := 179) hx hb dX9_state_174 (by decide) ?_
                exact hret hP hS dX9_state_179 rfl ⟨(by unfold R_X9_state <;> rw [if_pos c5, if_pos c13, if_pos c26, if_pos c164] <;> first | with_reducible rfl | (rw [ei])), rfl⟩
              · skip
                rw [ei] at c164
                refine lv_iload_n hx hb dX9_state_167 rfl (lv_at hl 6 rfl) ?_
                refine lv_iconst (v := 1) hx hb dX9_state_168 (by decide) ?_
                refine lv_icmp_ne (tgt := 177) hx hb dX9_state_169 (by decide) (fun c169 => ?_) (fun c169 => ?_)
                · skip
                  refine lv_iload hx hb dX9_state_177 (lv_at hl 1 rfl) ?_
                  exact hret hP hS dX9_state_179 rfl ⟨(by unfold R_X9_state <;> rw [if_pos c5, if_pos c13, if_pos c26, if_neg c164, if_neg c169] <;> first | with_reducible rfl | (rw [ei])), rfl⟩
                · skip
                  refine lv_iload hx hb dX9_state_172 (lv_at hl 2 rfl) ?_
                  refine lv_goto (tgt := 179) hx hb dX9_state_174 (by decide) ?_
                  exact hret hP hS dX9_state_179 rfl ⟨(by unfold R_X9_state <;> rw [if_pos c5, if_pos c13, if_pos c26, if_neg c164, if_pos c169] <;> first | with_reducible rfl | (rw [ei])), rfl⟩
            · skip
              have hi2 := cl_in (by omega) (by omega) c51
              refine lv_aload_n hx hb dX9_state_54 rfl (lv_at hl 3 rfl) ?_
              refine lv_aload_n hx hb dX9_state_55 rfl (lv_at hl 3 rfl) ?_
              refine rp_get (C := RX9) (T := TX9) (N := 38) hx hb hts in_X9_state_X9 hown hK hP 0 (by decide) (kX9 _) rfl 11 (by decide) (by decide +kernel) rfl dX9_state_56 ?_
              refine lv_bipush (v := 10) hx hb dX9_state_59 (by decide) ?_
              refine rp_iald hx hb hK hP 6 (by decide) (kX9_11 _) 0 rfl 10 rfl (by decide) (by decide) dX9_state_61 ?_
              refine lv_iload hx hb dX9_state_62 (lv_at hl 0 rfl) ?_
              refine lv_ior hx hb dX9_state_64 ?_
              refine rp_callVI (na := 1) hx hb hml hown hts hK hA hD hP hS hl.1 0 (by decide) (kX9 _) rfl [.int ((σ 6 10) ||| (nI i))] (c_X9_holdsBut l D cy ad σ n ((σ 6 10) ||| (nI i)) (by first | assumption | omega) (by first | assumption | rfl)) gX9_state_X9_holdsBut rfl (by decide +kernel) rfl ⟨Nat.le_of_ble_eq_true rfl, Nat.le_of_ble_eq_true rfl⟩ ⟨rfl, rfl⟩ ⟨Nat.zero_le _, Nat.zero_le _⟩ rfl (Nat.le_of_ble_eq_true rfl) dX9_state_65 (fun v_ τ_ H locs hq hP hS => ?_)
              obtain ⟨rfl, rfl⟩ := hq
              refine lv_istore (lv' := [(7, .int (holdN (σ 5) ((σ 6 10) ||| (nI i)) n)), (6, .int (nI i)), (5, .int ((minN 1000000 (stC (σ 3) (σ 5) (σ 6) (R_X9_free σ) n v w) i).2)), (4, .int ((minN 1000000 (stC (σ 3) (σ 5) (σ 6) (R_X9_free σ) n v w) i).1)), (0, .ref (ad 0)), (1, .int v), (2, .int w), (3, .int x)]) hx hb dX9_state_68 hl (by decide) rfl (fun ls hl => ?_)
              refine lv_iload hx hb dX9_state_70 (lv_at hl 1 rfl) ?_
              refine lv_aload_n hx hb dX9_state_72 rfl (lv_at hl 4 rfl) ?_
              refine rp_callVI (na := 0) hx hb hml hown hts hK hA hD hP hS hl.1 0 (by decide) (kX9 _) rfl [] (c_X9_free l D cy ad σ  ) gX9_state_X9_free rfl (by decide +kernel) rfl ⟨Nat.le_of_ble_eq_true rfl, Nat.le_of_ble_eq_true rfl⟩ ⟨rfl, rfl⟩ ⟨Nat.zero_le _, Nat.zero_le _⟩ rfl (Nat.le_of_ble_eq_true rfl) dX9_state_73 (fun v_ τ_ H locs hq hP hS => ?_)
              obtain ⟨rfl, rfl⟩ := hq
              refine lv_iconst (v := (-1)) hx hb dX9_state_76 (by decide) ?_
              refine lv_ixor hx hb dX9_state_77 ?_
              refine lv_iand hx hb dX9_state_78 ?_
              refine lv_if_ne (tgt := 102) hx hb dX9_state_79 (by decide) (fun c79 => ?_) (fun c79 => ?_)
              · skip
                refine lv_iconst (v := 0) hx hb dX9_state_102 (by decide) ?_
                refine lv_istore (lv' := [(8, .int 0), (7, .int (holdN (σ 5) ((σ 6 10) ||| (nI i)) n)), (6, .int (nI i)), (5, .int ((minN 1000000 (stC (σ 3) (σ 5) (σ 6) (R_X9_free σ) n v w) i).2)), (4, .int ((minN 1000000 (stC (σ 3) (σ 5) (σ 6) (R_X9_free σ) n v w) i).1)), (0, .ref (ad 0)), (1, .int v), (2, .int w), (3, .int x)]) hx hb dX9_state_103 hl (by decide) rfl (fun ls hl => ?_)
                refine lv_iload hx hb dX9_state_105 (lv_at hl 0 rfl) ?_
                refine lv_if_eq (tgt := 119) hx hb dX9_state_107 (by decide) (fun c107 => ?_) (fun c107 => ?_)
                · skip
                  refine lv_ldcw (v := 1000000) hx hb hown (hts (.constant RX9 278 (1000000)) (by decide +kernel)) dX9_state_119 ?_
                  refine lv_istore (lv' := [(9, .int 1000000), (8, .int 0), (7, .int (holdN (σ 5) ((σ 6 10) ||| (nI i)) n)), (6, .int (nI i)), (5, .int ((minN 1000000 (stC (σ 3) (σ 5) (σ 6) (R_X9_free σ) n v w) i).2)), (4, .int ((minN 1000000 (stC (σ 3) (σ 5) (σ 6) (R_X9_free σ) n v w) i).1)), (0, .ref (ad 0)), (1, .int v), (2, .int w), (3, .int x)]) hx hb dX9_state_122 hl (by decide) rfl (fun ls hl => ?_)
                  refine lv_iload hx hb dX9_state_124 (lv_at hl 0 rfl) ?_
                  refine lv_iload hx hb dX9_state_126 (lv_at hl 4 rfl) ?_
                  refine lv_icmp_ge (tgt := 136) hx hb dX9_state_128 (by decide) (fun c128 => ?_) (fun c128 => ?_)
                  · skip
                    refine lv_iload hx hb dX9_state_136 (lv_at hl 5 rfl) ?_
                    refine lv_istore (lv' := [(4, .int ((minN 1000000 (stC (σ 3) (σ 5) (σ 6) (R_X9_free σ) n v w) i).1)), (9, .int 1000000), (8, .int 0), (7, .int (holdN (σ 5) ((σ 6 10) ||| (nI i)) n)), (6, .int (nI i)), (5, .int ((minN 1000000 (stC (σ 3) (σ 5) (σ 6) (R_X9_free σ) n v w) i).2)), (0, .ref (ad 0)), (1, .int v), (2, .int w), (3, .int x)]) hx hb dX9_state_138 hl (by decide) rfl (fun ls hl => ?_)
                    refine lv_iload hx hb dX9_state_140 (lv_at hl 1 rfl) ?_
                    refine lv_iload hx hb dX9_state_142 (lv_at hl 5 rfl) ?_
                    refine lv_icmp_ge (tgt := 152) hx hb dX9_state_144 (by decide) (fun c144 => ?_) (fun c144 => ?_)
                    · skip
                      refine lv_iload hx hb dX9_state_152 (lv_at hl 5 rfl) ?_
                      refine lv_istore (lv' := [(5, .int ((minN 1000000 (stC (σ 3) (σ 5) (σ 6) (R_X9_free σ) n v w) i).2)), (4, .int ((minN 1000000 (stC (σ 3) (σ 5) (σ 6) (R_X9_free σ) n v w) i).1)), (9, .int 1000000), (8, .int 0), (7, .int (holdN (σ 5) ((σ 6 10) ||| (nI i)) n)), (6, .int (nI i)), (0, .ref (ad 0)), (1, .int v), (2, .int w), (3, .int x)]) hx hb dX9_state_154 hl (by decide) rfl (fun ls hl => ?_)
                      refine lv_iinc (v := ((nI i) + 1)) (lv' := [(6, .int ((nI i) + 1)), (5, .int ((minN 1000000 (stC (σ 3) (σ 5) (σ 6) (R_X9_free σ) n v w) i).2)), (4, .int ((minN 1000000 (stC (σ 3) (σ 5) (σ 6) (R_X9_free σ) n v w) i).1)), (9, .int 1000000), (8, .int 0), (7, .int (holdN (σ 5) ((σ 6 10) ||| (nI i)) n)), (0, .ref (ad 0)), (1, .int v), (2, .int w), (3, .int x)]) hx hb dX9_state_156 hl (k := 5) rfl rfl (by decide) rfl (fun ls hl => ?_)
                      refine lv_goto (tgt := 43) hx hb dX9_state_159 (by decide) ?_
                      exact ih43 (i + 1) (by omega) (by omega) _ _ _ _ _ _ _ ((nI_1 i).symm) (minN_f2 (cost := (stC (σ 3) (σ 5) (σ 6) (R_X9_free σ) n v w)) (if_neg (fun q => c79 q.1)) c128) (minN_f1 (cost := (stC (σ 3) (σ 5) (σ 6) (R_X9_free σ) n v w)) (if_neg (fun q => c79 q.1)) c128) rfl hP hS (lv_sub hl [0, 1, 2, 6, 7, 8, 9] rfl)
                    · skip
                      exact absurd c128 c144
                  · skip
                    refine lv_iload hx hb dX9_state_131 (lv_at hl 3 rfl) ?_
                    refine lv_goto (tgt := 138) hx hb dX9_state_133 (by decide) ?_
                    refine lv_istore (lv' := [(4, .int (nI i)), (9, .int 1000000), (8, .int 0), (7, .int (holdN (σ 5) ((σ 6 10) ||| (nI i)) n)), (6, .int (nI i)), (5, .int ((minN 1000000 (stC (σ 3) (σ 5) (σ 6) (R_X9_free σ) n v w) i).2)), (0, .ref (ad 0)), (1, .int v), (2, .int w), (3, .int x)]) hx hb dX9_state_138 hl (by decide) rfl (fun ls hl => ?_)
                    refine lv_iload hx hb dX9_state_140 (lv_at hl 1 rfl) ?_
                    refine lv_iload hx hb dX9_state_142 (lv_at hl 5 rfl) ?_
                    refine lv_icmp_ge (tgt := 152) hx hb dX9_state_144 (by decide) (fun c144 => ?_) (fun c144 => ?_)
                    · skip
                      exact absurd c144 c128
                    · skip
                      refine lv_iload hx hb dX9_state_147 (lv_at hl 1 rfl) ?_
                      refine lv_goto (tgt := 154) hx hb dX9_state_149 (by decide) ?_
                      refine lv_istore (lv' := [(5, .int 1000000), (4, .int (nI i)), (9, .int 1000000), (8, .int 0), (7, .int (holdN (σ 5) ((σ 6 10) ||| (nI i)) n)), (6, .int (nI i)), (0, .ref (ad 0)), (1, .int v), (2, .int w), (3, .int x)]) hx hb dX9_state_154 hl (by decide) rfl (fun ls hl => ?_)
                      refine lv_iinc (v := ((nI i) + 1)) (lv' := [(6, .int ((nI i) + 1)), (5, .int 1000000), (4, .int (nI i)), (9, .int 1000000), (8, .int 0), (7, .int (holdN (σ 5) ((σ 6 10) ||| (nI i)) n)), (0, .ref (ad 0)), (1, .int v), (2, .int w), (3, .int x)]) hx hb dX9_state_156 hl (k := 5) rfl rfl (by decide) rfl (fun ls hl => ?_)
                      refine lv_goto (tgt := 43) hx hb dX9_state_159 (by decide) ?_
                      exact ih43 (i + 1) (by omega) (by omega) _ _ _ _ _ _ _ ((nI_1 i).symm) (minN_t2 (cost := (stC (σ 3) (σ 5) (σ 6) (R_X9_free σ) n v w)) (if_neg (fun q => c79 q.1)) c128) (minN_t1 (cost := (stC (σ 3) (σ 5) (σ 6) (R_X9_free σ) n v w)) (if_neg (fun q => c79 q.1)) c128) rfl hP hS (lv_sub hl [0, 1, 2, 6, 7, 8, 9] rfl)
                · skip
                  exact absurd (by decide) c107
              · skip
                refine lv_iload_n hx hb dX9_state_82 rfl (lv_at hl 5 rfl) ?_
                refine lv_iload hx hb dX9_state_83 (lv_at hl 0 rfl) ?_
                refine lv_iconst (v := (-1)) hx hb dX9_state_85 (by decide) ?_
                refine lv_ixor hx hb dX9_state_86 ?_
                refine lv_iand hx hb dX9_state_87 ?_
                refine lv_if_ne (tgt := 102) hx hb dX9_state_88 (by decide) (fun c88 => ?_) (fun c88 => ?_)
                · skip
                  refine lv_iconst (v := 0) hx hb dX9_state_102 (by decide) ?_
                  refine lv_istore (lv' := [(8, .int 0), (7, .int (holdN (σ 5) ((σ 6 10) ||| (nI i)) n)), (6, .int (nI i)), (5, .int ((minN 1000000 (stC (σ 3) (σ 5) (σ 6) (R_X9_free σ) n v w) i).2)), (4, .int ((minN 1000000 (stC (σ 3) (σ 5) (σ 6) (R_X9_free σ) n v w) i).1)), (0, .ref (ad 0)), (1, .int v), (2, .int w), (3, .int x)]) hx hb dX9_state_103 hl (by decide) rfl (fun ls hl => ?_)
                  refine lv_iload hx hb dX9_state_105 (lv_at hl 0 rfl) ?_
                  refine lv_if_eq (tgt := 119) hx hb dX9_state_107 (by decide) (fun c107 => ?_) (fun c107 => ?_)
                  · skip
                    refine lv_ldcw (v := 1000000) hx hb hown (hts (.constant RX9 278 (1000000)) (by decide +kernel)) dX9_state_119 ?_
                    refine lv_istore (lv' := [(9, .int 1000000), (8, .int 0), (7, .int (holdN (σ 5) ((σ 6 10) ||| (nI i)) n)), (6, .int (nI i)), (5, .int ((minN 1000000 (stC (σ 3) (σ 5) (σ 6) (R_X9_free σ) n v w) i).2)), (4, .int ((minN 1000000 (stC (σ 3) (σ 5) (σ 6) (R_X9_free σ) n v w) i).1)), (0, .ref (ad 0)), (1, .int v), (2, .int w), (3, .int x)]) hx hb dX9_state_122 hl (by decide) rfl (fun ls hl => ?_)
                    refine lv_iload hx hb dX9_state_124 (lv_at hl 0 rfl) ?_
                    refine lv_iload hx hb dX9_state_126 (lv_at hl 4 rfl) ?_
                    refine lv_icmp_ge (tgt := 136) hx hb dX9_state_128 (by decide) (fun c128 => ?_) (fun c128 => ?_)
                    · skip
                      refine lv_iload hx hb dX9_state_136 (lv_at hl 5 rfl) ?_
                      refine lv_istore (lv' := [(4, .int ((minN 1000000 (stC (σ 3) (σ 5) (σ 6) (R_X9_free σ) n v w) i).1)), (9, .int 1000000), (8, .int 0), (7, .int (holdN (σ 5) ((σ 6 10) ||| (nI i)) n)), (6, .int (nI i)), (5, .int ((minN 1000000 (stC (σ 3) (σ 5) (σ 6) (R_X9_free σ) n v w) i).2)), (0, .ref (ad 0)), (1, .int v), (2, .int w), (3, .int x)]) hx hb dX9_state_138 hl (by decide) rfl (fun ls hl => ?_)
                      refine lv_iload hx hb dX9_state_140 (lv_at hl 1 rfl) ?_
                      refine lv_iload hx hb dX9_state_142 (lv_at hl 5 rfl) ?_
                      refine lv_icmp_ge (tgt := 152) hx hb dX9_state_144 (by decide) (fun c144 => ?_) (fun c144 => ?_)
                      · skip
                        refine lv_iload hx hb dX9_state_152 (lv_at hl 5 rfl) ?_
                        refine lv_istore (lv' := [(5, .int ((minN 1000000 (stC (σ 3) (σ 5) (σ 6) (R_X9_free σ) n v w) i).2)), (4, .int ((minN 1000000 (stC (σ 3) (σ 5) (σ 6) (R_X9_free σ) n v w) i).1)), (9, .int 1000000), (8, .int 0), (7, .int (holdN (σ 5) ((σ 6 10) ||| (nI i)) n)), (6, .int (nI i)), (0, .ref (ad 0)), (1, .int v), (2, .int w), (3, .int x)]) hx hb dX9_state_154 hl (by decide) rfl (fun ls hl => ?_)
                        refine lv_iinc (v := ((nI i) + 1)) (lv' := [(6, .int ((nI i) + 1)), (5, .int ((minN 1000000 (stC (σ 3) (σ 5) (σ 6) (R_X9_free σ) n v w) i).2)), (4, .int ((minN 1000000 (stC (σ 3) (σ 5) (σ 6) (R_X9_free σ) n v w) i).1)), (9, .int 1000000), (8, .int 0), (7, .int (holdN (σ 5) ((σ 6 10) ||| (nI i)) n)), (0, .ref (ad 0)), (1, .int v), (2, .int w), (3, .int x)]) hx hb dX9_state_156 hl (k := 5) rfl rfl (by decide) rfl (fun ls hl => ?_)
                        refine lv_goto (tgt := 43) hx hb dX9_state_159 (by decide) ?_
                        exact ih43 (i + 1) (by omega) (by omega) _ _ _ _ _ _ _ ((nI_1 i).symm) (minN_f2 (cost := (stC (σ 3) (σ 5) (σ 6) (R_X9_free σ) n v w)) (if_neg (fun q => c88 q.2.1)) c128) (minN_f1 (cost := (stC (σ 3) (σ 5) (σ 6) (R_X9_free σ) n v w)) (if_neg (fun q => c88 q.2.1)) c128) rfl hP hS (lv_sub hl [0, 1, 2, 6, 7, 8, 9] rfl)
                      · skip
                        exact absurd c128 c144
                    · skip
                      refine lv_iload hx hb dX9_state_131 (lv_at hl 3 rfl) ?_
                      refine lv_goto (tgt := 138) hx hb dX9_state_133 (by decide) ?_
                      refine lv_istore (lv' := [(4, .int (nI i)), (9, .int 1000000), (8, .int 0), (7, .int (holdN (σ 5) ((σ 6 10) ||| (nI i)) n)), (6, .int (nI i)), (5, .int ((minN 1000000 (stC (σ 3) (σ 5) (σ 6) (R_X9_free σ) n v w) i).2)), (0, .ref (ad 0)), (1, .int v), (2, .int w), (3, .int x)]) hx hb dX9_state_138 hl (by decide) rfl (fun ls hl => ?_)
                      refine lv_iload hx hb dX9_state_140 (lv_at hl 1 rfl) ?_
                      refine lv_iload hx hb dX9_state_142 (lv_at hl 5 rfl) ?_
                      refine lv_icmp_ge (tgt := 152) hx hb dX9_state_144 (by decide) (fun c144 => ?_) (fun c144 => ?_)
                      · skip
                        exact absurd c144 c128
                      · skip
                        refine lv_iload hx hb dX9_state_147 (lv_at hl 1 rfl) ?_
                        refine lv_goto (tgt := 154) hx hb dX9_state_149 (by decide) ?_
                        refine lv_istore (lv' := [(5, .int 1000000), (4, .int (nI i)), (9, .int 1000000), (8, .int 0), (7, .int (holdN (σ 5) ((σ 6 10) ||| (nI i)) n)), (6, .int (nI i)), (0, .ref (ad 0)), (1, .int v), (2, .int w), (3, .int x)]) hx hb dX9_state_154 hl (by decide) rfl (fun ls hl => ?_)
                        refine lv_iinc (v := ((nI i) + 1)) (lv' := [(6, .int ((nI i) + 1)), (5, .int 1000000), (4, .int (nI i)), (9, .int 1000000), (8, .int 0), (7, .int (holdN (σ 5) ((σ 6 10) ||| (nI i)) n)), (0, .ref (ad 0)), (1, .int v), (2, .int w), (3, .int x)]) hx hb dX9_state_156 hl (k := 5) rfl rfl (by decide) rfl (fun ls hl => ?_)
                        refine lv_goto (tgt := 43) hx hb dX9_state_159 (by decide) ?_
                        exact ih43 (i + 1) (by omega) (by omega) _ _ _ _ _ _ _ ((nI_1 i).symm) (minN_t2 (cost := (stC (σ 3) (σ 5) (σ 6) (R_X9_free σ) n v w)) (if_neg (fun q => c88 q.2.1)) c128) (minN_t1 (cost := (stC (σ 3) (σ 5) (σ 6) (R_X9_free σ) n v w)) (if_neg (fun q => c88 q.2.1)) c128) rfl hP hS (lv_sub hl [0, 1, 2, 6, 7, 8, 9] rfl)
                  · skip
                    exact absurd (by decide) c107
                · skip
                  refine lv_iload_n hx hb dX9_state_91 rfl (lv_at hl 6 rfl) ?_
                  refine lv_iload hx hb dX9_state_92 (lv_at hl 0 rfl) ?_
                  refine lv_iand hx hb dX9_state_94 ?_
                  refine lv_if_ne (tgt := 102) hx hb dX9_state_95 (by decide) (fun c95 => ?_) (fun c95 => ?_)
                  · skip
                    refine lv_iconst (v := 0) hx hb dX9_state_102 (by decide) ?_
                    refine lv_istore (lv' := [(8, .int 0), (7, .int (holdN (σ 5) ((σ 6 10) ||| (nI i)) n)), (6, .int (nI i)), (5, .int ((minN 1000000 (stC (σ 3) (σ 5) (σ 6) (R_X9_free σ) n v w) i).2)), (4, .int ((minN 1000000 (stC (σ 3) (σ 5) (σ 6) (R_X9_free σ) n v w) i).1)), (0, .ref (ad 0)), (1, .int v), (2, .int w), (3, .int x)]) hx hb dX9_state_103 hl (by decide) rfl (fun ls hl => ?_)
                    refine lv_iload hx hb dX9_state_105 (lv_at hl 0 rfl) ?_
                    refine lv_if_eq (tgt := 119) hx hb dX9_state_107 (by decide) (fun c107 => ?_) (fun c107 => ?_)
                    · skip
                      refine lv_ldcw (v := 1000000) hx hb hown (hts (.constant RX9 278 (1000000)) (by decide +kernel)) dX9_state_119 ?_
                      refine lv_istore (lv' := [(9, .int 1000000), (8, .int 0), (7, .int (holdN (σ 5) ((σ 6 10) ||| (nI i)) n)), (6, .int (nI i)), (5, .int ((minN 1000000 (stC (σ 3) (σ 5) (σ 6) (R_X9_free σ) n v w) i).2)), (4, .int ((minN 1000000 (stC (σ 3) (σ 5) (σ 6) (R_X9_free σ) n v w) i).1)), (0, .ref (ad 0)), (1, .int v), (2, .int w), (3, .int x)]) hx hb dX9_state_122 hl (by decide) rfl (fun ls hl => ?_)
                      refine lv_iload hx hb dX9_state_124 (lv_at hl 0 rfl) ?_
                      refine lv_iload hx hb dX9_state_126 (lv_at hl 4 rfl) ?_
                      refine lv_icmp_ge (tgt := 136) hx hb dX9_state_128 (by decide) (fun c128 => ?_) (fun c128 => ?_)
                      · skip
                        refine lv_iload hx hb dX9_state_136 (lv_at hl 5 rfl) ?_
                        refine lv_istore (lv' := [(4, .int ((minN 1000000 (stC (σ 3) (σ 5) (σ 6) (R_X9_free σ) n v w) i).1)), (9, .int 1000000), (8, .int 0), (7, .int (holdN (σ 5) ((σ 6 10) ||| (nI i)) n)), (6, .int (nI i)), (5, .int ((minN 1000000 (stC (σ 3) (σ 5) (σ 6) (R_X9_free σ) n v w) i).2)), (0, .ref (ad 0)), (1, .int v), (2, .int w), (3, .int x)]) hx hb dX9_state_138 hl (by decide) rfl (fun ls hl => ?_)
                        refine lv_iload hx hb dX9_state_140 (lv_at hl 1 rfl) ?_
                        refine lv_iload hx hb dX9_state_142 (lv_at hl 5 rfl) ?_
                        refine lv_icmp_ge (tgt := 152) hx hb dX9_state_144 (by decide) (fun c144 => ?_) (fun c144 => ?_)
                        · skip
                          refine lv_iload hx hb dX9_state_152 (lv_at hl 5 rfl) ?_
                          refine lv_istore (lv' := [(5, .int ((minN 1000000 (stC (σ 3) (σ 5) (σ 6) (R_X9_free σ) n v w) i).2)), (4, .int ((minN 1000000 (stC (σ 3) (σ 5) (σ 6) (R_X9_free σ) n v w) i).1)), (9, .int 1000000), (8, .int 0), (7, .int (holdN (σ 5) ((σ 6 10) ||| (nI i)) n)), (6, .int (nI i)), (0, .ref (ad 0)), (1, .int v), (2, .int w), (3, .int x)]) hx hb dX9_state_154 hl (by decide) rfl (fun ls hl => ?_)
                          refine lv_iinc (v := ((nI i) + 1)) (lv' := [(6, .int ((nI i) + 1)), (5, .int ((minN 1000000 (stC (σ 3) (σ 5) (σ 6) (R_X9_free σ) n v w) i).2)), (4, .int ((minN 1000000 (stC (σ 3) (σ 5) (σ 6) (R_X9_free σ) n v w) i).1)), (9, .int 1000000), (8, .int 0), (7, .int (holdN (σ 5) ((σ 6 10) ||| (nI i)) n)), (0, .ref (ad 0)), (1, .int v), (2, .int w), (3, .int x)]) hx hb dX9_state_156 hl (k := 5) rfl rfl (by decide) rfl (fun ls hl => ?_)
                          refine lv_goto (tgt := 43) hx hb dX9_state_159 (by decide) ?_
                          exact ih43 (i + 1) (by omega) (by omega) _ _ _ _ _ _ _ ((nI_1 i).symm) (minN_f2 (cost := (stC (σ 3) (σ 5) (σ 6) (R_X9_free σ) n v w)) (if_neg (fun q => c95 q.2.2)) c128) (minN_f1 (cost := (stC (σ 3) (σ 5) (σ 6) (R_X9_free σ) n v w)) (if_neg (fun q => c95 q.2.2)) c128) rfl hP hS (lv_sub hl [0, 1, 2, 6, 7, 8, 9] rfl)
                        · skip
                          exact absurd c128 c144
                      · skip
                        refine lv_iload hx hb dX9_state_131 (lv_at hl 3 rfl) ?_
                        refine lv_goto (tgt := 138) hx hb dX9_state_133 (by decide) ?_
                        refine lv_istore (lv' := [(4, .int (nI i)), (9, .int 1000000), (8, .int 0), (7, .int (holdN (σ 5) ((σ 6 10) ||| (nI i)) n)), (6, .int (nI i)), (5, .int ((minN 1000000 (stC (σ 3) (σ 5) (σ 6) (R_X9_free σ) n v w) i).2)), (0, .ref (ad 0)), (1, .int v), (2, .int w), (3, .int x)]) hx hb dX9_state_138 hl (by decide) rfl (fun ls hl => ?_)
                        refine lv_iload hx hb dX9_state_140 (lv_at hl 1 rfl) ?_
                        refine lv_iload hx hb dX9_state_142 (lv_at hl 5 rfl) ?_
                        refine lv_icmp_ge (tgt := 152) hx hb dX9_state_144 (by decide) (fun c144 => ?_) (fun c144 => ?_)
                        · skip
                          exact absurd c144 c128
                        · skip
                          refine lv_iload hx hb dX9_state_147 (lv_at hl 1 rfl) ?_
                          refine lv_goto (tgt := 154) hx hb dX9_state_149 (by decide) ?_
                          refine lv_istore (lv' := [(5, .int 1000000), (4, .int (nI i)), (9, .int 1000000), (8, .int 0), (7, .int (holdN (σ 5) ((σ 6 10) ||| (nI i)) n)), (6, .int (nI i)), (0, .ref (ad 0)), (1, .int v), (2, .int w), (3, .int x)]) hx hb dX9_state_154 hl (by decide) rfl (fun ls hl => ?_)
                          refine lv_iinc (v := ((nI i) + 1)) (lv' := [(6, .int ((nI i) + 1)), (5, .int 1000000), (4, .int (nI i)), (9, .int 1000000), (8, .int 0), (7, .int (holdN (σ 5) ((σ 6 10) ||| (nI i)) n)), (0, .ref (ad 0)), (1, .int v), (2, .int w), (3, .int x)]) hx hb dX9_state_156 hl (k := 5) rfl rfl (by decide) rfl (fun ls hl => ?_)
                          refine lv_goto (tgt := 43) hx hb dX9_state_159 (by decide) ?_
                          exact ih43 (i + 1) (by omega) (by omega) _ _ _ _ _ _ _ ((nI_1 i).symm) (minN_t2 (cost := (stC (σ 3) (σ 5) (σ 6) (R_X9_free σ) n v w)) (if_neg (fun q => c95 q.2.2)) c128) (minN_t1 (cost := (stC (σ 3) (σ 5) (σ 6) (R_X9_free σ) n v w)) (if_neg (fun q => c95 q.2.2)) c128) rfl hP hS (lv_sub hl [0, 1, 2, 6, 7, 8, 9] rfl)
                    · skip
                      exact absurd (by decide) c107
                  · skip
                    refine lv_iconst (v := 1) hx hb dX9_state_98 (by decide) ?_
                    refine lv_goto (tgt := 103) hx hb dX9_state_99 (by decide) ?_
                    refine lv_istore (lv' := [(8, .int 1), (7, .int (holdN (σ 5) ((σ 6 10) ||| (nI i)) n)), (6, .int (nI i)), (5, .int ((minN 1000000 (stC (σ 3) (σ 5) (σ 6) (R_X9_free σ) n v w) i).2)), (4, .int ((minN 1000000 (stC (σ 3) (σ 5) (σ 6) (R_X9_free σ) n v w) i).1)), (0, .ref (ad 0)), (1, .int v), (2, .int w), (3, .int x)]) hx hb dX9_state_103 hl (by decide) rfl (fun ls hl => ?_)
                    refine lv_iload hx hb dX9_state_105 (lv_at hl 0 rfl) ?_
                    refine lv_if_eq (tgt := 119) hx hb dX9_state_107 (by decide) (fun c107 => ?_) (fun c107 => ?_)
                    · skip
                      exact absurd c107 (by decide)
                    · skip
                      refine lv_aload_n hx hb dX9_state_110 rfl (lv_at hl 5 rfl) ?_
                      refine lv_iload hx hb dX9_state_111 (lv_at hl 2 rfl) ?_
                      refine rp_callVI (na := 1) hx hb hml hown hts hK hA hD hP hS hl.1 0 (by decide) (kX9 _) rfl [.int (nI i)] (c_X9_costOf l D cy ad σ n (nI i) (by first | assumption | omega) (by first | assumption | rfl)) gX9_state_X9_costOf rfl (by decide +kernel) rfl ⟨Nat.le_of_ble_eq_true rfl, Nat.le_of_ble_eq_true rfl⟩ ⟨rfl, rfl⟩ ⟨Nat.zero_le _, Nat.zero_le _⟩ rfl (Nat.le_of_ble_eq_true rfl) dX9_state_113 (fun v_ τ_ H locs hq hP hS => ?_)
                      obtain ⟨rfl, rfl⟩ := hq
                      refine lv_goto (tgt := 122) hx hb dX9_state_116 (by decide) ?_
                      refine lv_istore (lv' := [(9, .int (sumN (fun j => σ 3 j - σ 6 j) (nI i) n)), (8, .int 1), (7, .int (holdN (σ 5) ((σ 6 10) ||| (nI i)) n)), (6, .int (nI i)), (5, .int ((minN 1000000 (stC (σ 3) (σ 5) (σ 6) (R_X9_free σ) n v w) i).2)), (4, .int ((minN 1000000 (stC (σ 3) (σ 5) (σ 6) (R_X9_free σ) n v w) i).1)), (0, .ref (ad 0)), (1, .int v), (2, .int w), (3, .int x)]) hx hb dX9_state_122 hl (by decide) rfl (fun ls hl => ?_)
                      refine lv_iload hx hb dX9_state_124 (lv_at hl 0 rfl) ?_
                      refine lv_iload hx hb dX9_state_126 (lv_at hl 4 rfl) ?_
                      refine lv_icmp_ge (tgt := 136) hx hb dX9_state_128 (by decide) (fun c128 => ?_) (fun c128 => ?_)
                      · skip
                        refine lv_iload hx hb dX9_state_136 (lv_at hl 5 rfl) ?_
                        refine lv_istore (lv' := [(4, .int ((minN 1000000 (stC (σ 3) (σ 5) (σ 6) (R_X9_free σ) n v w) i).1)), (9, .int (sumN (fun j => σ 3 j - σ 6 j) (nI i) n)), (8, .int 1), (7, .int (holdN (σ 5) ((σ 6 10) ||| (nI i)) n)), (6, .int (nI i)), (5, .int ((minN 1000000 (stC (σ 3) (σ 5) (σ 6) (R_X9_free σ) n v w) i).2)), (0, .ref (ad 0)), (1, .int v), (2, .int w), (3, .int x)]) hx hb dX9_state_138 hl (by decide) rfl (fun ls hl => ?_)
                        refine lv_iload hx hb dX9_state_140 (lv_at hl 1 rfl) ?_
                        refine lv_iload hx hb dX9_state_142 (lv_at hl 5 rfl) ?_
                        refine lv_icmp_ge (tgt := 152) hx hb dX9_state_144 (by decide) (fun c144 => ?_) (fun c144 => ?_)
                        · skip
                          refine lv_iload hx hb dX9_state_152 (lv_at hl 5 rfl) ?_
                          refine lv_istore (lv' := [(5, .int ((minN 1000000 (stC (σ 3) (σ 5) (σ 6) (R_X9_free σ) n v w) i).2)), (4, .int ((minN 1000000 (stC (σ 3) (σ 5) (σ 6) (R_X9_free σ) n v w) i).1)), (9, .int (sumN (fun j => σ 3 j - σ 6 j) (nI i) n)), (8, .int 1), (7, .int (holdN (σ 5) ((σ 6 10) ||| (nI i)) n)), (6, .int (nI i)), (0, .ref (ad 0)), (1, .int v), (2, .int w), (3, .int x)]) hx hb dX9_state_154 hl (by decide) rfl (fun ls hl => ?_)
                          refine lv_iinc (v := ((nI i) + 1)) (lv' := [(6, .int ((nI i) + 1)), (5, .int ((minN 1000000 (stC (σ 3) (σ 5) (σ 6) (R_X9_free σ) n v w) i).2)), (4, .int ((minN 1000000 (stC (σ 3) (σ 5) (σ 6) (R_X9_free σ) n v w) i).1)), (9, .int (sumN (fun j => σ 3 j - σ 6 j) (nI i) n)), (8, .int 1), (7, .int (holdN (σ 5) ((σ 6 10) ||| (nI i)) n)), (0, .ref (ad 0)), (1, .int v), (2, .int w), (3, .int x)]) hx hb dX9_state_156 hl (k := 5) rfl rfl (by decide) rfl (fun ls hl => ?_)
                          refine lv_goto (tgt := 43) hx hb dX9_state_159 (by decide) ?_
                          exact ih43 (i + 1) (by omega) (by omega) _ _ _ _ _ _ _ ((nI_1 i).symm) (minN_f2 (cost := (stC (σ 3) (σ 5) (σ 6) (R_X9_free σ) n v w)) (if_pos ⟨c79, c88, c95⟩) c128) (minN_f1 (cost := (stC (σ 3) (σ 5) (σ 6) (R_X9_free σ) n v w)) (if_pos ⟨c79, c88, c95⟩) c128) rfl hP hS (lv_sub hl [0, 1, 2, 6, 7, 8, 9] rfl)
                        · skip
                          exact absurd c128 c144
                      · skip
                        refine lv_iload hx hb dX9_state_131 (lv_at hl 3 rfl) ?_
                        refine lv_goto (tgt := 138) hx hb dX9_state_133 (by decide) ?_
                        refine lv_istore (lv' := [(4, .int (nI i)), (9, .int (sumN (fun j => σ 3 j - σ 6 j) (nI i) n)), (8, .int 1), (7, .int (holdN (σ 5) ((σ 6 10) ||| (nI i)) n)), (6, .int (nI i)), (5, .int ((minN 1000000 (stC (σ 3) (σ 5) (σ 6) (R_X9_free σ) n v w) i).2)), (0, .ref (ad 0)), (1, .int v), (2, .int w), (3, .int x)]) hx hb dX9_state_138 hl (by decide) rfl (fun ls hl => ?_)
                        refine lv_iload hx hb dX9_state_140 (lv_at hl 1 rfl) ?_
                        refine lv_iload hx hb dX9_state_142 (lv_at hl 5 rfl) ?_
                        refine lv_icmp_ge (tgt := 152) hx hb dX9_state_144 (by decide) (fun c144 => ?_) (fun c144 => ?_)
                        · skip
                          exact absurd c144 c128
                        · skip
                          refine lv_iload hx hb dX9_state_147 (lv_at hl 1 rfl) ?_
                          refine lv_goto (tgt := 154) hx hb dX9_state_149 (by decide) ?_
                          refine lv_istore (lv' := [(5, .int (sumN (fun j => σ 3 j - σ 6 j) (nI i) n)), (4, .int (nI i)), (9, .int (sumN (fun j => σ 3 j - σ 6 j) (nI i) n)), (8, .int 1), (7, .int (holdN (σ 5) ((σ 6 10) ||| (nI i)) n)), (6, .int (nI i)), (0, .ref (ad 0)), (1, .int v), (2, .int w), (3, .int x)]) hx hb dX9_state_154 hl (by decide) rfl (fun ls hl => ?_)
                          refine lv_iinc (v := ((nI i) + 1)) (lv' := [(6, .int ((nI i) + 1)), (5, .int (sumN (fun j => σ 3 j - σ 6 j) (nI i) n)), (4, .int (nI i)), (9, .int (sumN (fun j => σ 3 j - σ 6 j) (nI i) n)), (8, .int 1), (7, .int (holdN (σ 5) ((σ 6 10) ||| (nI i)) n)), (0, .ref (ad 0)), (1, .int v), (2, .int w), (3, .int x)]) hx hb dX9_state_156 hl (k := 5) rfl rfl (by decide) rfl (fun ls hl => ?_)
                          refine lv_goto (tgt := 43) hx hb dX9_state_159 (by decide) ?_
                          exact ih43 (i + 1) (by omega) (by omega) _ _ _ _ _ _ _ ((nI_1 i).symm) (minN_t2 (cost := (stC (σ 3) (σ 5) (σ 6) (R_X9_free σ) n v w)) (if_pos ⟨c79, c88, c95⟩) c128) (minN_t1 (cost := (stC (σ 3) (σ 5) (σ 6) (R_X9_free σ) n v w)) (if_pos ⟨c79, c88, c95⟩) c128) rfl hP hS (lv_sub hl [0, 1, 2, 6, 7, 8, 9] rfl)
        exact L43 ((2 ^ n - 0) + 1) 0 (Nat.zero_le _) (Nat.lt_succ_self _) _ _ _ _ _ _ _ (by first | rfl | simp [*]) (by first | rfl | simp [*]) (by first | rfl | simp [*]) rfl hP hS (lv_sub hl [0, 1, 2, 3, 4, 5, 6] rfl)
      · skip
        have c26 := bi_eq0.mp c26
        refine lv_ldc (v := (-1000000002)) hx hb hown (hts (.constant RX9 85 (-1000000002)) (by decide +kernel)) dX9_state_29 ?_
        exact hret hP hS dX9_state_31 rfl ⟨(by unfold R_X9_state <;> rw [if_pos c5, if_pos c13, if_neg c26] <;> first | with_reducible rfl), rfl⟩
    · skip
      have c13 := bi_eq0.mp c13
      refine lv_ldc (v := (-1000000001)) hx hb hown (hts (.constant RX9 206 (-1000000001)) (by decide +kernel)) dX9_state_16 ?_
      exact hret hP hS dX9_state_18 rfl ⟨(by unfold R_X9_state <;> rw [if_pos c5, if_neg c13] <;> first | with_reducible rfl), rfl⟩

def R_X9_best (σ : Nat → Nat → Int32) (n : Nat) (v : Int32) (w : Int32) : Int32 := (if (0 ≤ v ∧ v ≤ 99) then (if (0 ≤ w ∧ w ≤ 1) then (if w = 0 then (((maxN (sumN (fun j => σ 4 j - 50) (holdN (σ 5) (σ 6 10) n) n) (beV (σ 4) (σ 3) (σ 5) (σ 6) (R_X9_free σ) n v) (2 ^ n - 1)).2) + 1000) else ((maxN (sumN (fun j => σ 4 j - 50) (holdN (σ 5) (σ 6 10) n) n) (beV (σ 4) (σ 3) (σ 5) (σ 6) (R_X9_free σ) n v) (2 ^ n - 1)).1)) else (-1000000002)) else (-1000000002))
theorem in_X9_best_X9 : ∀ w ∈ u_ws RX9 TX9 38, w ∈ wsX9_best := by decide +kernel
set_option maxHeartbeats 1000000 in
set_option maxRecDepth 100000 in
theorem c_X9_best (l : Launch) (D : va_G) (cy : Nat → ClassId) (ad : Nat → Nat) (σ : Nat → Nat → Int32) (n : Nat) (v : Int32) (w : Int32) (hn : n ≤ 10) (en : σ 0 5 = nI n) : MI l D (tysW cy) 19 ad (cfM ad cy) yX9_best wsX9_best ({ frames := 3, cells := 0, slots := 0, locals := 65 }) σ [.ref (ad 0), .int v, .int w] (fun v_ τ_ => (R_X9_best σ n v w) = v_ ∧ σ = τ_) := by
  refine MI.go (cc := cX9_best) (maxL := 8) .int (by decide) rfl (Nat.le_of_ble_eq_true rfl) ?_
  intro p_ e_ s_ m_ args_ bl_ mt_ c_ A_ Q_ ls hx hb hml hown hts hK hA hD hP hS hl hret
  have hl : lv_has ls 8 [(0, .ref (ad 0)), (1, .int v), (2, .int w)] := hl
  have hp := pow_le hn
  refine lv_iload_n hx hb dX9_best_0 rfl (lv_at hl 1 rfl) ?_
  refine lv_i2l (v := (v).toInt64) hx hb dX9_best_1 rfl ?_
  refine lv_lconst (v := 0) hx hb dX9_best_2 (by decide) ?_
  refine lv_ldc2 (v := 99) hx hb hown (hts (.constantLong RX9 253 (99)) (by decide +kernel)) dX9_best_3 ?_
  refine rp_callSI (na := 3) hx hb hml hown hts hK hA hD hP hS hl.1 [.long (v).toInt64, .long 0, .long 99] (c_X9_in l D cy ad σ ((v).toInt64) 0 99 ) gX9_best_X9_in rfl (by decide +kernel) rfl ⟨Nat.le_of_ble_eq_true rfl, Nat.le_of_ble_eq_true rfl⟩ ⟨rfl, rfl⟩ ⟨Nat.zero_le _, Nat.zero_le _⟩ rfl (Nat.le_of_ble_eq_true rfl) dX9_best_6 (fun v_ τ_ H locs hq hP hS => ?_)
  obtain ⟨rfl, rfl⟩ := hq
  rw [in_0_99]
  refine lv_if_eq (tgt := 22) hx hb dX9_best_9 (by decide) (fun c9 => ?_) (fun c9 => ?_)
  · skip
    have c9 := bi_eq0.mp c9
    refine lv_ldc (v := (-1000000002)) hx hb hown (hts (.constant RX9 85 (-1000000002)) (by decide +kernel)) dX9_best_22 ?_
    exact hret hP hS dX9_best_24 rfl ⟨(by unfold R_X9_best <;> rw [if_neg c9] <;> first | with_reducible rfl), rfl⟩
  · skip
    have c9 := bi_ne0.mp c9
    refine lv_iload_n hx hb dX9_best_12 rfl (lv_at hl 2 rfl) ?_
    refine lv_i2l (v := (w).toInt64) hx hb dX9_best_13 rfl ?_
    refine lv_lconst (v := 0) hx hb dX9_best_14 (by decide) ?_
    refine lv_lconst (v := 1) hx hb dX9_best_15 (by decide) ?_
    refine rp_callSI (na := 3) hx hb hml hown hts hK hA hD hP hS hl.1 [.long (w).toInt64, .long 0, .long 1] (c_X9_in l D cy ad σ ((w).toInt64) 0 1 ) gX9_best_X9_in rfl (by decide +kernel) rfl ⟨Nat.le_of_ble_eq_true rfl, Nat.le_of_ble_eq_true rfl⟩ ⟨rfl, rfl⟩ ⟨Nat.zero_le _, Nat.zero_le _⟩ rfl (Nat.le_of_ble_eq_true rfl) dX9_best_16 (fun v_ τ_ H locs hq hP hS => ?_)
    obtain ⟨rfl, rfl⟩ := hq
    rw [in_0_1]
    refine lv_if_ne (tgt := 25) hx hb dX9_best_19 (by decide) (fun c19 => ?_) (fun c19 => ?_)
    · skip
      have c19 := bi_ne0.mp c19
      refine lv_iconst (v := 0) hx hb dX9_best_25 (by decide) ?_
      refine lv_istore_n (lv' := [(3, .int 0), (0, .ref (ad 0)), (1, .int v), (2, .int w)]) hx hb dX9_best_26 rfl hl (by decide) rfl (fun ls hl => ?_)
      refine lv_aload_n hx hb dX9_best_27 rfl (lv_at hl 1 rfl) ?_
      refine lv_aload_n hx hb dX9_best_28 rfl (lv_at hl 1 rfl) ?_
      refine rp_callVI (na := 0) hx hb hml hown hts hK hA hD hP hS hl.1 0 (by decide) (kX9 _) rfl [] (c_X9_holds l D cy ad σ n (by first | assumption | omega) (by first | assumption | rfl)) gX9_best_X9_holds rfl (by decide +kernel) rfl ⟨Nat.le_of_ble_eq_true rfl, Nat.le_of_ble_eq_true rfl⟩ ⟨rfl, rfl⟩ ⟨Nat.zero_le _, Nat.zero_le _⟩ rfl (Nat.le_of_ble_eq_true rfl) dX9_best_29 (fun v_ τ_ H locs hq hP hS => ?_)
      obtain ⟨rfl, rfl⟩ := hq
      refine rp_callVI (na := 1) hx hb hml hown hts hK hA hD hP hS hl.1 0 (by decide) (kX9 _) rfl [.int (holdN (σ 5) (σ 6 10) n)] (c_X9_worthOf l D cy ad σ n (holdN (σ 5) (σ 6 10) n) (by first | assumption | omega) (by first | assumption | rfl)) gX9_best_X9_worthOf rfl (by decide +kernel) rfl ⟨Nat.le_of_ble_eq_true rfl, Nat.le_of_ble_eq_true rfl⟩ ⟨rfl, rfl⟩ ⟨Nat.zero_le _, Nat.zero_le _⟩ rfl (Nat.le_of_ble_eq_true rfl) dX9_best_32 (fun v_ τ_ H locs hq hP hS => ?_)
      obtain ⟨rfl, rfl⟩ := hq
      refine lv_istore (lv' := [(4, .int (sumN (fun j => σ 4 j - 50) (holdN (σ 5) (σ 6 10) n) n)), (3, .int 0), (0, .ref (ad 0)), (1, .int v), (2, .int w)]) hx hb dX9_best_35 hl (by decide) rfl (fun ls hl => ?_)
      refine lv_iconst (v := 1) hx hb dX9_best_37 (by decide) ?_
      refine lv_istore (lv' := [(5, .int 1), (4, .int (sumN (fun j => σ 4 j - 50) (holdN (σ 5) (σ 6 10) n) n)), (3, .int 0), (0, .ref (ad 0)), (1, .int v), (2, .int w)]) hx hb dX9_best_38 hl (by decide) rfl (fun ls hl => ?_)
      have L40 : ∀ (fu40 : Nat) (i : Nat), (i + 1 ≤ 2 ^ n) → 2 ^ n - i < fu40 → ∀ (x5 : Int32) (x4 : Int32) (x3 : Int32) (τ : Nat → Nat → Int32) (H : Heap) (locs : List Loc) (ls : Array Slot), (nI (i + 1)) = x5 → ((maxN (sumN (fun j => σ 4 j - 50) (holdN (σ 5) (σ 6 10) n) n) (beV (σ 4) (σ 3) (σ 5) (σ 6) (R_X9_free σ) n v) i).2) = x4 → ((maxN (sumN (fun j => σ 4 j - 50) (holdN (σ 5) (σ 6 10) n) n) (beV (σ 4) (σ 3) (σ 5) (σ 6) (R_X9_free σ) n v) i).1) = x3 → σ = τ → va_P D classes (rw_ 19 ad (cfM ad cy) τ) H → va_S A_ s_.heap H locs → lv_has ls 8 [(5, .int x5), (4, .int x4), (3, .int x3), (0, .ref (ad 0)), (1, .int v), (2, .int w)] → W p_ l e_ ({ frames := 3, cells := 0, slots := 0, locals := 65 }) s_ m_ args_ bl_ mt_ c_ H locs 0 0 Q_ (F0 m_ 40 ls []) := by
        intro fu40
        induction fu40 with
        | zero => intro i hi hf; exact absurd hf (Nat.not_lt_zero _)
        | succ fu40 ih40 =>
          intro i hi hf40 x5 x4 x3 τ H locs ls ex5 ex4 ex3 eτ hP hS hl
          subst ex5
          subst ex4
          subst ex3
          subst eτ
          refine lv_iload hx hb dX9_best_40 (lv_at hl 0 rfl) ?_
          refine lv_iconst (v := 1) hx hb dX9_best_42 (by decide) ?_
          refine lv_aload_n hx hb dX9_best_43 rfl (lv_at hl 3 rfl) ?_
          refine rp_get (C := RX9) (T := TX9) (N := 38) hx hb hts in_X9_best_X9 hown hK hP 0 (by decide) (kX9 _) rfl 5 (by decide) (by decide +kernel) rfl dX9_best_44 ?_
          rw [en]
          refine lv_ishl hx hb dX9_best_47 ?_
          rw [shl1 hn]
          refine lv_icmp_ge (tgt := 147) hx hb dX9_best_48 (by decide) (fun c48 => ?_) (fun c48 => ?_)
          · skip
            have ei1 := cl_ex hi (by omega) c48
            have ei : i = 2 ^ n - 1 := by omega
            refine lv_iload_n hx hb dX9_best_147 rfl (lv_at hl 5 rfl) ?_
            refine lv_if_ne (tgt := 160) hx hb dX9_best_148 (by decide) (fun c148 => ?_) (fun c148 => ?_)
            · skip
              refine lv_iload_n hx hb dX9_best_160 rfl (lv_at hl 2 rfl) ?_
              exact hret hP hS dX9_best_161 rfl ⟨(by unfold R_X9_best <;> rw [if_pos c9, if_pos c19, if_neg c148] <;> first | with_reducible rfl | (rw [ei])), rfl⟩
            · skip
              refine lv_iload hx hb dX9_best_151 (lv_at hl 1 rfl) ?_
              refine lv_sipush (v := 1000) hx hb dX9_best_153 (by decide) ?_
              refine lv_iadd hx hb dX9_best_156 ?_
              refine lv_goto (tgt := 161) hx hb dX9_best_157 (by decide) ?_
              exact hret hP hS dX9_best_161 rfl ⟨(by unfold R_X9_best <;> rw [if_pos c9, if_pos c19, if_pos c148] <;> first | with_reducible rfl | (rw [ei])), rfl⟩
          · skip
            have hi2 : i + 1 < 2 ^ n := cl_in (by omega) (by omega) c48
            refine lv_iload hx hb dX9_best_51 (lv_at hl 0 rfl) ?_
            refine lv_aload_n hx hb dX9_best_53 rfl (lv_at hl 3 rfl) ?_
            refine rp_callVI (na := 0) hx hb hml hown hts hK hA hD hP hS hl.1 0 (by decide) (kX9 _) rfl [] (c_X9_free l D cy ad σ  ) gX9_best_X9_free rfl (by decide +kernel) rfl ⟨Nat.le_of_ble_eq_true rfl, Nat.le_of_ble_eq_true rfl⟩ ⟨rfl, rfl⟩ ⟨Nat.zero_le _, Nat.zero_le _⟩ rfl (Nat.le_of_ble_eq_true rfl) dX9_best_54 (fun v_ τ_ H locs hq hP hS => ?_)
            obtain ⟨rfl, rfl⟩ := hq
            refine lv_iconst (v := (-1)) hx hb dX9_best_57 (by decide) ?_
            refine lv_ixor hx hb dX9_best_58 ?_
            refine lv_iand hx hb dX9_best_59 ?_
            refine lv_if_ne (tgt := 77) hx hb dX9_best_60 (by decide) (fun c60 => ?_) (fun c60 => ?_)
            · skip
              refine lv_iconst (v := 0) hx hb dX9_best_77 (by decide) ?_
              refine lv_istore (lv' := [(6, .int 0), (5, .int (nI (i + 1))), (4, .int ((maxN (sumN (fun j => σ 4 j - 50) (holdN (σ 5) (σ 6 10) n) n) (beV (σ 4) (σ 3) (σ 5) (σ 6) (R_X9_free σ) n v) i).2)), (3, .int ((maxN (sumN (fun j => σ 4 j - 50) (holdN (σ 5) (σ 6 10) n) n) (beV (σ 4) (σ 3) (σ 5) (σ 6) (R_X9_free σ) n v) i).1)), (0, .ref (ad 0)), (1, .int v), (2, .int w)]) hx hb dX9_best_78 hl (by decide) rfl (fun ls hl => ?_)
              refine lv_iload hx hb dX9_best_80 (lv_at hl 0 rfl) ?_
              refine lv_if_eq (tgt := 106) hx hb dX9_best_82 (by decide) (fun c82 => ?_) (fun c82 => ?_)
              · skip
                refine lv_ldcw (v := (-1000000)) hx hb hown (hts (.constant RX9 285 (-1000000)) (by decide +kernel)) dX9_best_106 ?_
                refine lv_istore (lv' := [(7, .int (-1000000)), (6, .int 0), (5, .int (nI (i + 1))), (4, .int ((maxN (sumN (fun j => σ 4 j - 50) (holdN (σ 5) (σ 6 10) n) n) (beV (σ 4) (σ 3) (σ 5) (σ 6) (R_X9_free σ) n v) i).2)), (3, .int ((maxN (sumN (fun j => σ 4 j - 50) (holdN (σ 5) (σ 6 10) n) n) (beV (σ 4) (σ 3) (σ 5) (σ 6) (R_X9_free σ) n v) i).1)), (0, .ref (ad 0)), (1, .int v), (2, .int w)]) hx hb dX9_best_109 hl (by decide) rfl (fun ls hl => ?_)
                refine lv_iload hx hb dX9_best_111 (lv_at hl 0 rfl) ?_
                refine lv_iload hx hb dX9_best_113 (lv_at hl 3 rfl) ?_
                refine lv_icmp_le (tgt := 123) hx hb dX9_best_115 (by decide) (fun c115 => ?_) (fun c115 => ?_)
                · skip
                  refine lv_iload_n hx hb dX9_best_123 rfl (lv_at hl 4 rfl) ?_
                  refine lv_istore_n (lv' := [(3, .int ((maxN (sumN (fun j => σ 4 j - 50) (holdN (σ 5) (σ 6 10) n) n) (beV (σ 4) (σ 3) (σ 5) (σ 6) (R_X9_free σ) n v) i).1)), (7, .int (-1000000)), (6, .int 0), (5, .int (nI (i + 1))), (4, .int ((maxN (sumN (fun j => σ 4 j - 50) (holdN (σ 5) (σ 6 10) n) n) (beV (σ 4) (σ 3) (σ 5) (σ 6) (R_X9_free σ) n v) i).2)), (0, .ref (ad 0)), (1, .int v), (2, .int w)]) hx hb dX9_best_124 rfl hl (by decide) rfl (fun ls hl => ?_)
                  refine lv_iload hx hb dX9_best_125 (lv_at hl 1 rfl) ?_
                  refine lv_iload hx hb dX9_best_127 (lv_at hl 4 rfl) ?_
                  refine lv_icmp_le (tgt := 137) hx hb dX9_best_129 (by decide) (fun c129 => ?_) (fun c129 => ?_)
                  · skip
                    refine lv_iload hx hb dX9_best_137 (lv_at hl 4 rfl) ?_
                    refine lv_istore (lv' := [(4, .int ((maxN (sumN (fun j => σ 4 j - 50) (holdN (σ 5) (σ 6 10) n) n) (beV (σ 4) (σ 3) (σ 5) (σ 6) (R_X9_free σ) n v) i).2)), (3, .int ((maxN (sumN (fun j => σ 4 j - 50) (holdN (σ 5) (σ 6 10) n) n) (beV (σ 4) (σ 3) (σ 5) (σ 6) (R_X9_free σ) n v) i).1)), (7, .int (-1000000)), (6, .int 0), (5, .int (nI (i + 1))), (0, .ref (ad 0)), (1, .int v), (2, .int w)]) hx hb dX9_best_139 hl (by decide) rfl (fun ls hl => ?_)
                    refine lv_iinc (v := ((nI (i + 1)) + 1)) (lv' := [(5, .int ((nI (i + 1)) + 1)), (4, .int ((maxN (sumN (fun j => σ 4 j - 50) (holdN (σ 5) (σ 6 10) n) n) (beV (σ 4) (σ 3) (σ 5) (σ 6) (R_X9_free σ) n v) i).2)), (3, .int ((maxN (sumN (fun j => σ 4 j - 50) (holdN (σ 5) (σ 6 10) n) n) (beV (σ 4) (σ 3) (σ 5) (σ 6) (R_X9_free σ) n v) i).1)), (7, .int (-1000000)), (6, .int 0), (0, .ref (ad 0)), (1, .int v), (2, .int w)]) hx hb dX9_best_141 hl (k := 4) rfl rfl (by decide) rfl (fun ls hl => ?_)
                    refine lv_goto (tgt := 40) hx hb dX9_best_144 (by decide) ?_
                    exact ih40 (i + 1) (by omega) (by omega) _ _ _ _ _ _ _ ((nI_1 (i + 1)).symm) (maxN_f2 (val := (beV (σ 4) (σ 3) (σ 5) (σ 6) (R_X9_free σ) n v)) (if_neg (fun q => c60 q.1)) c115) (maxN_f1 (val := (beV (σ 4) (σ 3) (σ 5) (σ 6) (R_X9_free σ) n v)) (if_neg (fun q => c60 q.1)) c115) rfl hP hS (lv_sub hl [0, 1, 2, 5, 6, 7] rfl)
                  · skip
                    exact absurd c115 c129
                · skip
                  refine lv_iload hx hb dX9_best_118 (lv_at hl 2 rfl) ?_
                  refine lv_goto (tgt := 124) hx hb dX9_best_120 (by decide) ?_
                  refine lv_istore_n (lv' := [(3, .int (nI (i + 1))), (7, .int (-1000000)), (6, .int 0), (5, .int (nI (i + 1))), (4, .int ((maxN (sumN (fun j => σ 4 j - 50) (holdN (σ 5) (σ 6 10) n) n) (beV (σ 4) (σ 3) (σ 5) (σ 6) (R_X9_free σ) n v) i).2)), (0, .ref (ad 0)), (1, .int v), (2, .int w)]) hx hb dX9_best_124 rfl hl (by decide) rfl (fun ls hl => ?_)
                  refine lv_iload hx hb dX9_best_125 (lv_at hl 1 rfl) ?_
                  refine lv_iload hx hb dX9_best_127 (lv_at hl 4 rfl) ?_
                  refine lv_icmp_le (tgt := 137) hx hb dX9_best_129 (by decide) (fun c129 => ?_) (fun c129 => ?_)
                  · skip
                    exact absurd c129 c115
                  · skip
                    refine lv_iload hx hb dX9_best_132 (lv_at hl 1 rfl) ?_
                    refine lv_goto (tgt := 139) hx hb dX9_best_134 (by decide) ?_
                    refine lv_istore (lv' := [(4, .int (-1000000)), (3, .int (nI (i + 1))), (7, .int (-1000000)), (6, .int 0), (5, .int (nI (i + 1))), (0, .ref (ad 0)), (1, .int v), (2, .int w)]) hx hb dX9_best_139 hl (by decide) rfl (fun ls hl => ?_)
                    refine lv_iinc (v := ((nI (i + 1)) + 1)) (lv' := [(5, .int ((nI (i + 1)) + 1)), (4, .int (-1000000)), (3, .int (nI (i + 1))), (7, .int (-1000000)), (6, .int 0), (0, .ref (ad 0)), (1, .int v), (2, .int w)]) hx hb dX9_best_141 hl (k := 4) rfl rfl (by decide) rfl (fun ls hl => ?_)
                    refine lv_goto (tgt := 40) hx hb dX9_best_144 (by decide) ?_
                    exact ih40 (i + 1) (by omega) (by omega) _ _ _ _ _ _ _ ((nI_1 (i + 1)).symm) (maxN_t2 (val := (beV (σ 4) (σ 3) (σ 5) (σ 6) (R_X9_free σ) n v)) (if_neg (fun q => c60 q.1)) c115) (maxN_t1 (val := (beV (σ 4) (σ 3) (σ 5) (σ 6) (R_X9_free σ) n v)) (if_neg (fun q => c60 q.1)) c115) rfl hP hS (lv_sub hl [0, 1, 2, 5, 6, 7] rfl)
              · skip
                exact absurd (by decide) c82
            · skip
              refine lv_aload_n hx hb dX9_best_63 rfl (lv_at hl 3 rfl) ?_
              refine lv_iload hx hb dX9_best_64 (lv_at hl 0 rfl) ?_
              refine rp_callVI (na := 1) hx hb hml hown hts hK hA hD hP hS hl.1 0 (by decide) (kX9 _) rfl [.int (nI (i + 1))] (c_X9_costOf l D cy ad σ n (nI (i + 1)) (by first | assumption | omega) (by first | assumption | rfl)) gX9_best_X9_costOf rfl (by decide +kernel) rfl ⟨Nat.le_of_ble_eq_true rfl, Nat.le_of_ble_eq_true rfl⟩ ⟨rfl, rfl⟩ ⟨Nat.zero_le _, Nat.zero_le _⟩ rfl (Nat.le_of_ble_eq_true rfl) dX9_best_66 (fun v_ τ_ H locs hq hP hS => ?_)
              obtain ⟨rfl, rfl⟩ := hq
              refine lv_iload_n hx hb dX9_best_69 rfl (lv_at hl 4 rfl) ?_
              refine lv_icmp_gt (tgt := 77) hx hb dX9_best_70 (by decide) (fun c70 => ?_) (fun c70 => ?_)
              · skip
                refine lv_iconst (v := 0) hx hb dX9_best_77 (by decide) ?_
                refine lv_istore (lv' := [(6, .int 0), (5, .int (nI (i + 1))), (4, .int ((maxN (sumN (fun j => σ 4 j - 50) (holdN (σ 5) (σ 6 10) n) n) (beV (σ 4) (σ 3) (σ 5) (σ 6) (R_X9_free σ) n v) i).2)), (3, .int ((maxN (sumN (fun j => σ 4 j - 50) (holdN (σ 5) (σ 6 10) n) n) (beV (σ 4) (σ 3) (σ 5) (σ 6) (R_X9_free σ) n v) i).1)), (0, .ref (ad 0)), (1, .int v), (2, .int w)]) hx hb dX9_best_78 hl (by decide) rfl (fun ls hl => ?_)
                refine lv_iload hx hb dX9_best_80 (lv_at hl 0 rfl) ?_
                refine lv_if_eq (tgt := 106) hx hb dX9_best_82 (by decide) (fun c82 => ?_) (fun c82 => ?_)
                · skip
                  refine lv_ldcw (v := (-1000000)) hx hb hown (hts (.constant RX9 285 (-1000000)) (by decide +kernel)) dX9_best_106 ?_
                  refine lv_istore (lv' := [(7, .int (-1000000)), (6, .int 0), (5, .int (nI (i + 1))), (4, .int ((maxN (sumN (fun j => σ 4 j - 50) (holdN (σ 5) (σ 6 10) n) n) (beV (σ 4) (σ 3) (σ 5) (σ 6) (R_X9_free σ) n v) i).2)), (3, .int ((maxN (sumN (fun j => σ 4 j - 50) (holdN (σ 5) (σ 6 10) n) n) (beV (σ 4) (σ 3) (σ 5) (σ 6) (R_X9_free σ) n v) i).1)), (0, .ref (ad 0)), (1, .int v), (2, .int w)]) hx hb dX9_best_109 hl (by decide) rfl (fun ls hl => ?_)
                  refine lv_iload hx hb dX9_best_111 (lv_at hl 0 rfl) ?_
                  refine lv_iload hx hb dX9_best_113 (lv_at hl 3 rfl) ?_
                  refine lv_icmp_le (tgt := 123) hx hb dX9_best_115 (by decide) (fun c115 => ?_) (fun c115 => ?_)
                  · skip
                    refine lv_iload_n hx hb dX9_best_123 rfl (lv_at hl 4 rfl) ?_
                    refine lv_istore_n (lv' := [(3, .int ((maxN (sumN (fun j => σ 4 j - 50) (holdN (σ 5) (σ 6 10) n) n) (beV (σ 4) (σ 3) (σ 5) (σ 6) (R_X9_free σ) n v) i).1)), (7, .int (-1000000)), (6, .int 0), (5, .int (nI (i + 1))), (4, .int ((maxN (sumN (fun j => σ 4 j - 50) (holdN (σ 5) (σ 6 10) n) n) (beV (σ 4) (σ 3) (σ 5) (σ 6) (R_X9_free σ) n v) i).2)), (0, .ref (ad 0)), (1, .int v), (2, .int w)]) hx hb dX9_best_124 rfl hl (by decide) rfl (fun ls hl => ?_)
                    refine lv_iload hx hb dX9_best_125 (lv_at hl 1 rfl) ?_
                    refine lv_iload hx hb dX9_best_127 (lv_at hl 4 rfl) ?_
                    refine lv_icmp_le (tgt := 137) hx hb dX9_best_129 (by decide) (fun c129 => ?_) (fun c129 => ?_)
                    · skip
                      refine lv_iload hx hb dX9_best_137 (lv_at hl 4 rfl) ?_
                      refine lv_istore (lv' := [(4, .int ((maxN (sumN (fun j => σ 4 j - 50) (holdN (σ 5) (σ 6 10) n) n) (beV (σ 4) (σ 3) (σ 5) (σ 6) (R_X9_free σ) n v) i).2)), (3, .int ((maxN (sumN (fun j => σ 4 j - 50) (holdN (σ 5) (σ 6 10) n) n) (beV (σ 4) (σ 3) (σ 5) (σ 6) (R_X9_free σ) n v) i).1)), (7, .int (-1000000)), (6, .int 0), (5, .int (nI (i + 1))), (0, .ref (ad 0)), (1, .int v), (2, .int w)]) hx hb dX9_best_139 hl (by decide) rfl (fun ls hl => ?_)
                      refine lv_iinc (v := ((nI (i + 1)) + 1)) (lv' := [(5, .int ((nI (i + 1)) + 1)), (4, .int ((maxN (sumN (fun j => σ 4 j - 50) (holdN (σ 5) (σ 6 10) n) n) (beV (σ 4) (σ 3) (σ 5) (σ 6) (R_X9_free σ) n v) i).2)), (3, .int ((maxN (sumN (fun j => σ 4 j - 50) (holdN (σ 5) (σ 6 10) n) n) (beV (σ 4) (σ 3) (σ 5) (σ 6) (R_X9_free σ) n v) i).1)), (7, .int (-1000000)), (6, .int 0), (0, .ref (ad 0)), (1, .int v), (2, .int w)]) hx hb dX9_best_141 hl (k := 4) rfl rfl (by decide) rfl (fun ls hl => ?_)
                      refine lv_goto (tgt := 40) hx hb dX9_best_144 (by decide) ?_
                      exact ih40 (i + 1) (by omega) (by omega) _ _ _ _ _ _ _ ((nI_1 (i + 1)).symm) (maxN_f2 (val := (beV (σ 4) (σ 3) (σ 5) (σ 6) (R_X9_free σ) n v)) (if_neg (fun q => q.2 c70)) c115) (maxN_f1 (val := (beV (σ 4) (σ 3) (σ 5) (σ 6) (R_X9_free σ) n v)) (if_neg (fun q => q.2 c70)) c115) rfl hP hS (lv_sub hl [0, 1, 2, 5, 6, 7] rfl)
                    · skip
                      exact absurd c115 c129
                  · skip
                    refine lv_iload hx hb dX9_best_118 (lv_at hl 2 rfl) ?_
                    refine lv_goto (tgt := 124) hx hb dX9_best_120 (by decide) ?_
                    refine lv_istore_n (lv' := [(3, .int (nI (i + 1))), (7, .int (-1000000)), (6, .int 0), (5, .int (nI (i + 1))), (4, .int ((maxN (sumN (fun j => σ 4 j - 50) (holdN (σ 5) (σ 6 10) n) n) (beV (σ 4) (σ 3) (σ 5) (σ 6) (R_X9_free σ) n v) i).2)), (0, .ref (ad 0)), (1, .int v), (2, .int w)]) hx hb dX9_best_124 rfl hl (by decide) rfl (fun ls hl => ?_)
                    refine lv_iload hx hb dX9_best_125 (lv_at hl 1 rfl) ?_
                    refine lv_iload hx hb dX9_best_127 (lv_at hl 4 rfl) ?_
                    refine lv_icmp_le (tgt := 137) hx hb dX9_best_129 (by decide) (fun c129 => ?_) (fun c129 => ?_)
                    · skip
                      exact absurd c129 c115
                    · skip
                      refine lv_iload hx hb dX9_best_132 (lv_at hl 1 rfl) ?_
                      refine lv_goto (tgt := 139) hx hb dX9_best_134 (by decide) ?_
                      refine lv_istore (lv' := [(4, .int (-1000000)), (3, .int (nI (i + 1))), (7, .int (-1000000)), (6, .int 0), (5, .int (nI (i + 1))), (0, .ref (ad 0)), (1, .int v), (2, .int w)]) hx hb dX9_best_139 hl (by decide) rfl (fun ls hl => ?_)
                      refine lv_iinc (v := ((nI (i + 1)) + 1)) (lv' := [(5, .int ((nI (i + 1)) + 1)), (4, .int (-1000000)), (3, .int (nI (i + 1))), (7, .int (-1000000)), (6, .int 0), (0, .ref (ad 0)), (1, .int v), (2, .int w)]) hx hb dX9_best_141 hl (k := 4) rfl rfl (by decide) rfl (fun ls hl => ?_)
                      refine lv_goto (tgt := 40) hx hb dX9_best_144 (by decide) ?_
                      exact ih40 (i + 1) (by omega) (by omega) _ _ _ _ _ _ _ ((nI_1 (i + 1)).symm) (maxN_t2 (val := (beV (σ 4) (σ 3) (σ 5) (σ 6) (R_X9_free σ) n v)) (if_neg (fun q => q.2 c70)) c115) (maxN_t1 (val := (beV (σ 4) (σ 3) (σ 5) (σ 6) (R_X9_free σ) n v)) (if_neg (fun q => q.2 c70)) c115) rfl hP hS (lv_sub hl [0, 1, 2, 5, 6, 7] rfl)
                · skip
                  exact absurd (by decide) c82
              · skip
                refine lv_iconst (v := 1) hx hb dX9_best_73 (by decide) ?_
                refine lv_goto (tgt := 78) hx hb dX9_best_74 (by decide) ?_
                refine lv_istore (lv' := [(6, .int 1), (5, .int (nI (i + 1))), (4, .int ((maxN (sumN (fun j => σ 4 j - 50) (holdN (σ 5) (σ 6 10) n) n) (beV (σ 4) (σ 3) (σ 5) (σ 6) (R_X9_free σ) n v) i).2)), (3, .int ((maxN (sumN (fun j => σ 4 j - 50) (holdN (σ 5) (σ 6 10) n) n) (beV (σ 4) (σ 3) (σ 5) (σ 6) (R_X9_free σ) n v) i).1)), (0, .ref (ad 0)), (1, .int v), (2, .int w)]) hx hb dX9_best_78 hl (by decide) rfl (fun ls hl => ?_)
                refine lv_iload hx hb dX9_best_80 (lv_at hl 0 rfl) ?_
                refine lv_if_eq (tgt := 106) hx hb dX9_best_82 (by decide) (fun c82 => ?_) (fun c82 => ?_)
                · skip
                  exact absurd c82 (by decide)
                · skip
                  refine lv_aload_n hx hb dX9_best_85 rfl (lv_at hl 4 rfl) ?_
                  refine lv_aload_n hx hb dX9_best_86 rfl (lv_at hl 4 rfl) ?_
                  refine lv_aload_n hx hb dX9_best_87 rfl (lv_at hl 4 rfl) ?_
                  refine rp_get (C := RX9) (T := TX9) (N := 38) hx hb hts in_X9_best_X9 hown hK hP 0 (by decide) (kX9 _) rfl 11 (by decide) (by decide +kernel) rfl dX9_best_88 ?_
                  refine lv_bipush (v := 10) hx hb dX9_best_91 (by decide) ?_
                  refine rp_iald hx hb hK hP 6 (by decide) (kX9_11 _) 0 rfl 10 rfl (by decide) (by decide) dX9_best_93 ?_
                  refine lv_iload hx hb dX9_best_94 (lv_at hl 1 rfl) ?_
                  refine lv_ior hx hb dX9_best_96 ?_
                  refine rp_callVI (na := 1) hx hb hml hown hts hK hA hD hP hS hl.1 0 (by decide) (kX9 _) rfl [.int ((σ 6 10) ||| (nI (i + 1)))] (c_X9_holdsBut l D cy ad σ n ((σ 6 10) ||| (nI (i + 1))) (by first | assumption | omega) (by first | assumption | rfl)) gX9_best_X9_holdsBut rfl (by decide +kernel) rfl ⟨Nat.le_of_ble_eq_true rfl, Nat.le_of_ble_eq_true rfl⟩ ⟨rfl, rfl⟩ ⟨Nat.zero_le _, Nat.zero_le _⟩ rfl (Nat.le_of_ble_eq_true rfl) dX9_best_97 (fun v_ τ_ H locs hq hP hS => ?_)
                  obtain ⟨rfl, rfl⟩ := hq
                  refine rp_callVI (na := 1) hx hb hml hown hts hK hA hD hP hS hl.1 0 (by decide) (kX9 _) rfl [.int (holdN (σ 5) ((σ 6 10) ||| (nI (i + 1))) n)] (c_X9_worthOf l D cy ad σ n (holdN (σ 5) ((σ 6 10) ||| (nI (i + 1))) n) (by first | assumption | omega) (by first | assumption | rfl)) gX9_best_X9_worthOf rfl (by decide +kernel) rfl ⟨Nat.le_of_ble_eq_true rfl, Nat.le_of_ble_eq_true rfl⟩ ⟨rfl, rfl⟩ ⟨Nat.zero_le _, Nat.zero_le _⟩ rfl (Nat.le_of_ble_eq_true rfl) dX9_best_100 (fun v_ τ_ H locs hq hP hS => ?_)
                  obtain ⟨rfl, rfl⟩ := hq
                  refine lv_goto (tgt := 109) hx hb dX9_best_103 (by decide) ?_
                  refine lv_istore (lv' := [(7, .int (sumN (fun j => σ 4 j - 50) (holdN (σ 5) ((σ 6 10) ||| (nI (i + 1))) n) n)), (6, .int 1), (5, .int (nI (i + 1))), (4, .int ((maxN (sumN (fun j => σ 4 j - 50) (holdN (σ 5) (σ 6 10) n) n) (beV (σ 4) (σ 3) (σ 5) (σ 6) (R_X9_free σ) n v) i).2)), (3, .int ((maxN (sumN (fun j => σ 4 j - 50) (holdN (σ 5) (σ 6 10) n) n) (beV (σ 4) (σ 3) (σ 5) (σ 6) (R_X9_free σ) n v) i).1)), (0, .ref (ad 0)), (1, .int v), (2, .int w)]) hx hb dX9_best_109 hl (by decide) rfl (fun ls hl => ?_)
                  refine lv_iload hx hb dX9_best_111 (lv_at hl 0 rfl) ?_
                  refine lv_iload hx hb dX9_best_113 (lv_at hl 3 rfl) ?_
                  refine lv_icmp_le (tgt := 123) hx hb dX9_best_115 (by decide) (fun c115 => ?_) (fun c115 => ?_)
                  · skip
                    refine lv_iload_n hx hb dX9_best_123 rfl (lv_at hl 4 rfl) ?_
                    refine lv_istore_n (lv' := [(3, .int ((maxN (sumN (fun j => σ 4 j - 50) (holdN (σ 5) (σ 6 10) n) n) (beV (σ 4) (σ 3) (σ 5) (σ 6) (R_X9_free σ) n v) i).1)), (7, .int (sumN (fun j => σ 4 j - 50) (holdN (σ 5) ((σ 6 10) ||| (nI (i + 1))) n) n)), (6, .int 1), (5, .int (nI (i + 1))), (4, .int ((maxN (sumN (fun j => σ 4 j - 50) (holdN (σ 5) (σ 6 10) n) n) (beV (σ 4) (σ 3) (σ 5) (σ 6) (R_X9_free σ) n v) i).2)), (0, .ref (ad 0)), (1, .int v), (2, .int w)]) hx hb dX9_best_124 rfl hl (by decide) rfl (fun ls hl => ?_)
                    refine lv_iload hx hb dX9_best_125 (lv_at hl 1 rfl) ?_
                    refine lv_iload hx hb dX9_best_127 (lv_at hl 4 rfl) ?_
                    refine lv_icmp_le (tgt := 137) hx hb dX9_best_129 (by decide) (fun c129 => ?_) (fun c129 => ?_)
                    · skip
                      refine lv_iload hx hb dX9_best_137 (lv_at hl 4 rfl) ?_
                      refine lv_istore (lv' := [(4, .int ((maxN (sumN (fun j => σ 4 j - 50) (holdN (σ 5) (σ 6 10) n) n) (beV (σ 4) (σ 3) (σ 5) (σ 6) (R_X9_free σ) n v) i).2)), (3, .int ((maxN (sumN (fun j => σ 4 j - 50) (holdN (σ 5) (σ 6 10) n) n) (beV (σ 4) (σ 3) (σ 5) (σ 6) (R_X9_free σ) n v) i).1)), (7, .int (sumN (fun j => σ 4 j - 50) (holdN (σ 5) ((σ 6 10) ||| (nI (i + 1))) n) n)), (6, .int 1), (5, .int (nI (i + 1))), (0, .ref (ad 0)), (1, .int v), (2, .int w)]) hx hb dX9_best_139 hl (by decide) rfl (fun ls hl => ?_)
                      refine lv_iinc (v := ((nI (i + 1)) + 1)) (lv' := [(5, .int ((nI (i + 1)) + 1)), (4, .int ((maxN (sumN (fun j => σ 4 j - 50) (holdN (σ 5) (σ 6 10) n) n) (beV (σ 4) (σ 3) (σ 5) (σ 6) (R_X9_free σ) n v) i).2)), (3, .int ((maxN (sumN (fun j => σ 4 j - 50) (holdN (σ 5) (σ 6 10) n) n) (beV (σ 4) (σ 3) (σ 5) (σ 6) (R_X9_free σ) n v) i).1)), (7, .int (sumN (fun j => σ 4 j - 50) (holdN (σ 5) ((σ 6 10) ||| (nI (i + 1))) n) n)), (6, .int 1), (0, .ref (ad 0)), (1, .int v), (2, .int w)]) hx hb dX9_best_141 hl (k := 4) rfl rfl (by decide) rfl (fun ls hl => ?_)
                      refine lv_goto (tgt := 40) hx hb dX9_best_144 (by decide) ?_
                      exact ih40 (i + 1) (by omega) (by omega) _ _ _ _ _ _ _ ((nI_1 (i + 1)).symm) (maxN_f2 (val := (beV (σ 4) (σ 3) (σ 5) (σ 6) (R_X9_free σ) n v)) (if_pos ⟨c60, c70⟩) c115) (maxN_f1 (val := (beV (σ 4) (σ 3) (σ 5) (σ 6) (R_X9_free σ) n v)) (if_pos ⟨c60, c70⟩) c115) rfl hP hS (lv_sub hl [0, 1, 2, 5, 6, 7] rfl)
                    · skip
                      exact absurd c115 c129
                  · skip
                    refine lv_iload hx hb dX9_best_118 (lv_at hl 2 rfl) ?_
                    refine lv_goto (tgt := 124) hx hb dX9_best_120 (by decide) ?_
                    refine lv_istore_n (lv' := [(3, .int (nI (i + 1))), (7, .int (sumN (fun j => σ 4 j - 50) (holdN (σ 5) ((σ 6 10) ||| (nI (i + 1))) n) n)), (6, .int 1), (5, .int (nI (i + 1))), (4, .int ((maxN (sumN (fun j => σ 4 j - 50) (holdN (σ 5) (σ 6 10) n) n) (beV (σ 4) (σ 3) (σ 5) (σ 6) (R_X9_free σ) n v) i).2)), (0, .ref (ad 0)), (1, .int v), (2, .int w)]) hx hb dX9_best_124 rfl hl (by decide) rfl (fun ls hl => ?_)
                    refine lv_iload hx hb dX9_best_125 (lv_at hl 1 rfl) ?_
                    refine lv_iload hx hb dX9_best_127 (lv_at hl 4 rfl) ?_
                    refine lv_icmp_le (tgt := 137) hx hb dX9_best_129 (by decide) (fun c129 => ?_) (fun c129 => ?_)
                    · skip
                      exact absurd c129 c115
                    · skip
                      refine lv_iload hx hb dX9_best_132 (lv_at hl 1 rfl) ?_
                      refine lv_goto (tgt := 139) hx hb dX9_best_134 (by decide) ?_
                      refine lv_istore (lv' := [(4, .int (sumN (fun j => σ 4 j - 50) (holdN (σ 5) ((σ 6 10) ||| (nI (i + 1))) n) n)), (3, .int (nI (i + 1))), (7, .int (sumN (fun j => σ 4 j - 50) (holdN (σ 5) ((σ 6 10) ||| (nI (i + 1))) n) n)), (6, .int 1), (5, .int (nI (i + 1))), (0, .ref (ad 0)), (1, .int v), (2, .int w)]) hx hb dX9_best_139 hl (by decide) rfl (fun ls hl => ?_)
                      refine lv_iinc (v := ((nI (i + 1)) + 1)) (lv' := [(5, .int ((nI (i + 1)) + 1)), (4, .int (sumN (fun j => σ 4 j - 50) (holdN (σ 5) ((σ 6 10) ||| (nI (i + 1))) n) n)), (3, .int (nI (i + 1))), (7, .int (sumN (fun j => σ 4 j - 50) (holdN (σ 5) ((σ 6 10) ||| (nI (i + 1))) n) n)), (6, .int 1), (0, .ref (ad 0)), (1, .int v), (2, .int w)]) hx hb dX9_best_141 hl (k := 4) rfl rfl (by decide) rfl (fun ls hl => ?_)
                      refine lv_goto (tgt := 40) hx hb dX9_best_144 (by decide) ?_
                      exact ih40 (i + 1) (by omega) (by omega) _ _ _ _ _ _ _ ((nI_1 (i + 1)).symm) (maxN_t2 (val := (beV (σ 4) (σ 3) (σ 5) (σ 6) (R_X9_free σ) n v)) (if_pos ⟨c60, c70⟩) c115) (maxN_t1 (val := (beV (σ 4) (σ 3) (σ 5) (σ 6) (R_X9_free σ) n v)) (if_pos ⟨c60, c70⟩) c115) rfl hP hS (lv_sub hl [0, 1, 2, 5, 6, 7] rfl)
      exact L40 ((2 ^ n - 0) + 1) 0 (two_pos n) (Nat.lt_succ_self _) _ _ _ _ _ _ _ (by first | rfl | simp [*]) (by first | rfl | simp [*]) (by first | rfl | simp [*]) rfl hP hS (lv_sub hl [0, 1, 2, 3, 4, 5] rfl)
    · skip
      have c19 := bi_eq0.mp c19
      refine lv_ldc (v := (-1000000002)) hx hb hown (hts (.constant RX9 85 (-1000000002)) (by decide +kernel)) dX9_best_22 ?_
      exact hret hP hS dX9_best_24 rfl ⟨(by unfold R_X9_best <;> rw [if_pos c9, if_neg c19] <;> first | with_reducible rfl), rfl⟩

theorem in_X9_drought_X9 : ∀ w ∈ u_ws RX9 TX9 38, w ∈ wsX9_drought := by decide +kernel
set_option maxHeartbeats 1000000 in
set_option maxRecDepth 100000 in
theorem c_X9_drought (l : Launch) (D : va_G) (cy : Nat → ClassId) (ad : Nat → Nat) (σ : Nat → Nat → Int32) (v : Int32)  : MI l D (tysW cy) 19 ad (cfM ad cy) yX9_drought wsX9_drought ({ frames := 1, cells := 0, slots := 0, locals := 25 }) σ [.ref (ad 0), .int v] (fun v_ τ_ => (if 0 ≤ v ∧ v ≤ 99 then (if σ 0 0 = 0 then (-1000000003) else drtN v (σ 0 2) 100 0 (σ 6 12)) else (-1000000002)) = v_ ∧ σ = τ_) := by
  refine MI.go (cc := cX9_drought) (maxL := 4) .int (by decide) rfl (Nat.le_of_ble_eq_true rfl) ?_
  intro p_ e_ s_ m_ args_ bl_ mt_ c_ A_ Q_ ls hx hb hml hown hts hK hA hD hP hS hl hret
  have hl : lv_has ls 4 [(0, .ref (ad 0)), (1, .int v)] := hl
  refine lv_iload_n hx hb dX9_drought_0 rfl (lv_at hl 1 rfl) ?_
  refine lv_i2l (v := (v).toInt64) hx hb dX9_drought_1 rfl ?_
  refine lv_lconst (v := 0) hx hb dX9_drought_2 (by decide) ?_
  refine lv_ldc2 (v := 99) hx hb hown (hts (.constantLong RX9 253 (99)) (by decide +kernel)) dX9_drought_3 ?_
  refine rp_callSI (na := 3) hx hb hml hown hts hK hA hD hP hS hl.1 [.long (v).toInt64, .long 0, .long 99] (c_X9_in l D cy ad σ ((v).toInt64) 0 99 ) gX9_drought_X9_in rfl (by decide +kernel) rfl ⟨Nat.le_of_ble_eq_true rfl, Nat.le_of_ble_eq_true rfl⟩ ⟨rfl, rfl⟩ ⟨Nat.zero_le _, Nat.zero_le _⟩ rfl (Nat.le_of_ble_eq_true rfl) dX9_drought_6 (fun v_ τ_ H locs hq hP hS => ?_)
  obtain ⟨rfl, rfl⟩ := hq
  rw [in_0_99]
  refine lv_if_ne (tgt := 15) hx hb dX9_drought_9 (by decide) (fun c9 => ?_) (fun c9 => ?_)
  · skip
    have c9 := bi_ne0.mp c9
    refine lv_aload_n hx hb dX9_drought_15 rfl (lv_at hl 0 rfl) ?_
    refine rp_get (C := RX9) (T := TX9) (N := 38) hx hb hts in_X9_drought_X9 hown hK hP 0 (by decide) (kX9 _) rfl 0 (by decide) (by decide +kernel) rfl dX9_drought_16 ?_
    refine lv_if_ne (tgt := 25) hx hb dX9_drought_19 (by decide) (fun c19 => ?_) (fun c19 => ?_)
    · skip
      refine lv_aload_n hx hb dX9_drought_25 rfl (lv_at hl 0 rfl) ?_
      refine rp_get (C := RX9) (T := TX9) (N := 38) hx hb hts in_X9_drought_X9 hown hK hP 0 (by decide) (kX9 _) rfl 11 (by decide) (by decide +kernel) rfl dX9_drought_26 ?_
      refine lv_bipush (v := 12) hx hb dX9_drought_29 (by decide) ?_
      refine rp_iald hx hb hK hP 6 (by decide) (kX9_11 _) 0 rfl 12 rfl (by decide) (by decide) dX9_drought_31 ?_
      refine lv_istore_n (lv' := [(2, .int (σ 6 12)), (0, .ref (ad 0)), (1, .int v)]) hx hb dX9_drought_32 rfl hl (by decide) rfl (fun ls hl => ?_)
      refine lv_iconst (v := 0) hx hb dX9_drought_33 (by decide) ?_
      refine lv_istore_n (lv' := [(3, .int 0), (2, .int (σ 6 12)), (0, .ref (ad 0)), (1, .int v)]) hx hb dX9_drought_34 rfl hl (by decide) rfl (fun ls hl => ?_)
      have L35 : ∀ (fu35 : Nat) (c : Nat) (lev : Int32), (c ≤ 100) → (drtN v (σ 0 2) (100 - c) c lev = drtN v (σ 0 2) 100 0 (σ 6 12)) → 100 - c < fu35 → ∀ (x3 : Int32) (x2 : Int32) (τ : Nat → Nat → Int32) (H : Heap) (locs : List Loc) (ls : Array Slot), (nI c) = x3 → lev = x2 → σ = τ → va_P D classes (rw_ 19 ad (cfM ad cy) τ) H → va_S A_ s_.heap H locs → lv_has ls 4 [(3, .int x3), (2, .int x2), (0, .ref (ad 0)), (1, .int v)] → W p_ l e_ ({ frames := 1, cells := 0, slots := 0, locals := 25 }) s_ m_ args_ bl_ mt_ c_ H locs 0 0 Q_ (F0 m_ 35 ls []) := by
        intro fu35
        induction fu35 with
        | zero => intro c lev hc hF hf; exact absurd hf (Nat.not_lt_zero _)
        | succ fu35 ih35 =>
          intro c lev hc hF hf35 x3 x2 τ H locs ls ex3 ex2 eτ hP hS hl
          subst ex3
          subst ex2
          subst eτ
          refine lv_iload_n hx hb dX9_drought_35 rfl (lv_at hl 0 rfl) ?_
          refine lv_bipush (v := 99) hx hb dX9_drought_36 (by decide) ?_
          refine lv_icmp_gt (tgt := 63) hx hb dX9_drought_38 (by decide) (fun c38 => ?_) (fun c38 => ?_)
          · skip
            have ec : c = 100 := cl_gt (n := 99) hc (by omega) c38
            refine lv_iconst (v := (-1)) hx hb dX9_drought_63 (by decide) ?_
            exact hret hP hS dX9_drought_64 rfl ⟨(by rw [if_pos c9, if_neg c19, ← hF, ec]; rfl), rfl⟩
          · skip
            have hc2 : c ≤ 99 := cl_ngt (n := 99) (by omega) (by omega) c38
            refine lv_iload_n hx hb dX9_drought_41 rfl (lv_at hl 1 rfl) ?_
            refine lv_iload_n hx hb dX9_drought_42 rfl (lv_at hl 3 rfl) ?_
            refine lv_icmp_lt (tgt := 48) hx hb dX9_drought_43 (by decide) (fun c43 => ?_) (fun c43 => ?_)
            · skip
              refine lv_iload_n hx hb dX9_drought_48 rfl (lv_at hl 1 rfl) ?_
              refine lv_aload_n hx hb dX9_drought_49 rfl (lv_at hl 2 rfl) ?_
              refine rp_get (C := RX9) (T := TX9) (N := 38) hx hb hts in_X9_drought_X9 hown hK hP 0 (by decide) (kX9 _) rfl 2 (by decide) (by decide +kernel) rfl dX9_drought_50 ?_
              refine rp_callSI (na := 2) hx hb hml hown hts hK hA hD hP hS hl.1 [.int lev, .int (σ 0 2)] (c_X9_filled l D cy ad σ lev (σ 0 2) ) gX9_drought_X9_filled rfl (by decide +kernel) rfl ⟨Nat.le_of_ble_eq_true rfl, Nat.le_of_ble_eq_true rfl⟩ ⟨rfl, rfl⟩ ⟨Nat.zero_le _, Nat.zero_le _⟩ rfl (Nat.le_of_ble_eq_true rfl) dX9_drought_53 (fun v_ τ_ H locs hq hP hS => ?_)
              obtain ⟨rfl, rfl⟩ := hq
              refine lv_istore_n (lv' := [(2, .int (R_X9_filled lev (σ 0 2))), (3, .int (nI c)), (0, .ref (ad 0)), (1, .int v)]) hx hb dX9_drought_56 rfl hl (by decide) rfl (fun ls hl => ?_)
              refine lv_iinc (v := ((nI c) + 1)) (lv' := [(3, .int ((nI c) + 1)), (2, .int (R_X9_filled lev (σ 0 2))), (0, .ref (ad 0)), (1, .int v)]) hx hb dX9_drought_57 hl (k := 1) rfl rfl (by decide) rfl (fun ls hl => ?_)
              refine lv_goto (tgt := 35) hx hb dX9_drought_60 (by decide) ?_
              exact ih35 (c + 1) _ (by omega) (by rw [← hF, show 100 - c = (100 - (c + 1)) + 1 by omega, drtN, if_pos c43]) (by omega) _ _ _ _ _ _ ((nI_1 c).symm) rfl rfl hP hS (lv_sub hl [0, 1, 2, 3] rfl)
            · skip
              refine lv_iload_n hx hb dX9_drought_46 rfl (lv_at hl 0 rfl) ?_
              exact hret hP hS dX9_drought_47 rfl ⟨(by rw [if_pos c9, if_neg c19, ← hF, show 100 - c = (99 - c) + 1 by omega, drtN, if_neg c43]), rfl⟩
      exact L35 ((100 - 0) + 1) 0 (σ 6 12) (by omega) rfl (Nat.lt_succ_self _) _ _ _ _ _ _ (by first | rfl | simp [*]) (by first | rfl | simp [*]) rfl hP hS (lv_sub hl [0, 1, 2, 3] rfl)
    · skip
      refine lv_ldc (v := (-1000000003)) hx hb hown (hts (.constant RX9 232 (-1000000003)) (by decide +kernel)) dX9_drought_22 ?_
      exact hret hP hS dX9_drought_24 rfl ⟨(by rw [if_pos c9, if_pos c19]), rfl⟩
  · skip
    have c9 := bi_eq0.mp c9
    refine lv_ldc (v := (-1000000002)) hx hb hown (hts (.constant RX9 85 (-1000000002)) (by decide +kernel)) dX9_drought_12 ?_
    exact hret hP hS dX9_drought_14 rfl ⟨(by rw [if_neg c9]), rfl⟩

def R_X9_rainy (σ : Nat → Nat → Int32) (v : Int32) (w : Int32) : Int32 := (if (0 ≤ v ∧ v ≤ 60) then (if (0 ≤ w ∧ w ≤ 100) then ((oddN w.toInt64 (v.toNatClampNeg))).toInt32 else (-1000000002)) else (-1000000002))
set_option maxHeartbeats 1000000 in
set_option maxRecDepth 100000 in
theorem c_X9_rainy (l : Launch) (D : va_G) (cy : Nat → ClassId) (ad : Nat → Nat) (σ : Nat → Nat → Int32) (v : Int32) (w : Int32)  : MI l D (tysW cy) 19 ad (cfM ad cy) yX9_rainy wsX9_rainy ({ frames := 1, cells := 0, slots := 0, locals := 25 }) σ [.ref (ad 0), .int v, .int w] (fun v_ τ_ => (R_X9_rainy σ v w) = v_ ∧ σ = τ_) := by
  refine MI.go (cc := cX9_rainy) (maxL := 6) .int (by decide) rfl (Nat.le_of_ble_eq_true rfl) ?_
  intro p_ e_ s_ m_ args_ bl_ mt_ c_ A_ Q_ ls hx hb hml hown hts hK hA hD hP hS hl hret
  have hl : lv_has ls 6 [(0, .ref (ad 0)), (1, .int v), (2, .int w)] := hl
  refine lv_iload_n hx hb dX9_rainy_0 rfl (lv_at hl 1 rfl) ?_
  refine lv_i2l (v := (v).toInt64) hx hb dX9_rainy_1 rfl ?_
  refine lv_lconst (v := 0) hx hb dX9_rainy_2 (by decide) ?_
  refine lv_ldc2 (v := 60) hx hb hown (hts (.constantLong RX9 245 (60)) (by decide +kernel)) dX9_rainy_3 ?_
  refine rp_callSI (na := 3) hx hb hml hown hts hK hA hD hP hS hl.1 [.long (v).toInt64, .long 0, .long 60] (c_X9_in l D cy ad σ ((v).toInt64) 0 60 ) gX9_rainy_X9_in rfl (by decide +kernel) rfl ⟨Nat.le_of_ble_eq_true rfl, Nat.le_of_ble_eq_true rfl⟩ ⟨rfl, rfl⟩ ⟨Nat.zero_le _, Nat.zero_le _⟩ rfl (Nat.le_of_ble_eq_true rfl) dX9_rainy_6 (fun v_ τ_ H locs hq hP hS => ?_)
  obtain ⟨rfl, rfl⟩ := hq
  rw [in_0_60]
  refine lv_if_eq (tgt := 24) hx hb dX9_rainy_9 (by decide) (fun c9 => ?_) (fun c9 => ?_)
  · skip
    have c9 := bi_eq0.mp c9
    refine lv_ldc (v := (-1000000002)) hx hb hown (hts (.constant RX9 85 (-1000000002)) (by decide +kernel)) dX9_rainy_24 ?_
    exact hret hP hS dX9_rainy_26 rfl ⟨(by unfold R_X9_rainy <;> rw [if_neg c9] <;> first | with_reducible rfl | (rw [nI_clamp (by omega), ei])), rfl⟩
  · skip
    have c9 := bi_ne0.mp c9
    obtain ⟨jv, hjv, rfl⟩ := nI_rng3 (n := 60) (by omega) c9
    refine lv_iload_n hx hb dX9_rainy_12 rfl (lv_at hl 2 rfl) ?_
    refine lv_i2l (v := (w).toInt64) hx hb dX9_rainy_13 rfl ?_
    refine lv_lconst (v := 0) hx hb dX9_rainy_14 (by decide) ?_
    refine lv_ldc2 (v := 100) hx hb hown (hts (.constantLong RX9 307 (100)) (by decide +kernel)) dX9_rainy_15 ?_
    refine rp_callSI (na := 3) hx hb hml hown hts hK hA hD hP hS hl.1 [.long (w).toInt64, .long 0, .long 100] (c_X9_in l D cy ad σ ((w).toInt64) 0 100 ) gX9_rainy_X9_in rfl (by decide +kernel) rfl ⟨Nat.le_of_ble_eq_true rfl, Nat.le_of_ble_eq_true rfl⟩ ⟨rfl, rfl⟩ ⟨Nat.zero_le _, Nat.zero_le _⟩ rfl (Nat.le_of_ble_eq_true rfl) dX9_rainy_18 (fun v_ τ_ H locs hq hP hS => ?_)
    obtain ⟨rfl, rfl⟩ := hq
    rw [in_0_100]
    refine lv_if_ne (tgt := 27) hx hb dX9_rainy_21 (by decide) (fun c21 => ?_) (fun c21 => ?_)
    · skip
      have c21 := bi_ne0.mp c21
      refine lv_ldc2 (v := 1000000000) hx hb hown (hts (.constantLong RX9 309 (1000000000)) (by decide +kernel)) dX9_rainy_27 ?_
      refine lv_lstore_n (lv' := [(3, .long 1000000000), (0, .ref (ad 0)), (1, .int (nI jv)), (2, .int w)]) hx hb dX9_rainy_30 rfl hl (by decide) rfl (fun ls hl => ?_)
      refine lv_iconst (v := 0) hx hb dX9_rainy_31 (by decide) ?_
      refine lv_istore (lv' := [(5, .int 0), (3, .long 1000000000), (0, .ref (ad 0)), (1, .int (nI jv)), (2, .int w)]) hx hb dX9_rainy_32 hl (by decide) rfl (fun ls hl => ?_)
      have L34 : ∀ (fu34 : Nat) (i : Nat), (i ≤ jv) → jv - i < fu34 → ∀ (x5 : Int32) (x3 : Int64) (τ : Nat → Nat → Int32) (H : Heap) (locs : List Loc) (ls : Array Slot), (nI i) = x5 → (oddN w.toInt64 i) = x3 → σ = τ → va_P D classes (rw_ 19 ad (cfM ad cy) τ) H → va_S A_ s_.heap H locs → lv_has ls 6 [(5, .int x5), (3, .long x3), (0, .ref (ad 0)), (1, .int (nI jv)), (2, .int w)] → W p_ l e_ ({ frames := 1, cells := 0, slots := 0, locals := 25 }) s_ m_ args_ bl_ mt_ c_ H locs 0 0 Q_ (F0 m_ 34 ls []) := by
        intro fu34
        induction fu34 with
        | zero => intro i hi hf; exact absurd hf (Nat.not_lt_zero _)
        | succ fu34 ih34 =>
          intro i hi hf34 x5 x3 τ H locs ls ex5 ex3 eτ hP hS hl
          subst ex5
          subst ex3
          subst eτ
          refine lv_iload hx hb dX9_rainy_34 (lv_at hl 0 rfl) ?_
          refine lv_iload_n hx hb dX9_rainy_36 rfl (lv_at hl 3 rfl) ?_
          refine lv_icmp_ge (tgt := 55) hx hb dX9_rainy_37 (by decide) (fun c37 => ?_) (fun c37 => ?_)
          · skip
            have ei := cl_ex hi (by omega) c37
            refine lv_lload_n hx hb dX9_rainy_55 rfl (lv_at hl 1 rfl) ?_
            refine lv_l2i (v := ((oddN w.toInt64 i)).toInt32) hx hb dX9_rainy_56 rfl ?_
            exact hret hP hS dX9_rainy_57 rfl ⟨(by unfold R_X9_rainy <;> (try rw [nI_clamp (n := jv) (by omega)]) <;> rw [if_pos c9, if_pos c21] <;> first | with_reducible rfl | (rw [ei]) | (rw [nI_clamp (by omega), ei])), rfl⟩
          · skip
            have hi2 := cl_in (by omega) (by omega) c37
            refine lv_lload_n hx hb dX9_rainy_40 rfl (lv_at hl 1 rfl) ?_
            refine lv_iload_n hx hb dX9_rainy_41 rfl (lv_at hl 4 rfl) ?_
            refine lv_i2l (v := (w).toInt64) hx hb dX9_rainy_42 rfl ?_
            refine lv_lmul hx hb dX9_rainy_43 ?_
            refine lv_ldc2 (v := 100) hx hb hown (hts (.constantLong RX9 307 (100)) (by decide +kernel)) dX9_rainy_44 ?_
            refine lv_ldiv hx hb dX9_rainy_47 (by first | decide | assumption) ?_
            refine lv_lstore_n (lv' := [(3, .long (((oddN w.toInt64 i) * (w).toInt64) / 100)), (5, .int (nI i)), (0, .ref (ad 0)), (1, .int (nI jv)), (2, .int w)]) hx hb dX9_rainy_48 rfl hl (by decide) rfl (fun ls hl => ?_)
            refine lv_iinc (v := ((nI i) + 1)) (lv' := [(5, .int ((nI i) + 1)), (3, .long (((oddN w.toInt64 i) * (w).toInt64) / 100)), (0, .ref (ad 0)), (1, .int (nI jv)), (2, .int w)]) hx hb dX9_rainy_49 hl (k := 1) rfl rfl (by decide) rfl (fun ls hl => ?_)
            refine lv_goto (tgt := 34) hx hb dX9_rainy_52 (by decide) ?_
            exact ih34 (i + 1) (by omega) (by omega) _ _ _ _ _ _ ((nI_1 i).symm) rfl rfl hP hS (lv_sub hl [0, 1, 2, 3, 4] rfl)
      exact L34 ((jv - 0) + 1) 0 (Nat.zero_le _) (Nat.lt_succ_self _) _ _ _ _ _ _ (by first | rfl | simp [*]) (by first | rfl | simp [*]) rfl hP hS (lv_sub hl [0, 1, 2, 3, 4] rfl)
    · skip
      have c21 := bi_eq0.mp c21
      refine lv_ldc (v := (-1000000002)) hx hb hown (hts (.constant RX9 85 (-1000000002)) (by decide +kernel)) dX9_rainy_24 ?_
      exact hret hP hS dX9_rainy_26 rfl ⟨(by unfold R_X9_rainy <;> (try rw [nI_clamp (n := jv) (by omega)]) <;> rw [if_pos c9, if_neg c21] <;> first | with_reducible rfl | (rw [nI_clamp (by omega), ei])), rfl⟩

theorem in_X9_judge_X9 : ∀ w ∈ u_ws RX9 TX9 38, w ∈ wsX9_judge := by decide +kernel
set_option maxHeartbeats 1000000 in
set_option maxRecDepth 100000 in
theorem c_X9_judge (l : Launch) (D : va_G) (cy : Nat → ClassId) (ad : Nat → Nat) (σ : Nat → Nat → Int32) (n : Nat) (t : Nat) (hn : n ≤ 10) (en : σ 0 5 = nI n) (ht : t ≤ 15) (et : σ 0 33 = nI t) : MI l D (tysW cy) 19 ad (cfM ad cy) yX9_judge wsX9_judge ({ frames := 3, cells := 0, slots := 0, locals := 65 }) σ [.ref (ad 0)] (fun v_ τ_ => (judN (holdN (σ 5) (σ 6 10) n) (σ 15) (σ 16) t 0) = v_ ∧ σ = τ_) := by
  refine MI.go (cc := cX9_judge) (maxL := 3) .int (by decide) rfl (Nat.le_of_ble_eq_true rfl) ?_
  intro p_ e_ s_ m_ args_ bl_ mt_ c_ A_ Q_ ls hx hb hml hown hts hK hA hD hP hS hl hret
  have hl : lv_has ls 3 [(0, .ref (ad 0))] := hl
  refine lv_aload_n hx hb dX9_judge_0 rfl (lv_at hl 0 rfl) ?_
  refine rp_callVI (na := 0) hx hb hml hown hts hK hA hD hP hS hl.1 0 (by decide) (kX9 _) rfl [] (c_X9_holds l D cy ad σ n (by first | assumption | omega) (by first | assumption | rfl)) gX9_judge_X9_holds rfl (by decide +kernel) rfl ⟨Nat.le_of_ble_eq_true rfl, Nat.le_of_ble_eq_true rfl⟩ ⟨rfl, rfl⟩ ⟨Nat.zero_le _, Nat.zero_le _⟩ rfl (Nat.le_of_ble_eq_true rfl) dX9_judge_1 (fun v_ τ_ H locs hq hP hS => ?_)
  obtain ⟨rfl, rfl⟩ := hq
  refine lv_istore_n (lv' := [(1, .int (holdN (σ 5) (σ 6 10) n)), (0, .ref (ad 0))]) hx hb dX9_judge_4 rfl hl (by decide) rfl (fun ls hl => ?_)
  refine lv_iconst (v := 0) hx hb dX9_judge_5 (by decide) ?_
  refine lv_istore_n (lv' := [(2, .int 0), (1, .int (holdN (σ 5) (σ 6 10) n)), (0, .ref (ad 0))]) hx hb dX9_judge_6 rfl hl (by decide) rfl (fun ls hl => ?_)
  have L7 : ∀ (fu7 : Nat) (c : Nat), (c ≤ t) → (judN (holdN (σ 5) (σ 6 10) n) (σ 15) (σ 16) (t - c) c = judN (holdN (σ 5) (σ 6 10) n) (σ 15) (σ 16) t 0) → t - c < fu7 → ∀ (x2 : Int32) (τ : Nat → Nat → Int32) (H : Heap) (locs : List Loc) (ls : Array Slot), (nI c) = x2 → σ = τ → va_P D classes (rw_ 19 ad (cfM ad cy) τ) H → va_S A_ s_.heap H locs → lv_has ls 3 [(2, .int x2), (1, .int (holdN (σ 5) (σ 6 10) n)), (0, .ref (ad 0))] → W p_ l e_ ({ frames := 3, cells := 0, slots := 0, locals := 65 }) s_ m_ args_ bl_ mt_ c_ H locs 0 0 Q_ (F0 m_ 7 ls []) := by
    intro fu7
    induction fu7 with
    | zero => intro c hc hF hf; exact absurd hf (Nat.not_lt_zero _)
    | succ fu7 ih7 =>
      intro c hc hF hf7 x2 τ H locs ls ex2 eτ hP hS hl
      subst ex2
      subst eτ
      refine lv_iload_n hx hb dX9_judge_7 rfl (lv_at hl 0 rfl) ?_
      refine lv_aload_n hx hb dX9_judge_8 rfl (lv_at hl 2 rfl) ?_
      refine rp_get (C := RX9) (T := TX9) (N := 38) hx hb hts in_X9_judge_X9 hown hK hP 0 (by decide) (kX9 _) rfl 33 (by decide) (by decide +kernel) rfl dX9_judge_9 ?_
      rw [et]
      refine lv_icmp_ge (tgt := 42) hx hb dX9_judge_12 (by decide) (fun c12 => ?_) (fun c12 => ?_)
      · skip
        have ec := cl_ex hc (by omega) c12
        refine lv_iconst (v := (-1)) hx hb dX9_judge_42 (by decide) ?_
        exact hret hP hS dX9_judge_43 rfl ⟨(by rw [← hF, ec, Nat.sub_self]; rfl), rfl⟩
      · skip
        have hc2 := cl_in (by omega) (by omega) c12
        refine lv_iload_n hx hb dX9_judge_15 rfl (lv_at hl 1 rfl) ?_
        refine lv_aload_n hx hb dX9_judge_16 rfl (lv_at hl 2 rfl) ?_
        refine rp_get (C := RX9) (T := TX9) (N := 38) hx hb hts in_X9_judge_X9 hown hK hP 0 (by decide) (kX9 _) rfl 34 (by decide) (by decide +kernel) rfl dX9_judge_17 ?_
        refine lv_iload_n hx hb dX9_judge_20 rfl (lv_at hl 0 rfl) ?_
        refine rp_iald hx hb hK hP 15 (by decide) (kX9_34 _) 0 rfl c rfl (by omega) (by decide) dX9_judge_21 ?_
        refine rp_callSI (na := 2) hx hb hml hown hts hK hA hD hP hS hl.1 [.int (holdN (σ 5) (σ 6 10) n), .int (σ 15 c)] (c_X9_has l D cy ad σ (holdN (σ 5) (σ 6 10) n) (σ 15 c) ) gX9_judge_X9_has rfl (by decide +kernel) rfl ⟨Nat.le_of_ble_eq_true rfl, Nat.le_of_ble_eq_true rfl⟩ ⟨rfl, rfl⟩ ⟨Nat.zero_le _, Nat.zero_le _⟩ rfl (Nat.le_of_ble_eq_true rfl) dX9_judge_22 (fun v_ τ_ H locs hq hP hS => ?_)
        obtain ⟨rfl, rfl⟩ := hq
        refine lv_aload_n hx hb dX9_judge_25 rfl (lv_at hl 2 rfl) ?_
        refine rp_get (C := RX9) (T := TX9) (N := 38) hx hb hts in_X9_judge_X9 hown hK hP 0 (by decide) (kX9 _) rfl 35 (by decide) (by decide +kernel) rfl dX9_judge_26 ?_
        refine lv_iload_n hx hb dX9_judge_29 rfl (lv_at hl 0 rfl) ?_
        refine rp_zald hx hb hK hP 16 (by decide) (kX9_35 _) 1 rfl c rfl (by omega) (by decide) dX9_judge_30 ?_
        refine lv_icmp_eq (tgt := 36) hx hb dX9_judge_31 (by decide) (fun c31 => ?_) (fun c31 => ?_)
        · skip
          refine lv_iinc (v := ((nI c) + 1)) (lv' := [(2, .int ((nI c) + 1)), (1, .int (holdN (σ 5) (σ 6 10) n)), (0, .ref (ad 0))]) hx hb dX9_judge_36 hl (k := 0) rfl rfl (by decide) rfl (fun ls hl => ?_)
          refine lv_goto (tgt := 7) hx hb dX9_judge_39 (by decide) ?_
          exact ih7 (c + 1) (by omega) (by rw [← hF, show t - c = (t - (c + 1)) + 1 by omega, judN, if_pos c31]) (by omega) _ _ _ _ _ ((nI_1 c).symm) rfl hP hS (lv_sub hl [0, 1, 2] rfl)
        · skip
          refine lv_iload_n hx hb dX9_judge_34 rfl (lv_at hl 0 rfl) ?_
          exact hret hP hS dX9_judge_35 rfl ⟨(by rw [← hF, show t - c = (t - (c + 1)) + 1 by omega, judN, if_neg c31]), rfl⟩
  exact L7 ((t - 0) + 1) 0 (by omega) rfl (Nat.lt_succ_self _) _ _ _ _ _ (by first | rfl | simp [*]) rfl hP hS (lv_sub hl [0, 1, 2] rfl)

def R_X9_keep (σ : Nat → Nat → Int32) (v : Int32) : Int32 := (if (0 ≤ v ∧ v ≤ 1) then 1 else (-1000000001))
def T_X9_keep (σ : Nat → Nat → Int32) (v : Int32) : Nat → Nat → Int32 := (if (0 ≤ v ∧ v ≤ 1) then up2 (up2 (up2 (va_up σ 17 (putN (σ 17) (σ 6) (24 * (v.toNatClampNeg)) 23)) 17 (24 * (v.toNatClampNeg) + 23) (σ 0 12)) 18 (v.toNatClampNeg) 1) 0 31 0 else σ)
theorem in_X9_keep_X9 : ∀ w ∈ u_ws RX9 TX9 38, w ∈ wsX9_keep := by decide +kernel
set_option maxHeartbeats 1000000 in
set_option maxRecDepth 100000 in
theorem c_X9_keep (l : Launch) (D : va_G) (cy : Nat → ClassId) (ad : Nat → Nat) (σ : Nat → Nat → Int32) (v : Int32)  : MI l D (tysW cy) 19 ad (cfM ad cy) yX9_keep wsX9_keep ({ frames := 1, cells := 0, slots := 0, locals := 25 }) σ [.ref (ad 0), .int v] (fun v_ τ_ => (R_X9_keep σ v) = v_ ∧ (T_X9_keep σ v) = τ_) := by
  refine MI.go (cc := cX9_keep) (maxL := 3) .int (by decide) rfl (Nat.le_of_ble_eq_true rfl) ?_
  intro p_ e_ s_ m_ args_ bl_ mt_ c_ A_ Q_ ls hx hb hml hown hts hK hA hD hP hS hl hret
  have hl : lv_has ls 3 [(0, .ref (ad 0)), (1, .int v)] := hl
  refine lv_iload_n hx hb dX9_keep_0 rfl (lv_at hl 1 rfl) ?_
  refine lv_i2l (v := (v).toInt64) hx hb dX9_keep_1 rfl ?_
  refine lv_lconst (v := 0) hx hb dX9_keep_2 (by decide) ?_
  refine lv_lconst (v := 1) hx hb dX9_keep_3 (by decide) ?_
  refine rp_callSI (na := 3) hx hb hml hown hts hK hA hD hP hS hl.1 [.long (v).toInt64, .long 0, .long 1] (c_X9_in l D cy ad σ ((v).toInt64) 0 1 ) gX9_keep_X9_in rfl (by decide +kernel) rfl ⟨Nat.le_of_ble_eq_true rfl, Nat.le_of_ble_eq_true rfl⟩ ⟨rfl, rfl⟩ ⟨Nat.zero_le _, Nat.zero_le _⟩ rfl (Nat.le_of_ble_eq_true rfl) dX9_keep_4 (fun v_ τ_ H locs hq hP hS => ?_)
  obtain ⟨rfl, rfl⟩ := hq
  rw [in_0_1]
  refine lv_if_ne (tgt := 13) hx hb dX9_keep_7 (by decide) (fun c7 => ?_) (fun c7 => ?_)
  · skip
    have c7 := bi_ne0.mp c7
    obtain ⟨jv, hjv, rfl⟩ := nI_rng3 (n := 1) (by omega) c7
    refine lv_iconst (v := 0) hx hb dX9_keep_13 (by decide) ?_
    refine lv_istore_n (lv' := [(2, .int 0), (0, .ref (ad 0)), (1, .int (nI jv))]) hx hb dX9_keep_14 rfl hl (by decide) rfl (fun ls hl => ?_)
    have L15 : ∀ (fu15 : Nat) (i : Nat), (i ≤ 23) → 23 - i < fu15 → ∀ (x2 : Int32) (τ : Nat → Nat → Int32) (H : Heap) (locs : List Loc) (ls : Array Slot), (nI i) = x2 → (va_up σ 17 (putN (σ 17) (σ 6) (24 * jv) i)) = τ → va_P D classes (rw_ 19 ad (cfM ad cy) τ) H → va_S A_ s_.heap H locs → lv_has ls 3 [(2, .int x2), (0, .ref (ad 0)), (1, .int (nI jv))] → W p_ l e_ ({ frames := 1, cells := 0, slots := 0, locals := 25 }) s_ m_ args_ bl_ mt_ c_ H locs 0 0 Q_ (F0 m_ 15 ls []) := by
      intro fu15
      induction fu15 with
      | zero => intro i hi hf; exact absurd hf (Nat.not_lt_zero _)
      | succ fu15 ih15 =>
        intro i hi hf15 x2 τ H locs ls ex2 eτ hP hS hl
        subst ex2
        subst eτ
        refine lv_iload_n hx hb dX9_keep_15 rfl (lv_at hl 0 rfl) ?_
        refine lv_bipush (v := 23) hx hb dX9_keep_16 (by decide) ?_
        refine lv_icmp_ge (tgt := 44) hx hb dX9_keep_18 (by decide) (fun c18 => ?_) (fun c18 => ?_)
        · skip
          have ei : i = 23 := cl_ex hi (by omega) c18
          refine lv_aload_n hx hb dX9_keep_44 rfl (lv_at hl 1 rfl) ?_
          refine rp_get (C := RX9) (T := TX9) (N := 38) hx hb hts in_X9_keep_X9 hown hK hP 0 (by decide) (kX9 _) rfl 36 (by decide) (by decide +kernel) rfl dX9_keep_45 ?_
          refine lv_bipush (v := 24) hx hb dX9_keep_48 (by decide) ?_
          refine lv_iload_n hx hb dX9_keep_50 rfl (lv_at hl 2 rfl) ?_
          refine lv_imul hx hb dX9_keep_51 ?_
          refine lv_bipush (v := 23) hx hb dX9_keep_52 (by decide) ?_
          refine lv_iadd hx hb dX9_keep_54 ?_
          refine lv_aload_n hx hb dX9_keep_55 rfl (lv_at hl 1 rfl) ?_
          refine rp_get (C := RX9) (T := TX9) (N := 38) hx hb hts in_X9_keep_X9 hown hK hP 0 (by decide) (kX9 _) rfl 12 (by decide) (by decide +kernel) rfl dX9_keep_56 ?_
          rw [show (va_up σ 17 (putN (σ 17) (σ 6) (24 * jv) i)) 0 12 = (σ 0 12) from (va_R (by decide))]
          refine rp_iast (x := (σ 0 12)) hx hb hK hP hD hS 17 (by decide) (fun f => kX9_36 f) 0 rfl (24 * jv + 23) (nI_lin 24 jv 23) (by omega) (by decide) dX9_keep_59 (fun H locs hP hS => ?_)
          refine lv_aload_n hx hb dX9_keep_60 rfl (lv_at hl 1 rfl) ?_
          refine rp_get (C := RX9) (T := TX9) (N := 38) hx hb hts in_X9_keep_X9 hown hK hP 0 (by decide) (kX9 _) rfl 37 (by decide) (by decide +kernel) rfl dX9_keep_61 ?_
          refine lv_iload_n hx hb dX9_keep_64 rfl (lv_at hl 2 rfl) ?_
          refine lv_iconst (v := 1) hx hb dX9_keep_65 (by decide) ?_
          refine rp_zast (x := 1) hx hb hK hP hD hS 18 (by decide) (fun f => kX9_37 f) 1 rfl jv rfl (by omega) (by decide) (by first | rfl | exact zn_bi) dX9_keep_66 (fun H locs hP hS => ?_)
          refine lv_aload_n hx hb dX9_keep_67 rfl (lv_at hl 1 rfl) ?_
          refine lv_iconst (v := 0) hx hb dX9_keep_68 (by decide) ?_
          refine rp_put (C := RX9) (T := TX9) (N := 38) (v := 0) hx hb hts in_X9_keep_X9 tyX9 tyX9_ok nmX9 hown hK hP hD hS 0 (by decide) (kX9 _) rfl 31 (by decide) (by decide +kernel) rfl rfl rfl (Nat.le_of_ble_eq_true rfl) (kX9 _) dX9_keep_69 (fun H locs hP hS => ?_)
          refine lv_iconst (v := 1) hx hb dX9_keep_72 (by decide) ?_
          exact hret hP hS dX9_keep_73 rfl ⟨(by unfold R_X9_keep <;> (try rw [nI_clamp (n := jv) (by omega)]) <;> rw [if_pos c7] <;> first | with_reducible rfl | (rw [ei]) | (rw [nI_clamp (by omega), ei])), (by unfold T_X9_keep <;> (try rw [nI_clamp (n := jv) (by omega)]) <;> rw [if_pos c7] <;> first | with_reducible rfl | (rw [ei]) | (rw [nI_clamp (by omega), ei]))⟩
        · skip
          have hi2 : i < 23 := cl_in (by omega) (by omega) c18
          refine lv_aload_n hx hb dX9_keep_21 rfl (lv_at hl 1 rfl) ?_
          refine rp_get (C := RX9) (T := TX9) (N := 38) hx hb hts in_X9_keep_X9 hown hK hP 0 (by decide) (kX9 _) rfl 36 (by decide) (by decide +kernel) rfl dX9_keep_22 ?_
          refine lv_bipush (v := 24) hx hb dX9_keep_25 (by decide) ?_
          refine lv_iload_n hx hb dX9_keep_27 rfl (lv_at hl 2 rfl) ?_
          refine lv_imul hx hb dX9_keep_28 ?_
          refine lv_iload_n hx hb dX9_keep_29 rfl (lv_at hl 0 rfl) ?_
          refine lv_iadd hx hb dX9_keep_30 ?_
          refine lv_aload_n hx hb dX9_keep_31 rfl (lv_at hl 1 rfl) ?_
          refine rp_get (C := RX9) (T := TX9) (N := 38) hx hb hts in_X9_keep_X9 hown hK hP 0 (by decide) (kX9 _) rfl 11 (by decide) (by decide +kernel) rfl dX9_keep_32 ?_
          refine lv_iload_n hx hb dX9_keep_35 rfl (lv_at hl 0 rfl) ?_
          refine rp_iald hx hb hK hP 6 (by decide) (kX9_11 _) 0 rfl i rfl (by omega) (by decide) dX9_keep_36 ?_
          rw [show (va_up σ 17 (putN (σ 17) (σ 6) (24 * jv) i)) 6 i = (σ 6 i) from (va_R (by decide))]
          refine rp_iast (x := (σ 6 i)) hx hb hK hP hD hS 17 (by decide) (fun f => kX9_36 f) 0 rfl (24 * jv + i) (nI_lin 24 jv i) (by omega) (by decide) dX9_keep_37 (fun H locs hP hS => ?_)
          refine lv_iinc (v := ((nI i) + 1)) (lv' := [(2, .int ((nI i) + 1)), (0, .ref (ad 0)), (1, .int (nI jv))]) hx hb dX9_keep_38 hl (k := 0) rfl rfl (by decide) rfl (fun ls hl => ?_)
          refine lv_goto (tgt := 15) hx hb dX9_keep_41 (by decide) ?_
          exact ih15 (i + 1) (by omega) (by omega) _ _ _ _ _ ((nI_1 i).symm) (by rw [vu_up, putN_s]) hP hS (lv_sub hl [0, 1, 2] rfl)
    exact L15 ((23 - 0) + 1) 0 (Nat.zero_le _) (Nat.lt_succ_self _) _ _ _ _ _ (by first | rfl | simp [*]) (by rw [putN_0, va_self]) hP hS (lv_sub hl [0, 1, 2] rfl)
  · skip
    have c7 := bi_eq0.mp c7
    refine lv_ldc (v := (-1000000001)) hx hb hown (hts (.constant RX9 206 (-1000000001)) (by decide +kernel)) dX9_keep_10 ?_
    exact hret hP hS dX9_keep_12 rfl ⟨(by unfold R_X9_keep <;> rw [if_neg c7] <;> first | with_reducible rfl | (rw [nI_clamp (by omega), ei])), (by unfold T_X9_keep <;> rw [if_neg c7] <;> first | with_reducible rfl | (rw [nI_clamp (by omega), ei]))⟩

def R_X9_goBack (σ : Nat → Nat → Int32) (v : Int32) : Int32 := (if (0 ≤ v ∧ v ≤ 1) then (if (σ 18 (v.toNatClampNeg)) = 0 then (-1000000003) else 1) else (-1000000001))
def T_X9_goBack (σ : Nat → Nat → Int32) (v : Int32) : Nat → Nat → Int32 := (if (0 ≤ v ∧ v ≤ 1) then (if (σ 18 (v.toNatClampNeg)) = 0 then σ else up2 (up2 (va_up σ 6 (putN (σ 6) (fun j => σ 17 (24 * (v.toNatClampNeg) + j)) 0 23)) 0 12 (σ 17 (24 * (v.toNatClampNeg) + 23))) 0 31 0) else σ)
theorem in_X9_goBack_X9 : ∀ w ∈ u_ws RX9 TX9 38, w ∈ wsX9_goBack := by decide +kernel
set_option maxHeartbeats 1000000 in
set_option maxRecDepth 100000 in
theorem c_X9_goBack (l : Launch) (D : va_G) (cy : Nat → ClassId) (ad : Nat → Nat) (σ : Nat → Nat → Int32) (v : Int32)  : MI l D (tysW cy) 19 ad (cfM ad cy) yX9_goBack wsX9_goBack ({ frames := 1, cells := 0, slots := 0, locals := 25 }) σ [.ref (ad 0), .int v] (fun v_ τ_ => (R_X9_goBack σ v) = v_ ∧ (T_X9_goBack σ v) = τ_) := by
  refine MI.go (cc := cX9_goBack) (maxL := 3) .int (by decide) rfl (Nat.le_of_ble_eq_true rfl) ?_
  intro p_ e_ s_ m_ args_ bl_ mt_ c_ A_ Q_ ls hx hb hml hown hts hK hA hD hP hS hl hret
  have hl : lv_has ls 3 [(0, .ref (ad 0)), (1, .int v)] := hl
  refine lv_iload_n hx hb dX9_goBack_0 rfl (lv_at hl 1 rfl) ?_
  refine lv_i2l (v := (v).toInt64) hx hb dX9_goBack_1 rfl ?_
  refine lv_lconst (v := 0) hx hb dX9_goBack_2 (by decide) ?_
  refine lv_lconst (v := 1) hx hb dX9_goBack_3 (by decide) ?_
  refine rp_callSI (na := 3) hx hb hml hown hts hK hA hD hP hS hl.1 [.long (v).toInt64, .long 0, .long 1] (c_X9_in l D cy ad σ ((v).toInt64) 0 1 ) gX9_goBack_X9_in rfl (by decide +kernel) rfl ⟨Nat.le_of_ble_eq_true rfl, Nat.le_of_ble_eq_true rfl⟩ ⟨rfl, rfl⟩ ⟨Nat.zero_le _, Nat.zero_le _⟩ rfl (Nat.le_of_ble_eq_true rfl) dX9_goBack_4 (fun v_ τ_ H locs hq hP hS => ?_)
  obtain ⟨rfl, rfl⟩ := hq
  rw [in_0_1]
  refine lv_if_ne (tgt := 13) hx hb dX9_goBack_7 (by decide) (fun c7 => ?_) (fun c7 => ?_)
  · skip
    have c7 := bi_ne0.mp c7
    obtain ⟨jv, hjv, rfl⟩ := nI_rng3 (n := 1) (by omega) c7
    refine lv_aload_n hx hb dX9_goBack_13 rfl (lv_at hl 0 rfl) ?_
    refine rp_get (C := RX9) (T := TX9) (N := 38) hx hb hts in_X9_goBack_X9 hown hK hP 0 (by decide) (kX9 _) rfl 37 (by decide) (by decide +kernel) rfl dX9_goBack_14 ?_
    refine lv_iload_n hx hb dX9_goBack_17 rfl (lv_at hl 1 rfl) ?_
    refine rp_zald hx hb hK hP 18 (by decide) (kX9_37 _) 1 rfl jv rfl (by omega) (by decide) dX9_goBack_18 ?_
    refine lv_if_ne (tgt := 25) hx hb dX9_goBack_19 (by decide) (fun c19 => ?_) (fun c19 => ?_)
    · skip
      refine lv_iconst (v := 0) hx hb dX9_goBack_25 (by decide) ?_
      refine lv_istore_n (lv' := [(2, .int 0), (0, .ref (ad 0)), (1, .int (nI jv))]) hx hb dX9_goBack_26 rfl hl (by decide) rfl (fun ls hl => ?_)
      have L27 : ∀ (fu27 : Nat) (i : Nat), (i ≤ 23) → 23 - i < fu27 → ∀ (x2 : Int32) (τ : Nat → Nat → Int32) (H : Heap) (locs : List Loc) (ls : Array Slot), (nI i) = x2 → (va_up σ 6 (putN (σ 6) (fun j => σ 17 (24 * jv + j)) 0 i)) = τ → va_P D classes (rw_ 19 ad (cfM ad cy) τ) H → va_S A_ s_.heap H locs → lv_has ls 3 [(2, .int x2), (0, .ref (ad 0)), (1, .int (nI jv))] → W p_ l e_ ({ frames := 1, cells := 0, slots := 0, locals := 25 }) s_ m_ args_ bl_ mt_ c_ H locs 0 0 Q_ (F0 m_ 27 ls []) := by
        intro fu27
        induction fu27 with
        | zero => intro i hi hf; exact absurd hf (Nat.not_lt_zero _)
        | succ fu27 ih27 =>
          intro i hi hf27 x2 τ H locs ls ex2 eτ hP hS hl
          subst ex2
          subst eτ
          refine lv_iload_n hx hb dX9_goBack_27 rfl (lv_at hl 0 rfl) ?_
          refine lv_bipush (v := 23) hx hb dX9_goBack_28 (by decide) ?_
          refine lv_icmp_ge (tgt := 56) hx hb dX9_goBack_30 (by decide) (fun c30 => ?_) (fun c30 => ?_)
          · skip
            have ei : i = 23 := cl_ex hi (by omega) c30
            refine lv_aload_n hx hb dX9_goBack_56 rfl (lv_at hl 1 rfl) ?_
            refine lv_aload_n hx hb dX9_goBack_57 rfl (lv_at hl 1 rfl) ?_
            refine rp_get (C := RX9) (T := TX9) (N := 38) hx hb hts in_X9_goBack_X9 hown hK hP 0 (by decide) (kX9 _) rfl 36 (by decide) (by decide +kernel) rfl dX9_goBack_58 ?_
            refine lv_bipush (v := 24) hx hb dX9_goBack_61 (by decide) ?_
            refine lv_iload_n hx hb dX9_goBack_63 rfl (lv_at hl 2 rfl) ?_
            refine lv_imul hx hb dX9_goBack_64 ?_
            refine lv_bipush (v := 23) hx hb dX9_goBack_65 (by decide) ?_
            refine lv_iadd hx hb dX9_goBack_67 ?_
            refine rp_iald hx hb hK hP 17 (by decide) (kX9_36 _) 0 rfl (24 * jv + 23) (nI_lin 24 jv 23) (by omega) (by decide) dX9_goBack_68 ?_
            rw [show (va_up σ 6 (putN (σ 6) (fun j => σ 17 (24 * jv + j)) 0 i)) 17 (24 * jv + 23) = (σ 17 (24 * jv + 23)) from (va_R (by decide))]
            refine rp_put (C := RX9) (T := TX9) (N := 38) (v := (σ 17 (24 * jv + 23))) hx hb hts in_X9_goBack_X9 tyX9 tyX9_ok nmX9 hown hK hP hD hS 0 (by decide) (kX9 _) rfl 12 (by decide) (by decide +kernel) rfl rfl rfl (Nat.le_of_ble_eq_true rfl) (kX9 _) dX9_goBack_69 (fun H locs hP hS => ?_)
            refine lv_aload_n hx hb dX9_goBack_72 rfl (lv_at hl 1 rfl) ?_
            refine lv_iconst (v := 0) hx hb dX9_goBack_73 (by decide) ?_
            refine rp_put (C := RX9) (T := TX9) (N := 38) (v := 0) hx hb hts in_X9_goBack_X9 tyX9 tyX9_ok nmX9 hown hK hP hD hS 0 (by decide) (kX9 _) rfl 31 (by decide) (by decide +kernel) rfl rfl rfl (Nat.le_of_ble_eq_true rfl) (kX9 _) dX9_goBack_74 (fun H locs hP hS => ?_)
            refine lv_iconst (v := 1) hx hb dX9_goBack_77 (by decide) ?_
            exact hret hP hS dX9_goBack_78 rfl ⟨(by unfold R_X9_goBack <;> (try rw [nI_clamp (n := jv) (by omega)]) <;> rw [if_pos c7, if_neg c19] <;> first | with_reducible rfl | (rw [ei]) | (rw [nI_clamp (by omega), ei])), (by unfold T_X9_goBack <;> (try rw [nI_clamp (n := jv) (by omega)]) <;> rw [if_pos c7, if_neg c19] <;> first | with_reducible rfl | (rw [ei]) | (rw [nI_clamp (by omega), ei]))⟩
          · skip
            have hi2 : i < 23 := cl_in (by omega) (by omega) c30
            refine lv_aload_n hx hb dX9_goBack_33 rfl (lv_at hl 1 rfl) ?_
            refine rp_get (C := RX9) (T := TX9) (N := 38) hx hb hts in_X9_goBack_X9 hown hK hP 0 (by decide) (kX9 _) rfl 11 (by decide) (by decide +kernel) rfl dX9_goBack_34 ?_
            refine lv_iload_n hx hb dX9_goBack_37 rfl (lv_at hl 0 rfl) ?_
            refine lv_aload_n hx hb dX9_goBack_38 rfl (lv_at hl 1 rfl) ?_
            refine rp_get (C := RX9) (T := TX9) (N := 38) hx hb hts in_X9_goBack_X9 hown hK hP 0 (by decide) (kX9 _) rfl 36 (by decide) (by decide +kernel) rfl dX9_goBack_39 ?_
            refine lv_bipush (v := 24) hx hb dX9_goBack_42 (by decide) ?_
            refine lv_iload_n hx hb dX9_goBack_44 rfl (lv_at hl 2 rfl) ?_
            refine lv_imul hx hb dX9_goBack_45 ?_
            refine lv_iload_n hx hb dX9_goBack_46 rfl (lv_at hl 0 rfl) ?_
            refine lv_iadd hx hb dX9_goBack_47 ?_
            refine rp_iald hx hb hK hP 17 (by decide) (kX9_36 _) 0 rfl (24 * jv + i) (nI_lin 24 jv i) (by omega) (by decide) dX9_goBack_48 ?_
            rw [show (va_up σ 6 (putN (σ 6) (fun j => σ 17 (24 * jv + j)) 0 i)) 17 (24 * jv + i) = (σ 17 (24 * jv + i)) from (va_R (by decide))]
            refine rp_iast (x := (σ 17 (24 * jv + i))) hx hb hK hP hD hS 6 (by decide) (fun f => kX9_11 f) 0 rfl i rfl (by omega) (by decide) dX9_goBack_49 (fun H locs hP hS => ?_)
            refine lv_iinc (v := ((nI i) + 1)) (lv' := [(2, .int ((nI i) + 1)), (0, .ref (ad 0)), (1, .int (nI jv))]) hx hb dX9_goBack_50 hl (k := 0) rfl rfl (by decide) rfl (fun ls hl => ?_)
            refine lv_goto (tgt := 27) hx hb dX9_goBack_53 (by decide) ?_
            exact ih27 (i + 1) (by omega) (by omega) _ _ _ _ _ ((nI_1 i).symm) (by rw [vu_up, ← putN_s, Nat.zero_add]) hP hS (lv_sub hl [0, 1, 2] rfl)
      exact L27 ((23 - 0) + 1) 0 (Nat.zero_le _) (Nat.lt_succ_self _) _ _ _ _ _ (by first | rfl | simp [*]) (by rw [putN_0, va_self]) hP hS (lv_sub hl [0, 1, 2] rfl)
    · skip
      refine lv_ldc (v := (-1000000003)) hx hb hown (hts (.constant RX9 232 (-1000000003)) (by decide +kernel)) dX9_goBack_22 ?_
      exact hret hP hS dX9_goBack_24 rfl ⟨(by unfold R_X9_goBack <;> (try rw [nI_clamp (n := jv) (by omega)]) <;> rw [if_pos c7, if_pos c19] <;> first | with_reducible rfl | (rw [nI_clamp (by omega), ei])), (by unfold T_X9_goBack <;> (try rw [nI_clamp (n := jv) (by omega)]) <;> rw [if_pos c7, if_pos c19] <;> first | with_reducible rfl | (rw [nI_clamp (by omega), ei]))⟩
  · skip
    have c7 := bi_eq0.mp c7
    refine lv_ldc (v := (-1000000001)) hx hb hown (hts (.constant RX9 206 (-1000000001)) (by decide +kernel)) dX9_goBack_10 ?_
    exact hret hP hS dX9_goBack_12 rfl ⟨(by unfold R_X9_goBack <;> rw [if_neg c7] <;> first | with_reducible rfl | (rw [nI_clamp (by omega), ei])), (by unfold T_X9_goBack <;> rw [if_neg c7] <;> first | with_reducible rfl | (rw [nI_clamp (by omega), ei]))⟩
