theorem fil_n {a b c : Nat} (h : a + b + c < 1000) : R_X9_filled (nI a) (nI (b + c)) = nI (min (a + b + c) 99) := by
  unfold R_X9_filled; rw [nI_add, ← Nat.add_assoc]; exact (fill_e h).2
theorem in_X9_alone_X9 : ∀ w ∈ u_ws RX9 TX9 38, w ∈ wsX9_alone := by decide +kernel
set_option maxHeartbeats 1000000 in
set_option maxRecDepth 100000 in
theorem c_X9_alone (l : Launch) (D : va_G) (cy : Nat → ClassId) (ad : Nat → Nat) (σ : Nat → Nat → Int32) (n : Nat) (k : Nat) (v : Int32) (w : Int32) (hn : n ≤ 10) (en : σ 0 5 = nI n) (hk : k ≤ 5) (ek : σ 0 3 = nI k) (hArm : ∀ p, p < k → iN 1 9 (σ 1 p)) (hWet : ∀ s, s < n → ∃ e w, e < w ∧ w ≤ 20 ∧ σ 6 s = nI e ∧ σ 3 s = nI w) (hLev : iN 0 99 (σ 6 12)) (hRn : iN 0 99 (σ 6 13)) (hSp : iN 0 20 (σ 0 2)) : MI l D (tysW cy) 19 ad (cfM ad cy) yX9_alone wsX9_alone ({ frames := 2, cells := 0, slots := 0, locals := 46 }) σ [.ref (ad 0), .int v, .int w] (fun v_ τ_ => (if 0 ≤ v ∧ ¬ nI k ≤ v then (if 0 ≤ w ∧ ¬ nI n ≤ w then (if hasB (σ 6 10 ||| σ 6 11) w then (-1) else aloneN (σ 2) (σ 3) (σ 1) (σ 6) (σ 0 2) v.toNatClampNeg w.toNatClampNeg) else (-1000000001)) else (-1000000001)) = v_ ∧ σ = τ_) := by
  refine MI.go (cc := cX9_alone) (maxL := 9) .int (by decide) rfl (Nat.le_of_ble_eq_true rfl) ?_
  intro p_ e_ s_ m_ args_ bl_ mt_ c_ A_ Q_ ls hx hb hml hown hts hK hA hD hP hS hl hret
  have hl : lv_has ls 9 [(0, .ref (ad 0)), (1, .int v), (2, .int w)] := hl
  refine lv_aload_n hx hb dX9_alone_0 rfl (lv_at hl 0 rfl) ?_
  refine lv_iload_n hx hb dX9_alone_1 rfl (lv_at hl 1 rfl) ?_
  refine rp_callVI (na := 1) hx hb hml hown hts hK hA hD hP hS hl.1 0 (by decide) (kX9 _) rfl [.int v] (c_X9_isPerson l D cy ad σ k v (by first | assumption | omega) (by first | assumption | rfl)) gX9_alone_X9_isPerson rfl (by decide +kernel) rfl ⟨Nat.le_of_ble_eq_true rfl, Nat.le_of_ble_eq_true rfl⟩ ⟨rfl, rfl⟩ ⟨Nat.zero_le _, Nat.zero_le _⟩ rfl (Nat.le_of_ble_eq_true rfl) dX9_alone_2 (fun v_ τ_ H locs hq hP hS => ?_)
  obtain ⟨rfl, rfl⟩ := hq
  refine lv_if_eq (tgt := 16) hx hb dX9_alone_5 (by decide) (fun c5 => ?_) (fun c5 => ?_)
  · skip
    have c5 := bi_eq0.mp c5
    refine lv_ldc (v := (-1000000001)) hx hb hown (hts (.constant RX9 206 (-1000000001)) (by decide +kernel)) dX9_alone_16 ?_
    exact hret hP hS dX9_alone_18 rfl ⟨(by rw [if_neg c5]), rfl⟩
  · skip
    have c5 := bi_ne0.mp c5
    obtain ⟨jv, hjv, rfl⟩ := nI_rng2 c5 (by omega)
    refine lv_aload_n hx hb dX9_alone_8 rfl (lv_at hl 0 rfl) ?_
    refine lv_iload_n hx hb dX9_alone_9 rfl (lv_at hl 2 rfl) ?_
    refine rp_callVI (na := 1) hx hb hml hown hts hK hA hD hP hS hl.1 0 (by decide) (kX9 _) rfl [.int w] (c_X9_isSaying l D cy ad σ n w (by first | assumption | omega) (by first | assumption | rfl)) gX9_alone_X9_isSaying rfl (by decide +kernel) rfl ⟨Nat.le_of_ble_eq_true rfl, Nat.le_of_ble_eq_true rfl⟩ ⟨rfl, rfl⟩ ⟨Nat.zero_le _, Nat.zero_le _⟩ rfl (Nat.le_of_ble_eq_true rfl) dX9_alone_10 (fun v_ τ_ H locs hq hP hS => ?_)
    obtain ⟨rfl, rfl⟩ := hq
    refine lv_if_ne (tgt := 19) hx hb dX9_alone_13 (by decide) (fun c13 => ?_) (fun c13 => ?_)
    · skip
      have c13 := bi_ne0.mp c13
      obtain ⟨jw, hjw, rfl⟩ := nI_rng2 c13 (by omega)
      refine lv_aload_n hx hb dX9_alone_19 rfl (lv_at hl 0 rfl) ?_
      refine rp_get (C := RX9) (T := TX9) (N := 38) hx hb hts in_X9_alone_X9 hown hK hP 0 (by decide) (kX9 _) rfl 11 (by decide) (by decide +kernel) rfl dX9_alone_20 ?_
      refine lv_bipush (v := 10) hx hb dX9_alone_23 (by decide) ?_
      refine rp_iald hx hb hK hP 6 (by decide) (kX9_11 _) 0 rfl 10 rfl (by decide) (by decide) dX9_alone_25 ?_
      refine lv_aload_n hx hb dX9_alone_26 rfl (lv_at hl 0 rfl) ?_
      refine rp_get (C := RX9) (T := TX9) (N := 38) hx hb hts in_X9_alone_X9 hown hK hP 0 (by decide) (kX9 _) rfl 11 (by decide) (by decide +kernel) rfl dX9_alone_27 ?_
      refine lv_bipush (v := 11) hx hb dX9_alone_30 (by decide) ?_
      refine rp_iald hx hb hK hP 6 (by decide) (kX9_11 _) 0 rfl 11 rfl (by decide) (by decide) dX9_alone_32 ?_
      refine lv_ior hx hb dX9_alone_33 ?_
      refine lv_iload_n hx hb dX9_alone_34 rfl (lv_at hl 2 rfl) ?_
      refine rp_callSI (na := 2) hx hb hml hown hts hK hA hD hP hS hl.1 [.int ((σ 6 10) ||| (σ 6 11)), .int (nI jw)] (c_X9_has l D cy ad σ ((σ 6 10) ||| (σ 6 11)) (nI jw) ) gX9_alone_X9_has rfl (by decide +kernel) rfl ⟨Nat.le_of_ble_eq_true rfl, Nat.le_of_ble_eq_true rfl⟩ ⟨rfl, rfl⟩ ⟨Nat.zero_le _, Nat.zero_le _⟩ rfl (Nat.le_of_ble_eq_true rfl) dX9_alone_35 (fun v_ τ_ H locs hq hP hS => ?_)
      obtain ⟨rfl, rfl⟩ := hq
      refine lv_if_eq (tgt := 43) hx hb dX9_alone_38 (by decide) (fun c38 => ?_) (fun c38 => ?_)
      · skip
        have c38 := bi_eq0.mp c38
        obtain ⟨a1, _, ha9, ea⟩ := hArm jv hjv
        obtain ⟨e0, w1, he0, hw20, eN, ew⟩ := hWet jw hjw
        obtain ⟨lv0, _, hlv0, elv⟩ := hLev
        obtain ⟨rn0, _, hrn0, ern⟩ := hRn
        obtain ⟨sp1, _, hsp1, esp⟩ := hSp
        have eF := aloneN_f (ow := σ 2) (wt := σ 3) (ar := σ 1) (N := σ 6) (sp := σ 0 2) (p := jv) (s := jw) (by omega) (by omega) ew ea esp eN elv ern (by omega) (by omega) (by omega) (by omega) (by omega) (by omega)
        have hb12 := byN_12 (σ 2 jw) jv
        refine lv_aload_n hx hb dX9_alone_43 rfl (lv_at hl 0 rfl) ?_
        refine rp_get (C := RX9) (T := TX9) (N := 38) hx hb hts in_X9_alone_X9 hown hK hP 0 (by decide) (kX9 _) rfl 11 (by decide) (by decide +kernel) rfl dX9_alone_44 ?_
        refine lv_bipush (v := 12) hx hb dX9_alone_47 (by decide) ?_
        refine rp_iald hx hb hK hP 6 (by decide) (kX9_11 _) 0 rfl 12 rfl (by decide) (by decide) dX9_alone_49 ?_
        rw [elv]
        refine lv_istore_n (lv' := [(3, .int (nI lv0)), (0, .ref (ad 0)), (1, .int (nI jv)), (2, .int (nI jw))]) hx hb dX9_alone_50 rfl hl (by decide) rfl (fun ls hl => ?_)
        refine lv_aload_n hx hb dX9_alone_51 rfl (lv_at hl 1 rfl) ?_
        refine rp_get (C := RX9) (T := TX9) (N := 38) hx hb hts in_X9_alone_X9 hown hK hP 0 (by decide) (kX9 _) rfl 11 (by decide) (by decide +kernel) rfl dX9_alone_52 ?_
        refine lv_bipush (v := 13) hx hb dX9_alone_55 (by decide) ?_
        refine rp_iald hx hb hK hP 6 (by decide) (kX9_11 _) 0 rfl 13 rfl (by decide) (by decide) dX9_alone_57 ?_
        rw [ern]
        refine lv_istore (lv' := [(4, .int (nI rn0)), (3, .int (nI lv0)), (0, .ref (ad 0)), (1, .int (nI jv)), (2, .int (nI jw))]) hx hb dX9_alone_58 hl (by decide) rfl (fun ls hl => ?_)
        refine lv_aload_n hx hb dX9_alone_60 rfl (lv_at hl 2 rfl) ?_
        refine rp_get (C := RX9) (T := TX9) (N := 38) hx hb hts in_X9_alone_X9 hown hK hP 0 (by decide) (kX9 _) rfl 11 (by decide) (by decide +kernel) rfl dX9_alone_61 ?_
        refine lv_iload_n hx hb dX9_alone_64 rfl (lv_at hl 4 rfl) ?_
        refine rp_iald hx hb hK hP 6 (by decide) (kX9_11 _) 0 rfl jw rfl (by omega) (by decide) dX9_alone_65 ?_
        rw [eN]
        refine lv_istore (lv' := [(5, .int (nI e0)), (4, .int (nI rn0)), (3, .int (nI lv0)), (0, .ref (ad 0)), (1, .int (nI jv)), (2, .int (nI jw))]) hx hb dX9_alone_66 hl (by decide) rfl (fun ls hl => ?_)
        have L83 : ∀ (t0 : Int32) (τ : Nat → Nat → Int32) (H : Heap) (locs : List Loc) (ls : Array Slot), (nI (byN (σ 2 jw) jv)) = t0 → σ = τ → va_P D classes (rw_ 19 ad (cfM ad cy) τ) H → va_S A_ s_.heap H locs → lv_has ls 9 [(5, .int (nI e0)), (4, .int (nI rn0)), (3, .int (nI lv0)), (0, .ref (ad 0)), (1, .int (nI jv)), (2, .int (nI jw))] → W p_ l e_ ({ frames := 2, cells := 0, slots := 0, locals := 46 }) s_ m_ args_ bl_ mt_ c_ H locs 0 0 Q_ (F0 m_ 83 ls [.int t0]) := by
          intro   t0 τ H locs ls et0 eτ hP hS hl
          subst et0
          subst eτ
          refine lv_istore (lv' := [(6, .int (nI (byN (σ 2 jw) jv))), (5, .int (nI e0)), (4, .int (nI rn0)), (3, .int (nI lv0)), (0, .ref (ad 0)), (1, .int (nI jv)), (2, .int (nI jw))]) hx hb dX9_alone_83 hl (by decide) rfl (fun ls hl => ?_)
          refine lv_iconst (v := 0) hx hb dX9_alone_85 (by decide) ?_
          refine lv_istore (lv' := [(7, .int 0), (6, .int (nI (byN (σ 2 jw) jv))), (5, .int (nI e0)), (4, .int (nI rn0)), (3, .int (nI lv0)), (0, .ref (ad 0)), (1, .int (nI jv)), (2, .int (nI jw))]) hx hb dX9_alone_86 hl (by decide) rfl (fun ls hl => ?_)
          have L88 : ∀ (fu88 : Nat) (j : Nat) (e : Nat) (lv : Nat) (rn : Nat), (j ≤ 61) → (e < w1) → (lv ≤ 99) → (rn ≤ 99) → (anN (byN (σ 2 jw) jv) w1 a1 sp1 (61 - j) j e lv rn = anN (byN (σ 2 jw) jv) w1 a1 sp1 61 0 e0 lv0 rn0) → 61 - j < fu88 → ∀ (x7 : Int32) (x5 : Int32) (x4 : Int32) (x3 : Int32) (τ : Nat → Nat → Int32) (H : Heap) (locs : List Loc) (ls : Array Slot), (nI j) = x7 → (nI e) = x5 → (nI rn) = x4 → (nI lv) = x3 → σ = τ → va_P D classes (rw_ 19 ad (cfM ad cy) τ) H → va_S A_ s_.heap H locs → lv_has ls 9 [(7, .int x7), (6, .int (nI (byN (σ 2 jw) jv))), (5, .int x5), (4, .int x4), (3, .int x3), (0, .ref (ad 0)), (1, .int (nI jv)), (2, .int (nI jw))] → W p_ l e_ ({ frames := 2, cells := 0, slots := 0, locals := 46 }) s_ m_ args_ bl_ mt_ c_ H locs 0 0 Q_ (F0 m_ 88 ls []) := by
            intro fu88
            induction fu88 with
            | zero => intro j e lv rn hj he hlv hrn hF hf; exact absurd hf (Nat.not_lt_zero _)
            | succ fu88 ih88 =>
              intro j e lv rn hj he hlv hrn hF hf88 x7 x5 x4 x3 τ H locs ls ex7 ex5 ex4 ex3 eτ hP hS hl
              subst ex7
              subst ex5
              subst ex4
              subst ex3
              subst eτ
              refine lv_iload hx hb dX9_alone_88 (lv_at hl 0 rfl) ?_
              refine lv_bipush (v := 60) hx hb dX9_alone_90 (by decide) ?_
              refine lv_icmp_gt (tgt := 178) hx hb dX9_alone_92 (by decide) (fun c92 => ?_) (fun c92 => ?_)
              · skip
                have ej : j = 61 := cl_gt (n := 60) hj (by omega) c92
                refine lv_iconst (v := (-1)) hx hb dX9_alone_178 (by decide) ?_
                exact hret hP hS dX9_alone_179 rfl ⟨(by rw [if_pos c5, if_pos c13, if_neg c38, eF, ← hF, ej]; rfl), rfl⟩
              · skip
                have hj2 : j ≤ 60 := cl_ngt (n := 60) (by omega) (by omega) c92
                refine lv_aload_n hx hb dX9_alone_95 rfl (lv_at hl 5 rfl) ?_
                refine lv_iload_n hx hb dX9_alone_96 rfl (lv_at hl 6 rfl) ?_
                refine lv_iload_n hx hb dX9_alone_97 rfl (lv_at hl 7 rfl) ?_
                refine lv_iload hx hb dX9_alone_98 (lv_at hl 2 rfl) ?_
                refine lv_iload_n hx hb dX9_alone_100 rfl (lv_at hl 4 rfl) ?_
                refine rp_callVI (na := 4) hx hb hml hown hts hK hA hD hP hS hl.1 0 (by decide) (kX9 _) rfl [.int (nI jv), .int (nI jw), .int (nI e), .int (nI lv)] (c_X9_drawsOf l D cy ad σ (σ 1) (σ 2) (σ 3) jv jw (nI e) (nI lv) rfl rfl rfl (by first | assumption | omega) (by first | assumption | omega)) gX9_alone_X9_drawsOf rfl (by decide +kernel) rfl ⟨Nat.le_of_ble_eq_true rfl, Nat.le_of_ble_eq_true rfl⟩ ⟨rfl, rfl⟩ ⟨Nat.zero_le _, Nat.zero_le _⟩ rfl (Nat.le_of_ble_eq_true rfl) dX9_alone_101 (fun v_ τ_ H locs hq hP hS => ?_)
                obtain ⟨rfl, rfl⟩ := hq
                rw [drw_M (ow := σ 2) ea rfl ew ha9 hw20 (by omega) (by omega)]
                refine lv_istore (lv' := [(8, .int (nI (dwN (byN (σ 2 jw) jv) w1 e a1 lv))), (7, .int (nI j)), (6, .int (nI (byN (σ 2 jw) jv))), (5, .int (nI e)), (4, .int (nI rn)), (3, .int (nI lv)), (0, .ref (ad 0)), (1, .int (nI jv)), (2, .int (nI jw))]) hx hb dX9_alone_104 hl (by decide) rfl (fun ls hl => ?_)
                have L106 : ∀ (fu106 : Nat) (e1 : Nat) (lv1 : Nat) (f : Nat), (e1 ≤ w1) → (lv1 ≤ 99) → (w1 ≤ e1 + f) → (alE (byN (σ 2 jw) jv) w1 a1 f e1 lv1 = alE (byN (σ 2 jw) jv) w1 a1 20 e lv) → (alL (byN (σ 2 jw) jv) w1 a1 f e1 lv1 = alL (byN (σ 2 jw) jv) w1 a1 20 e lv) → w1 - e1 < fu106 → ∀ (x8 : Int32) (x5 : Int32) (x3 : Int32) (τ : Nat → Nat → Int32) (H : Heap) (locs : List Loc) (ls : Array Slot), (nI (dwN (byN (σ 2 jw) jv) w1 e1 a1 lv1)) = x8 → (nI e1) = x5 → (nI lv1) = x3 → σ = τ → va_P D classes (rw_ 19 ad (cfM ad cy) τ) H → va_S A_ s_.heap H locs → lv_has ls 9 [(8, .int x8), (7, .int (nI j)), (6, .int (nI (byN (σ 2 jw) jv))), (5, .int x5), (4, .int (nI rn)), (3, .int x3), (0, .ref (ad 0)), (1, .int (nI jv)), (2, .int (nI jw))] → W p_ l e_ ({ frames := 2, cells := 0, slots := 0, locals := 46 }) s_ m_ args_ bl_ mt_ c_ H locs 0 0 Q_ (F0 m_ 106 ls []) := by
                  intro fu106
                  induction fu106 with
                  | zero => intro e1 lv1 f he1 hlv1 hfu hE hLL hf; exact absurd hf (Nat.not_lt_zero _)
                  | succ fu106 ih106 =>
                    intro e1 lv1 f he1 hlv1 hfu hE hLL hf106 x8 x5 x3 τ H locs ls ex8 ex5 ex3 eτ hP hS hl
                    subst ex8
                    subst ex5
                    subst ex3
                    subst eτ
                    refine lv_iload hx hb dX9_alone_106 (lv_at hl 0 rfl) ?_
                    refine lv_if_le (tgt := 140) hx hb dX9_alone_108 (by decide) (fun c108 => ?_) (fun c108 => ?_)
                    · skip
                      have hd0 : dwN (byN (σ 2 jw) jv) w1 e1 a1 lv1 = 0 := le0 (by have := dwN_lv (byN (σ 2 jw) jv) w1 e1 a1 lv1; omega) c108
                      rw [alE_z hd0] at hE
                      rw [alL_z hd0] at hLL
                      refine lv_iload hx hb dX9_alone_140 (lv_at hl 3 rfl) ?_
                      refine lv_aload_n hx hb dX9_alone_142 rfl (lv_at hl 6 rfl) ?_
                      refine rp_get (C := RX9) (T := TX9) (N := 38) hx hb hts in_X9_alone_X9 hown hK hP 0 (by decide) (kX9 _) rfl 7 (by decide) (by decide +kernel) rfl dX9_alone_143 ?_
                      refine lv_iload_n hx hb dX9_alone_146 rfl (lv_at hl 8 rfl) ?_
                      refine rp_iald hx hb hK hP 3 (by decide) (kX9_7 _) 0 rfl jw rfl (by omega) (by decide) dX9_alone_147 ?_
                      rw [ew]
                      refine lv_icmp_ne (tgt := 154) hx hb dX9_alone_148 (by decide) (fun c148 => ?_) (fun c148 => ?_)
                      · skip
                        have e9 : ¬ e1 = w1 := fun q => c148 (by rw [q])
                        refine lv_iload_n hx hb dX9_alone_154 rfl (lv_at hl 5 rfl) ?_
                        refine lv_aload_n hx hb dX9_alone_155 rfl (lv_at hl 6 rfl) ?_
                        refine rp_get (C := RX9) (T := TX9) (N := 38) hx hb hts in_X9_alone_X9 hown hK hP 0 (by decide) (kX9 _) rfl 2 (by decide) (by decide +kernel) rfl dX9_alone_156 ?_
                        rw [esp]
                        refine lv_iload hx hb dX9_alone_159 (lv_at hl 4 rfl) ?_
                        refine lv_iadd hx hb dX9_alone_161 ?_
                        rw [nI_add]
                        refine rp_callSI (na := 2) hx hb hml hown hts hK hA hD hP hS hl.1 [.int (nI lv1), .int (nI (sp1 + rn))] (c_X9_filled l D cy ad σ (nI lv1) (nI (sp1 + rn)) ) gX9_alone_X9_filled rfl (by decide +kernel) rfl ⟨Nat.le_of_ble_eq_true rfl, Nat.le_of_ble_eq_true rfl⟩ ⟨rfl, rfl⟩ ⟨Nat.zero_le _, Nat.zero_le _⟩ rfl (Nat.le_of_ble_eq_true rfl) dX9_alone_162 (fun v_ τ_ H locs hq hP hS => ?_)
                        obtain ⟨rfl, rfl⟩ := hq
                        rw [fil_n (by omega)]
                        refine lv_istore_n (lv' := [(3, .int (nI (min (lv1 + sp1 + rn) 99))), (8, .int (nI (dwN (byN (σ 2 jw) jv) w1 e1 a1 lv1))), (7, .int (nI j)), (6, .int (nI (byN (σ 2 jw) jv))), (5, .int (nI e1)), (4, .int (nI rn)), (0, .ref (ad 0)), (1, .int (nI jv)), (2, .int (nI jw))]) hx hb dX9_alone_165 rfl hl (by decide) rfl (fun ls hl => ?_)
                        refine lv_iload hx hb dX9_alone_166 (lv_at hl 5 rfl) ?_
                        refine lv_iconst (v := 2) hx hb dX9_alone_168 (by decide) ?_
                        refine lv_idiv hx hb dX9_alone_169 (by first | decide | assumption) ?_
                        rw [nI_d2 (by omega)]
                        refine lv_istore (lv' := [(4, .int (nI (rn / 2))), (3, .int (nI (min (lv1 + sp1 + rn) 99))), (8, .int (nI (dwN (byN (σ 2 jw) jv) w1 e1 a1 lv1))), (7, .int (nI j)), (6, .int (nI (byN (σ 2 jw) jv))), (5, .int (nI e1)), (0, .ref (ad 0)), (1, .int (nI jv)), (2, .int (nI jw))]) hx hb dX9_alone_170 hl (by decide) rfl (fun ls hl => ?_)
                        refine lv_iinc (v := ((nI j) + 1)) (lv' := [(7, .int ((nI j) + 1)), (4, .int (nI (rn / 2))), (3, .int (nI (min (lv1 + sp1 + rn) 99))), (8, .int (nI (dwN (byN (σ 2 jw) jv) w1 e1 a1 lv1))), (6, .int (nI (byN (σ 2 jw) jv))), (5, .int (nI e1)), (0, .ref (ad 0)), (1, .int (nI jv)), (2, .int (nI jw))]) hx hb dX9_alone_172 hl (k := 3) rfl rfl (by decide) rfl (fun ls hl => ?_)
                        refine lv_goto (tgt := 88) hx hb dX9_alone_175 (by decide) ?_
                        exact ih88 (j + 1) e1 (min (lv1 + sp1 + rn) 99) (rn / 2) (by omega) (by omega) (by omega) (by omega) (by rw [← hF, show 61 - j = (61 - (j + 1)) + 1 by omega, anN, if_neg (fun q => e9 (hE.trans q)), ← hE, ← hLL]) (by omega) _ _ _ _ _ _ _ _ ((nI_1 j).symm) rfl rfl rfl rfl hP hS (lv_sub hl [0, 4, 5, 1, 2, 6, 7, 8] rfl)
                      · skip
                        have e9 : e1 = w1 := (nI_eq (by omega) (by omega)).mp c148
                        refine lv_iload hx hb dX9_alone_151 (lv_at hl 1 rfl) ?_
                        exact hret hP hS dX9_alone_153 rfl ⟨(by rw [if_pos c5, if_pos c13, if_neg c38, eF, ← hF, show 61 - j = (60 - j) + 1 by omega, anN, if_pos (hE.symm.trans e9)]), rfl⟩
                    · skip
                      have hd0 : 0 < dwN (byN (σ 2 jw) jv) w1 e1 a1 lv1 := nz_X c108
                      have hd1 := dwN_p hb12 hd0
                      have hd2 := dwN_e (b := (byN (σ 2 jw) jv)) (w := w1) (e := e1) (a := a1) (lv := lv1) hb12
                      have hd3 := dwN_lv (byN (σ 2 jw) jv) w1 e1 a1 lv1
                      obtain ⟨f2, ef⟩ : ∃ f2, f = f2 + 1 := ⟨f - 1, by omega⟩
                      rw [ef] at hE hLL hfu
                      rw [alE_s hd0] at hE
                      rw [alL_s hd0] at hLL
                      refine lv_iload_n hx hb dX9_alone_111 rfl (lv_at hl 5 rfl) ?_
                      refine lv_iload hx hb dX9_alone_112 (lv_at hl 0 rfl) ?_
                      refine lv_isub hx hb dX9_alone_114 ?_
                      rw [pk_sub hd3]
                      refine lv_istore_n (lv' := [(3, .int (nI (lv1 - dwN (byN (σ 2 jw) jv) w1 e1 a1 lv1))), (8, .int (nI (dwN (byN (σ 2 jw) jv) w1 e1 a1 lv1))), (7, .int (nI j)), (6, .int (nI (byN (σ 2 jw) jv))), (5, .int (nI e1)), (4, .int (nI rn)), (0, .ref (ad 0)), (1, .int (nI jv)), (2, .int (nI jw))]) hx hb dX9_alone_115 rfl hl (by decide) rfl (fun ls hl => ?_)
                      refine lv_iload hx hb dX9_alone_116 (lv_at hl 4 rfl) ?_
                      refine lv_iload hx hb dX9_alone_118 (lv_at hl 1 rfl) ?_
                      refine lv_iload hx hb dX9_alone_120 (lv_at hl 3 rfl) ?_
                      refine lv_idiv hx hb dX9_alone_122 (nI_ne0 (by omega) (by omega)) ?_
                      rw [pk_div (by omega) (by omega) (by omega)]
                      refine lv_iadd hx hb dX9_alone_123 ?_
                      rw [nI_add]
                      refine lv_istore (lv' := [(5, .int (nI (e1 + dwN (byN (σ 2 jw) jv) w1 e1 a1 lv1 / (byN (σ 2 jw) jv)))), (3, .int (nI (lv1 - dwN (byN (σ 2 jw) jv) w1 e1 a1 lv1))), (8, .int (nI (dwN (byN (σ 2 jw) jv) w1 e1 a1 lv1))), (7, .int (nI j)), (6, .int (nI (byN (σ 2 jw) jv))), (4, .int (nI rn)), (0, .ref (ad 0)), (1, .int (nI jv)), (2, .int (nI jw))]) hx hb dX9_alone_124 hl (by decide) rfl (fun ls hl => ?_)
                      refine lv_aload_n hx hb dX9_alone_126 rfl (lv_at hl 6 rfl) ?_
                      refine lv_iload_n hx hb dX9_alone_127 rfl (lv_at hl 7 rfl) ?_
                      refine lv_iload_n hx hb dX9_alone_128 rfl (lv_at hl 8 rfl) ?_
                      refine lv_iload hx hb dX9_alone_129 (lv_at hl 0 rfl) ?_
                      refine lv_iload_n hx hb dX9_alone_131 rfl (lv_at hl 1 rfl) ?_
                      refine rp_callVI (na := 4) hx hb hml hown hts hK hA hD hP hS hl.1 0 (by decide) (kX9 _) rfl [.int (nI jv), .int (nI jw), .int (nI (e1 + dwN (byN (σ 2 jw) jv) w1 e1 a1 lv1 / (byN (σ 2 jw) jv))), .int (nI (lv1 - dwN (byN (σ 2 jw) jv) w1 e1 a1 lv1))] (c_X9_drawsOf l D cy ad σ (σ 1) (σ 2) (σ 3) jv jw (nI (e1 + dwN (byN (σ 2 jw) jv) w1 e1 a1 lv1 / (byN (σ 2 jw) jv))) (nI (lv1 - dwN (byN (σ 2 jw) jv) w1 e1 a1 lv1)) rfl rfl rfl (by first | assumption | omega) (by first | assumption | omega)) gX9_alone_X9_drawsOf rfl (by decide +kernel) rfl ⟨Nat.le_of_ble_eq_true rfl, Nat.le_of_ble_eq_true rfl⟩ ⟨rfl, rfl⟩ ⟨Nat.zero_le _, Nat.zero_le _⟩ rfl (Nat.le_of_ble_eq_true rfl) dX9_alone_132 (fun v_ τ_ H locs hq hP hS => ?_)
                      obtain ⟨rfl, rfl⟩ := hq
                      rw [drw_M (ow := σ 2) ea rfl ew ha9 hw20 (by omega) (by omega)]
                      refine lv_istore (lv' := [(8, .int (nI (dwN (byN (σ 2 jw) jv) w1 (e1 + dwN (byN (σ 2 jw) jv) w1 e1 a1 lv1 / (byN (σ 2 jw) jv)) a1 (lv1 - dwN (byN (σ 2 jw) jv) w1 e1 a1 lv1)))), (5, .int (nI (e1 + dwN (byN (σ 2 jw) jv) w1 e1 a1 lv1 / (byN (σ 2 jw) jv)))), (3, .int (nI (lv1 - dwN (byN (σ 2 jw) jv) w1 e1 a1 lv1))), (7, .int (nI j)), (6, .int (nI (byN (σ 2 jw) jv))), (4, .int (nI rn)), (0, .ref (ad 0)), (1, .int (nI jv)), (2, .int (nI jw))]) hx hb dX9_alone_135 hl (by decide) rfl (fun ls hl => ?_)
                      refine lv_goto (tgt := 106) hx hb dX9_alone_137 (by decide) ?_
                      exact ih106 (e1 + dwN (byN (σ 2 jw) jv) w1 e1 a1 lv1 / (byN (σ 2 jw) jv)) (lv1 - dwN (byN (σ 2 jw) jv) w1 e1 a1 lv1) f2 (by omega) (by omega) (by omega) hE hLL (by omega) _ _ _ _ _ _ _ rfl rfl rfl rfl hP hS (lv_sub hl [0, 3, 4, 1, 5, 2, 6, 7, 8] rfl)
                exact L106 ((w1 - e) + 1) e lv 20 (Nat.le_of_lt he) hlv (by omega) rfl rfl (Nat.lt_succ_self _) _ _ _ _ _ _ _ rfl rfl rfl rfl hP hS (lv_sub hl [0, 1, 2, 3, 4, 5, 6, 7, 8] rfl)
          exact L88 ((61 - 0) + 1) 0 e0 lv0 rn0 (Nat.zero_le _) he0 hlv0 hrn0 rfl (Nat.lt_succ_self _) _ _ _ _ _ _ _ _ rfl rfl rfl rfl rfl hP hS (lv_sub hl [0, 1, 2, 3, 4, 5, 6, 7] rfl)
        refine lv_aload_n hx hb dX9_alone_68 rfl (lv_at hl 3 rfl) ?_
        refine rp_get (C := RX9) (T := TX9) (N := 38) hx hb hts in_X9_alone_X9 hown hK hP 0 (by decide) (kX9 _) rfl 6 (by decide) (by decide +kernel) rfl dX9_alone_69 ?_
        refine lv_iload_n hx hb dX9_alone_72 rfl (lv_at hl 5 rfl) ?_
        refine rp_iald hx hb hK hP 2 (by decide) (kX9_6 _) 0 rfl jw rfl (by omega) (by decide) dX9_alone_73 ?_
        refine lv_iload_n hx hb dX9_alone_74 rfl (lv_at hl 4 rfl) ?_
        refine lv_icmp_ne (tgt := 82) hx hb dX9_alone_75 (by decide) (fun c75 => ?_) (fun c75 => ?_)
        · skip
          refine lv_iconst (v := 2) hx hb dX9_alone_82 (by decide) ?_
          exact L83 _ _ _ _ _ (by unfold byN; first | (rw [if_pos c75]; done) | (rw [if_pos c75]; rfl) | (rw [if_neg c75]; done) | (rw [if_neg c75]; rfl)) rfl hP hS (lv_sub hl [0, 1, 2, 3, 4, 5] rfl)
        · skip
          refine lv_iconst (v := 1) hx hb dX9_alone_78 (by decide) ?_
          refine lv_goto (tgt := 83) hx hb dX9_alone_79 (by decide) ?_
          exact L83 _ _ _ _ _ (by unfold byN; first | (rw [if_pos c75]; done) | (rw [if_pos c75]; rfl) | (rw [if_neg c75]; done) | (rw [if_neg c75]; rfl)) rfl hP hS (lv_sub hl [0, 1, 2, 3, 4, 5] rfl)
      · skip
        have c38 := bi_ne0.mp c38
        refine lv_iconst (v := (-1)) hx hb dX9_alone_41 (by decide) ?_
        exact hret hP hS dX9_alone_42 rfl ⟨(by rw [if_pos c5, if_pos c13, if_pos c38]), rfl⟩
    · skip
      have c13 := bi_eq0.mp c13
      refine lv_ldc (v := (-1000000001)) hx hb hown (hts (.constant RX9 206 (-1000000001)) (by decide +kernel)) dX9_alone_16 ?_
      exact hret hP hS dX9_alone_18 rfl ⟨(by rw [if_pos c5, if_neg c13]), rfl⟩
