theorem in_X6_nightsAlone_X6 : ∀ w ∈ u_ws RX6 TX6 10, w ∈ wsX6_nightsAlone := by decide +kernel
theorem in_X6_nightsAlone_X7 : ∀ w ∈ u_ws RX7 TX7 12, w ∈ wsX6_nightsAlone := by decide +kernel
set_option maxHeartbeats 1000000 in
set_option maxRecDepth 100000 in
theorem c_X6_nightsAlone (l : Launch) (D : va_G) (cy : Nat → ClassId) (ad : Nat → Nat) (y z : Nat) (σ : Nat → Nat → Int32) (ar : Nat → Int32) (ow : Nat → Int32) (wt : Nat → Int32) (O : Nat → Int32) (V : Nat → Int32) (sp : Int32) (i : Nat) (b : Nat) (p : Nat) (s : Nat) (n : Nat) (k : Nat) (r_ar : σ (b + 1) = ar) (r_ow : σ (b + 2) = ow) (r_wt : σ (b + 3) = wt) (r_O : σ (29 + 4 * i) = O) (r_V : σ (29 + 4 * i + 1) = V) (s_sp : σ b 2 = sp) (Hi : i < 20) (Hb : b = 3 ∨ b = 10) (hn : n ≤ 10) (en : σ b 5 = nI n) (hk : k ≤ 5) (ek : σ b 3 = nI k) (hp : p < k) (hs : s < n) : MI l D (tysW cy) 109 ad (cfX ad cy y z) yX6_nightsAlone wsX6_nightsAlone ({ frames := 3, cells := 0, slots := 0, locals := 70 }) σ [.ref (ad (29 + 4 * i)), .ref (ad b), .int (nI p), .int (nI s)] (fun v_ τ_ => (nfR ar ow wt O V sp p s) = v_ ∧ (va_up (va_up σ (29 + 4 * i) (nfO ar ow wt O V sp p s)) (29 + 4 * i + 1) (nfV ar ow wt O V sp p s)) = τ_) := by
  refine MI.go (cc := cX6_nightsAlone) (maxL := 6) .int (by decide) rfl (Nat.le_of_ble_eq_true rfl) ?_
  intro p_ e_ s_ m_ args_ bl_ mt_ c_ A_ Q_ ls hx hb hml hown hts hK hA hD hP hS hl hret
  have hl : lv_has ls 6 [(0, .ref (ad (29 + 4 * i))), (1, .ref (ad b)), (2, .int (nI p)), (3, .int (nI s))] := hl
  subst r_ar r_ow r_wt r_O r_V s_sp
  have hP : va_P D classes (rw_ 109 ad (cfX ad cy y z) (va_up (va_up σ (29 + 4 * i) (σ (29 + 4 * i))) (29 + 4 * i + 1) (σ (29 + 4 * i + 1)))) s_.heap := by rw [va_selfR _ (29 + 4 * i + 1) ((va_Q (by omega))), va_selfR _ (29 + 4 * i) (rfl)]; exact hP
  refine lv_iload_n hx hb dX6_nightsAlone_0 rfl (lv_at hl 3 rfl) ?_
  refine lv_aload_n hx hb dX6_nightsAlone_1 rfl (lv_at hl 0 rfl) ?_
  refine rp_get (C := RX6) (T := TX6) (N := 10) hx hb hts in_X6_nightsAlone_X6 hown hK hP (29 + 4 * i) (hX6 (i := i) Hi).1 (kX6 (i := i) _) rfl 4 (by decide) (by decide +kernel) rfl dX6_nightsAlone_2 ?_
  rw [show (va_up (va_up σ (29 + 4 * i) (σ (29 + 4 * i))) (29 + 4 * i + 1) (σ (29 + 4 * i + 1))) (29 + 4 * i) 4 = (σ (29 + 4 * i) 4) from ((va_R (by omega)).trans va_S')]
  refine rp_callSI (na := 2) hx hb hml hown hts hK hA hD hP hS hl.1 [.int (nI s), .int (σ (29 + 4 * i) 4)] (c_X7_isIn l D cy ad y z (va_up (va_up σ (29 + 4 * i) (σ (29 + 4 * i))) (29 + 4 * i + 1) (σ (29 + 4 * i + 1))) (nI s) (σ (29 + 4 * i) 4) ) gX6_nightsAlone_X7_isIn rfl (by decide +kernel) rfl ⟨Nat.le_of_ble_eq_true rfl, Nat.le_of_ble_eq_true rfl⟩ ⟨rfl, rfl⟩ ⟨Nat.zero_le _, Nat.zero_le _⟩ rfl (Nat.le_of_ble_eq_true rfl) dX6_nightsAlone_5 (fun v_ τ_ H locs hq hP hS => ?_)
  obtain ⟨rfl, rfl⟩ := hq
  refine lv_if_eq (tgt := 13) hx hb dX6_nightsAlone_8 (by decide) (fun c8 => ?_) (fun c8 => ?_)
  · skip
    have c8 := bi_eq0.mp c8
    refine lv_iconst (v := 0) hx hb dX6_nightsAlone_13 (by decide) ?_
    refine lv_istore (lv' := [(4, .int 0), (0, .ref (ad (29 + 4 * i))), (1, .ref (ad b)), (2, .int (nI p)), (3, .int (nI s))]) hx hb dX6_nightsAlone_14 hl (by decide) rfl (fun ls hl => ?_)
    have L16 : ∀ (fu16 : Nat) (j : Nat) (O1 : Nat → Int32) (V1 : Nat → Int32), (j ≤ 61) → (naR (σ (b + 1)) (σ (b + 2)) (σ (b + 3)) (σ b 2) p s (61 - j) j O1 V1 = naR (σ (b + 1)) (σ (b + 2)) (σ (b + 3)) (σ b 2) p s 61 0 (σ (29 + 4 * i)) (σ (29 + 4 * i + 1))) → (naA (σ (b + 1)) (σ (b + 2)) (σ (b + 3)) (σ b 2) p s (61 - j) j O1 V1 = naA (σ (b + 1)) (σ (b + 2)) (σ (b + 3)) (σ b 2) p s 61 0 (σ (29 + 4 * i)) (σ (29 + 4 * i + 1))) → (naB (σ (b + 1)) (σ (b + 2)) (σ (b + 3)) (σ b 2) p s (61 - j) j O1 V1 = naB (σ (b + 1)) (σ (b + 2)) (σ (b + 3)) (σ b 2) p s 61 0 (σ (29 + 4 * i)) (σ (29 + 4 * i + 1))) → 61 - j < fu16 → ∀ (x4 : Int32) (τ : Nat → Nat → Int32) (H : Heap) (locs : List Loc) (ls : Array Slot), (nI j) = x4 → (va_up (va_up σ (29 + 4 * i) O1) (29 + 4 * i + 1) V1) = τ → va_P D classes (rw_ 109 ad (cfX ad cy y z) τ) H → va_S A_ s_.heap H locs → lv_has ls 6 [(4, .int x4), (0, .ref (ad (29 + 4 * i))), (1, .ref (ad b)), (2, .int (nI p)), (3, .int (nI s))] → W p_ l e_ ({ frames := 3, cells := 0, slots := 0, locals := 70 }) s_ m_ args_ bl_ mt_ c_ H locs 0 0 Q_ (F0 m_ 16 ls []) := by
      intro fu16
      induction fu16 with
      | zero => intro j O1 V1 hj hnaR hnaA hnaB hf; exact absurd hf (Nat.not_lt_zero _)
      | succ fu16 ih16 =>
        intro j O1 V1 hj hnaR hnaA hnaB hf16 x4 τ H locs ls ex4 eτ hP hS hl
        subst ex4
        subst eτ
        refine lv_iload hx hb dX6_nightsAlone_16 (lv_at hl 0 rfl) ?_
        refine lv_bipush (v := 60) hx hb dX6_nightsAlone_18 (by decide) ?_
        refine lv_icmp_gt (tgt := 85) hx hb dX6_nightsAlone_20 (by decide) (fun c20 => ?_) (fun c20 => ?_)
        · skip
          have ej : j = 61 := cl_gt (n := 60) hj (by omega) c20
          refine lv_iconst (v := (-1)) hx hb dX6_nightsAlone_85 (by decide) ?_
          exact hret hP hS dX6_nightsAlone_86 rfl ⟨(by unfold nfR; rw [if_neg c8, ← hnaR, ej]; rfl), (by unfold nfO nfV; rw [if_neg c8, if_neg c8, ← hnaA, ← hnaB, ej]; rfl)⟩
        · skip
          have hj2 : j ≤ 60 := cl_ngt (n := 60) (by omega) (by omega) c20
          refine lv_iconst (v := 0) hx hb dX6_nightsAlone_23 (by decide) ?_
          refine lv_istore (lv' := [(5, .int 0), (4, .int (nI j)), (0, .ref (ad (29 + 4 * i))), (1, .ref (ad b)), (2, .int (nI p)), (3, .int (nI s))]) hx hb dX6_nightsAlone_24 hl (by decide) rfl (fun ls hl => ?_)
          have L26 : ∀ (fu26 : Nat) (c : Nat) (O2 : Nat → Int32) (V2 : Nat → Int32), (c ≤ 20) → (naO (σ (b + 1)) (σ (b + 2)) (σ (b + 3)) p s (20 - c) O2 V2 = naO (σ (b + 1)) (σ (b + 2)) (σ (b + 3)) p s 20 O1 V1) → (naV (σ (b + 1)) (σ (b + 2)) (σ (b + 3)) p s (20 - c) O2 V2 = naV (σ (b + 1)) (σ (b + 2)) (σ (b + 3)) p s 20 O1 V1) → 20 - c < fu26 → ∀ (x5 : Int32) (τ : Nat → Nat → Int32) (H : Heap) (locs : List Loc) (ls : Array Slot), (nI c) = x5 → (va_up (va_up σ (29 + 4 * i) O2) (29 + 4 * i + 1) V2) = τ → va_P D classes (rw_ 109 ad (cfX ad cy y z) τ) H → va_S A_ s_.heap H locs → lv_has ls 6 [(5, .int x5), (4, .int (nI j)), (0, .ref (ad (29 + 4 * i))), (1, .ref (ad b)), (2, .int (nI p)), (3, .int (nI s))] → W p_ l e_ ({ frames := 3, cells := 0, slots := 0, locals := 70 }) s_ m_ args_ bl_ mt_ c_ H locs 0 0 Q_ (F0 m_ 26 ls []) := by
            intro fu26
            induction fu26 with
            | zero => intro c O2 V2 hc hO2 hV2 hf; exact absurd hf (Nat.not_lt_zero _)
            | succ fu26 ih26 =>
              intro c O2 V2 hc hO2 hV2 hf26 x5 τ H locs ls ex5 eτ hP hS hl
              subst ex5
              subst eτ
              refine lv_iload hx hb dX6_nightsAlone_26 (lv_at hl 0 rfl) ?_
              refine lv_bipush (v := 20) hx hb dX6_nightsAlone_28 (by decide) ?_
              refine lv_icmp_ge (tgt := 57) hx hb dX6_nightsAlone_30 (by decide) (fun c30 => ?_) (fun c30 => ?_)
              · skip
                have ec : c = 20 := cl_ex (n := 20) hc (by omega) c30
                have eO : naO (σ (b + 1)) (σ (b + 2)) (σ (b + 3)) p s 20 O1 V1 = O2 := by rw [← hO2, ec]; rfl
                have eV : naV (σ (b + 1)) (σ (b + 2)) (σ (b + 3)) p s 20 O1 V1 = V2 := by rw [← hV2, ec]; rfl
                refine lv_iload_n hx hb dX6_nightsAlone_57 rfl (lv_at hl 5 rfl) ?_
                refine lv_aload_n hx hb dX6_nightsAlone_58 rfl (lv_at hl 2 rfl) ?_
                refine rp_get (C := RX6) (T := TX6) (N := 10) hx hb hts in_X6_nightsAlone_X6 hown hK hP (29 + 4 * i) (hX6 (i := i) Hi).1 (kX6 (i := i) _) rfl 4 (by decide) (by decide +kernel) rfl dX6_nightsAlone_59 ?_
                rw [show (va_up (va_up σ (29 + 4 * i) O2) (29 + 4 * i + 1) V2) (29 + 4 * i) 4 = (O2 4) from ((va_R (by omega)).trans va_S')]
                refine rp_callSI (na := 2) hx hb hml hown hts hK hA hD hP hS hl.1 [.int (nI s), .int (O2 4)] (c_X7_isIn l D cy ad y z (va_up (va_up σ (29 + 4 * i) O2) (29 + 4 * i + 1) V2) (nI s) (O2 4) ) gX6_nightsAlone_X7_isIn rfl (by decide +kernel) rfl ⟨Nat.le_of_ble_eq_true rfl, Nat.le_of_ble_eq_true rfl⟩ ⟨rfl, rfl⟩ ⟨Nat.zero_le _, Nat.zero_le _⟩ rfl (Nat.le_of_ble_eq_true rfl) dX6_nightsAlone_62 (fun v_ τ_ H locs hq hP hS => ?_)
                obtain ⟨rfl, rfl⟩ := hq
                refine lv_if_eq (tgt := 71) hx hb dX6_nightsAlone_65 (by decide) (fun c65 => ?_) (fun c65 => ?_)
                · skip
                  have c65 := bi_eq0.mp c65
                  have zR : naR (σ (b + 1)) (σ (b + 2)) (σ (b + 3)) (σ b 2) p s (61 - j) j O1 V1 = naR (σ (b + 1)) (σ (b + 2)) (σ (b + 3)) (σ b 2) p s (61 - (j + 1)) (j + 1) (T_X6_passNight_O O2 (σ b 2)) V2 := by rw [show 61 - j = (61 - (j + 1)) + 1 by omega, naR, if_neg (by rw [eO]; exact c65), eO, eV]
                  have zA : naA (σ (b + 1)) (σ (b + 2)) (σ (b + 3)) (σ b 2) p s (61 - j) j O1 V1 = naA (σ (b + 1)) (σ (b + 2)) (σ (b + 3)) (σ b 2) p s (61 - (j + 1)) (j + 1) (T_X6_passNight_O O2 (σ b 2)) V2 := by rw [show 61 - j = (61 - (j + 1)) + 1 by omega, naA, if_neg (by rw [eO]; exact c65), eO, eV]
                  have zB : naB (σ (b + 1)) (σ (b + 2)) (σ (b + 3)) (σ b 2) p s (61 - j) j O1 V1 = naB (σ (b + 1)) (σ (b + 2)) (σ (b + 3)) (σ b 2) p s (61 - (j + 1)) (j + 1) (T_X6_passNight_O O2 (σ b 2)) V2 := by rw [show 61 - j = (61 - (j + 1)) + 1 by omega, naB, if_neg (by rw [eO]; exact c65), eO, eV]
                  refine lv_aload_n hx hb dX6_nightsAlone_71 rfl (lv_at hl 2 rfl) ?_
                  refine lv_aload_n hx hb dX6_nightsAlone_72 rfl (lv_at hl 3 rfl) ?_
                  refine rp_get (C := RX7) (T := TX7) (N := 12) hx hb hts in_X6_nightsAlone_X7 hown hK hP b (hX7 Hb).1 (kX7 Hb _) rfl 2 (by decide) (by decide +kernel) rfl dX6_nightsAlone_73 ?_
                  rw [show (va_up (va_up σ (29 + 4 * i) O2) (29 + 4 * i + 1) V2) b 2 = (σ b 2) from ((va_R (by omega)).trans (va_R (by omega)))]
                  refine rp_callVV (na := 1) hx hb hml hown hts hK hA hD hP hS hl.1 (29 + 4 * i) (hX6 (i := i) Hi).1 (kX6 (i := i) _) rfl [.int (σ b 2)] (c_X6_passNight l D cy ad y z (va_up (va_up σ (29 + 4 * i) O2) (29 + 4 * i + 1) V2) O2 i (σ b 2) ((va_Q (by omega)).trans va_Qs) Hi) gX6_nightsAlone_X6_passNight rfl (by decide +kernel) rfl ⟨Nat.le_of_ble_eq_true rfl, Nat.le_of_ble_eq_true rfl⟩ ⟨rfl, rfl⟩ ⟨Nat.zero_le _, Nat.zero_le _⟩ rfl (Nat.le_of_ble_eq_true rfl) dX6_nightsAlone_76 (fun τ_ H locs hq hP hS => ?_)
                  subst hq
                  rw [show va_up (va_up (va_up σ (29 + 4 * i) O2) (29 + 4 * i + 1) V2) (29 + 4 * i) (T_X6_passNight_O O2 (σ b 2)) = va_up (va_up σ (29 + 4 * i) (T_X6_passNight_O O2 (σ b 2))) (29 + 4 * i + 1) V2 from ((va_in (by omega)).trans (congrArg (fun z => va_up z (29 + 4 * i + 1) _) (bx_uu _ _ _ _)))] at hP
                  refine lv_iinc (v := ((nI j) + 1)) (lv' := [(4, .int ((nI j) + 1)), (5, .int (nI c)), (0, .ref (ad (29 + 4 * i))), (1, .ref (ad b)), (2, .int (nI p)), (3, .int (nI s))]) hx hb dX6_nightsAlone_79 hl (k := 1) rfl rfl (by decide) rfl (fun ls hl => ?_)
                  refine lv_goto (tgt := 16) hx hb dX6_nightsAlone_82 (by decide) ?_
                  exact ih16 (j + 1) _ _ (by omega) (by rw [← hnaR, zR]) (by rw [← hnaA, zA]) (by rw [← hnaB, zB]) (by omega) _ _ _ _ _ ((nI_1 j).symm) rfl hP hS (lv_sub hl [0, 2, 3, 4, 5] rfl)
                · skip
                  have c65 := bi_ne0.mp c65
                  have zR : naR (σ (b + 1)) (σ (b + 2)) (σ (b + 3)) (σ b 2) p s (61 - j) j O1 V1 = nI j := by rw [show 61 - j = (61 - (j + 1)) + 1 by omega, naR, if_pos (by rw [eO]; exact c65)]
                  have zA : naA (σ (b + 1)) (σ (b + 2)) (σ (b + 3)) (σ b 2) p s (61 - j) j O1 V1 = O2 := by rw [show 61 - j = (61 - (j + 1)) + 1 by omega, naA, if_pos (by rw [eO]; exact c65), eO]
                  have zB : naB (σ (b + 1)) (σ (b + 2)) (σ (b + 3)) (σ b 2) p s (61 - j) j O1 V1 = V2 := by rw [show 61 - j = (61 - (j + 1)) + 1 by omega, naB, if_pos (by rw [eO]; exact c65), eV]
                  refine lv_iload hx hb dX6_nightsAlone_68 (lv_at hl 1 rfl) ?_
                  exact hret hP hS dX6_nightsAlone_70 rfl ⟨(by unfold nfR; rw [if_neg c8, ← hnaR, zR]), (by unfold nfO nfV; rw [if_neg c8, if_neg c8, ← hnaA, ← hnaB, zA, zB])⟩
              · skip
                have hc2 : c < 20 := cl_in (n := 20) (by omega) (by omega) c30
                refine lv_aload_n hx hb dX6_nightsAlone_33 rfl (lv_at hl 2 rfl) ?_
                refine lv_aload_n hx hb dX6_nightsAlone_34 rfl (lv_at hl 3 rfl) ?_
                refine lv_iload_n hx hb dX6_nightsAlone_35 rfl (lv_at hl 4 rfl) ?_
                refine lv_iload_n hx hb dX6_nightsAlone_36 rfl (lv_at hl 5 rfl) ?_
                refine rp_callVI (na := 3) hx hb hml hown hts hK hA hD hP hS hl.1 (29 + 4 * i) (hX6 (i := i) Hi).1 (kX6 (i := i) _) rfl [.ref (ad b), .int (nI p), .int (nI s)] (c_X6_drawable l D cy ad y z (va_up (va_up σ (29 + 4 * i) O2) (29 + 4 * i + 1) V2) (σ (b + 1)) (σ (b + 2)) (σ (b + 3)) O2 V2 i b p s n k ((va_Q (by omega)).trans (va_Q (by omega))) ((va_Q (by omega)).trans (va_Q (by omega))) ((va_Q (by omega)).trans (va_Q (by omega))) ((va_Q (by omega)).trans va_Qs) va_Qs Hi Hb (by first | assumption | omega) (((va_R (by omega)).trans (va_R (by omega))).trans (by first | assumption | rfl)) (by first | assumption | omega) (((va_R (by omega)).trans (va_R (by omega))).trans (by first | assumption | rfl)) (by first | assumption | omega) (by first | assumption | omega)) gX6_nightsAlone_X6_drawable rfl (by decide +kernel) rfl ⟨Nat.le_of_ble_eq_true rfl, Nat.le_of_ble_eq_true rfl⟩ ⟨rfl, rfl⟩ ⟨Nat.zero_le _, Nat.zero_le _⟩ rfl (Nat.le_of_ble_eq_true rfl) dX6_nightsAlone_37 (fun v_ τ_ H locs hq hP hS => ?_)
                obtain ⟨rfl, rfl⟩ := hq
                refine lv_if_le (tgt := 57) hx hb dX6_nightsAlone_40 (by decide) (fun c40 => ?_) (fun c40 => ?_)
                · skip
                  have eO : naO (σ (b + 1)) (σ (b + 2)) (σ (b + 3)) p s 20 O1 V1 = O2 := by rw [← hO2, naO_t c40]
                  have eV : naV (σ (b + 1)) (σ (b + 2)) (σ (b + 3)) p s 20 O1 V1 = V2 := by rw [← hV2, naV_t c40]
                  refine lv_iload_n hx hb dX6_nightsAlone_57 rfl (lv_at hl 5 rfl) ?_
                  refine lv_aload_n hx hb dX6_nightsAlone_58 rfl (lv_at hl 2 rfl) ?_
                  refine rp_get (C := RX6) (T := TX6) (N := 10) hx hb hts in_X6_nightsAlone_X6 hown hK hP (29 + 4 * i) (hX6 (i := i) Hi).1 (kX6 (i := i) _) rfl 4 (by decide) (by decide +kernel) rfl dX6_nightsAlone_59 ?_
                  rw [show (va_up (va_up σ (29 + 4 * i) O2) (29 + 4 * i + 1) V2) (29 + 4 * i) 4 = (O2 4) from ((va_R (by omega)).trans va_S')]
                  refine rp_callSI (na := 2) hx hb hml hown hts hK hA hD hP hS hl.1 [.int (nI s), .int (O2 4)] (c_X7_isIn l D cy ad y z (va_up (va_up σ (29 + 4 * i) O2) (29 + 4 * i + 1) V2) (nI s) (O2 4) ) gX6_nightsAlone_X7_isIn rfl (by decide +kernel) rfl ⟨Nat.le_of_ble_eq_true rfl, Nat.le_of_ble_eq_true rfl⟩ ⟨rfl, rfl⟩ ⟨Nat.zero_le _, Nat.zero_le _⟩ rfl (Nat.le_of_ble_eq_true rfl) dX6_nightsAlone_62 (fun v_ τ_ H locs hq hP hS => ?_)
                  obtain ⟨rfl, rfl⟩ := hq
                  refine lv_if_eq (tgt := 71) hx hb dX6_nightsAlone_65 (by decide) (fun c65 => ?_) (fun c65 => ?_)
                  · skip
                    have c65 := bi_eq0.mp c65
                    have zR : naR (σ (b + 1)) (σ (b + 2)) (σ (b + 3)) (σ b 2) p s (61 - j) j O1 V1 = naR (σ (b + 1)) (σ (b + 2)) (σ (b + 3)) (σ b 2) p s (61 - (j + 1)) (j + 1) (T_X6_passNight_O O2 (σ b 2)) V2 := by rw [show 61 - j = (61 - (j + 1)) + 1 by omega, naR, if_neg (by rw [eO]; exact c65), eO, eV]
                    have zA : naA (σ (b + 1)) (σ (b + 2)) (σ (b + 3)) (σ b 2) p s (61 - j) j O1 V1 = naA (σ (b + 1)) (σ (b + 2)) (σ (b + 3)) (σ b 2) p s (61 - (j + 1)) (j + 1) (T_X6_passNight_O O2 (σ b 2)) V2 := by rw [show 61 - j = (61 - (j + 1)) + 1 by omega, naA, if_neg (by rw [eO]; exact c65), eO, eV]
                    have zB : naB (σ (b + 1)) (σ (b + 2)) (σ (b + 3)) (σ b 2) p s (61 - j) j O1 V1 = naB (σ (b + 1)) (σ (b + 2)) (σ (b + 3)) (σ b 2) p s (61 - (j + 1)) (j + 1) (T_X6_passNight_O O2 (σ b 2)) V2 := by rw [show 61 - j = (61 - (j + 1)) + 1 by omega, naB, if_neg (by rw [eO]; exact c65), eO, eV]
                    refine lv_aload_n hx hb dX6_nightsAlone_71 rfl (lv_at hl 2 rfl) ?_
                    refine lv_aload_n hx hb dX6_nightsAlone_72 rfl (lv_at hl 3 rfl) ?_
                    refine rp_get (C := RX7) (T := TX7) (N := 12) hx hb hts in_X6_nightsAlone_X7 hown hK hP b (hX7 Hb).1 (kX7 Hb _) rfl 2 (by decide) (by decide +kernel) rfl dX6_nightsAlone_73 ?_
                    rw [show (va_up (va_up σ (29 + 4 * i) O2) (29 + 4 * i + 1) V2) b 2 = (σ b 2) from ((va_R (by omega)).trans (va_R (by omega)))]
                    refine rp_callVV (na := 1) hx hb hml hown hts hK hA hD hP hS hl.1 (29 + 4 * i) (hX6 (i := i) Hi).1 (kX6 (i := i) _) rfl [.int (σ b 2)] (c_X6_passNight l D cy ad y z (va_up (va_up σ (29 + 4 * i) O2) (29 + 4 * i + 1) V2) O2 i (σ b 2) ((va_Q (by omega)).trans va_Qs) Hi) gX6_nightsAlone_X6_passNight rfl (by decide +kernel) rfl ⟨Nat.le_of_ble_eq_true rfl, Nat.le_of_ble_eq_true rfl⟩ ⟨rfl, rfl⟩ ⟨Nat.zero_le _, Nat.zero_le _⟩ rfl (Nat.le_of_ble_eq_true rfl) dX6_nightsAlone_76 (fun τ_ H locs hq hP hS => ?_)
                    subst hq
                    rw [show va_up (va_up (va_up σ (29 + 4 * i) O2) (29 + 4 * i + 1) V2) (29 + 4 * i) (T_X6_passNight_O O2 (σ b 2)) = va_up (va_up σ (29 + 4 * i) (T_X6_passNight_O O2 (σ b 2))) (29 + 4 * i + 1) V2 from ((va_in (by omega)).trans (congrArg (fun z => va_up z (29 + 4 * i + 1) _) (bx_uu _ _ _ _)))] at hP
                    refine lv_iinc (v := ((nI j) + 1)) (lv' := [(4, .int ((nI j) + 1)), (5, .int (nI c)), (0, .ref (ad (29 + 4 * i))), (1, .ref (ad b)), (2, .int (nI p)), (3, .int (nI s))]) hx hb dX6_nightsAlone_79 hl (k := 1) rfl rfl (by decide) rfl (fun ls hl => ?_)
                    refine lv_goto (tgt := 16) hx hb dX6_nightsAlone_82 (by decide) ?_
                    exact ih16 (j + 1) _ _ (by omega) (by rw [← hnaR, zR]) (by rw [← hnaA, zA]) (by rw [← hnaB, zB]) (by omega) _ _ _ _ _ ((nI_1 j).symm) rfl hP hS (lv_sub hl [0, 2, 3, 4, 5] rfl)
                  · skip
                    have c65 := bi_ne0.mp c65
                    have zR : naR (σ (b + 1)) (σ (b + 2)) (σ (b + 3)) (σ b 2) p s (61 - j) j O1 V1 = nI j := by rw [show 61 - j = (61 - (j + 1)) + 1 by omega, naR, if_pos (by rw [eO]; exact c65)]
                    have zA : naA (σ (b + 1)) (σ (b + 2)) (σ (b + 3)) (σ b 2) p s (61 - j) j O1 V1 = O2 := by rw [show 61 - j = (61 - (j + 1)) + 1 by omega, naA, if_pos (by rw [eO]; exact c65), eO]
                    have zB : naB (σ (b + 1)) (σ (b + 2)) (σ (b + 3)) (σ b 2) p s (61 - j) j O1 V1 = V2 := by rw [show 61 - j = (61 - (j + 1)) + 1 by omega, naB, if_pos (by rw [eO]; exact c65), eV]
                    refine lv_iload hx hb dX6_nightsAlone_68 (lv_at hl 1 rfl) ?_
                    exact hret hP hS dX6_nightsAlone_70 rfl ⟨(by unfold nfR; rw [if_neg c8, ← hnaR, zR]), (by unfold nfO nfV; rw [if_neg c8, if_neg c8, ← hnaA, ← hnaB, zA, zB])⟩
                · skip
                  refine lv_aload_n hx hb dX6_nightsAlone_43 rfl (lv_at hl 2 rfl) ?_
                  refine lv_aload_n hx hb dX6_nightsAlone_44 rfl (lv_at hl 3 rfl) ?_
                  refine lv_iload_n hx hb dX6_nightsAlone_45 rfl (lv_at hl 4 rfl) ?_
                  refine lv_iload_n hx hb dX6_nightsAlone_46 rfl (lv_at hl 5 rfl) ?_
                  refine rp_callVI (na := 3) hx hb hml hown hts hK hA hD hP hS hl.1 (29 + 4 * i) (hX6 (i := i) Hi).1 (kX6 (i := i) _) rfl [.ref (ad b), .int (nI p), .int (nI s)] (c_X6_pourOn l D cy ad y z (va_up (va_up σ (29 + 4 * i) O2) (29 + 4 * i + 1) V2) (σ (b + 1)) (σ (b + 2)) (σ (b + 3)) O2 V2 i b p s n k ((va_Q (by omega)).trans (va_Q (by omega))) ((va_Q (by omega)).trans (va_Q (by omega))) ((va_Q (by omega)).trans (va_Q (by omega))) ((va_Q (by omega)).trans va_Qs) va_Qs Hi Hb (by first | assumption | omega) (((va_R (by omega)).trans (va_R (by omega))).trans (by first | assumption | rfl)) (by first | assumption | omega) (((va_R (by omega)).trans (va_R (by omega))).trans (by first | assumption | rfl)) (by first | assumption | omega) (by first | assumption | omega)) gX6_nightsAlone_X6_pourOn rfl (by decide +kernel) rfl ⟨Nat.le_of_ble_eq_true rfl, Nat.le_of_ble_eq_true rfl⟩ ⟨rfl, rfl⟩ ⟨Nat.zero_le _, Nat.zero_le _⟩ rfl (Nat.le_of_ble_eq_true rfl) dX6_nightsAlone_47 (fun v_ τ_ H locs hq hP hS => ?_)
                  obtain ⟨rfl, rfl⟩ := hq
                  rw [show va_up (va_up (va_up σ (29 + 4 * i) O2) (29 + 4 * i + 1) V2) (29 + 4 * i) (T_X6_pourOn_O (σ (b + 1)) (σ (b + 2)) (σ (b + 3)) O2 V2 p s) = va_up (va_up σ (29 + 4 * i) (T_X6_pourOn_O (σ (b + 1)) (σ (b + 2)) (σ (b + 3)) O2 V2 p s)) (29 + 4 * i + 1) V2 from ((va_in (by omega)).trans (congrArg (fun z => va_up z (29 + 4 * i + 1) _) (bx_uu _ _ _ _)))] at hP
                  rw [show va_up (va_up (va_up σ (29 + 4 * i) (T_X6_pourOn_O (σ (b + 1)) (σ (b + 2)) (σ (b + 3)) O2 V2 p s)) (29 + 4 * i + 1) V2) (29 + 4 * i + 1) (T_X6_pourOn_V (σ (b + 1)) (σ (b + 2)) (σ (b + 3)) O2 V2 p s) = va_up (va_up σ (29 + 4 * i) (T_X6_pourOn_O (σ (b + 1)) (σ (b + 2)) (σ (b + 3)) O2 V2 p s)) (29 + 4 * i + 1) (T_X6_pourOn_V (σ (b + 1)) (σ (b + 2)) (σ (b + 3)) O2 V2 p s) from (bx_uu _ _ _ _)] at hP
                  refine lv_pop hx hb dX6_nightsAlone_50 rfl ?_
                  refine lv_iinc (v := ((nI c) + 1)) (lv' := [(5, .int ((nI c) + 1)), (4, .int (nI j)), (0, .ref (ad (29 + 4 * i))), (1, .ref (ad b)), (2, .int (nI p)), (3, .int (nI s))]) hx hb dX6_nightsAlone_51 hl (k := 0) rfl rfl (by decide) rfl (fun ls hl => ?_)
                  refine lv_goto (tgt := 26) hx hb dX6_nightsAlone_54 (by decide) ?_
                  exact ih26 (c + 1) _ _ (by omega) (by rw [← hO2, show 20 - c = (20 - (c + 1)) + 1 by omega, naO_s c40]) (by rw [← hV2, show 20 - c = (20 - (c + 1)) + 1 by omega, naV_s c40]) (by omega) _ _ _ _ _ ((nI_1 c).symm) rfl hP hS (lv_sub hl [0, 1, 2, 3, 4, 5] rfl)
          exact L26 ((20 - 0) + 1) 0 O1 V1 (Nat.zero_le _) rfl rfl (Nat.lt_succ_self _) _ _ _ _ _ (by first | rfl | simp [*]) rfl hP hS (lv_sub hl [0, 1, 2, 3, 4, 5] rfl)
    exact L16 ((61 - 0) + 1) 0 (σ (29 + 4 * i)) (σ (29 + 4 * i + 1)) (Nat.zero_le _) rfl rfl rfl (Nat.lt_succ_self _) _ _ _ _ _ (by first | rfl | simp [*]) rfl hP hS (lv_sub hl [0, 1, 2, 3, 4] rfl)
  · skip
    have c8 := bi_ne0.mp c8
    refine lv_iconst (v := (-1)) hx hb dX6_nightsAlone_11 (by decide) ?_
    exact hret hP hS dX6_nightsAlone_12 rfl ⟨(by unfold nfR; rw [if_pos c8]), (by unfold nfO nfV; rw [if_pos c8, if_pos c8])⟩

def R_X8_alone (σ : Nat → Nat → Int32) (y : Nat) (n : Nat) (k : Nat) (v : Int32) (w : Int32) : Int32 := (if (0 ≤ v ∧ ¬ nI k ≤ v) then (if (0 ≤ w ∧ ¬ nI n ≤ w) then (nfR (σ (y + 1)) (σ (y + 2)) (σ (y + 3)) (T_X6_copyFrom_O (σ (29 + 4 * 1)) (σ (29 + 4 * 1 + 1)) (σ (29 + 4 * 1 + 2)) (σ (29 + 4 * 1 + 3)) (σ (29 + 4 * 0)) (σ (29 + 4 * 0 + 1)) (σ (29 + 4 * 0 + 2)) (σ (29 + 4 * 0 + 3))) (T_X6_copyFrom_V (σ (29 + 4 * 1)) (σ (29 + 4 * 1 + 1)) (σ (29 + 4 * 1 + 2)) (σ (29 + 4 * 1 + 3)) (σ (29 + 4 * 0)) (σ (29 + 4 * 0 + 1)) (σ (29 + 4 * 0 + 2)) (σ (29 + 4 * 0 + 3))) (σ y 2) (v.toNatClampNeg) (w.toNatClampNeg)) else (-1000000001)) else (-1000000001))
def T_X8_alone (σ : Nat → Nat → Int32) (y : Nat) (n : Nat) (k : Nat) (v : Int32) (w : Int32) : Nat → Nat → Int32 := (if (0 ≤ v ∧ ¬ nI k ≤ v) then (if (0 ≤ w ∧ ¬ nI n ≤ w) then va_up (va_up (va_up (va_up (va_up (va_up σ (29 + 4 * 1) (T_X6_copyFrom_O (σ (29 + 4 * 1)) (σ (29 + 4 * 1 + 1)) (σ (29 + 4 * 1 + 2)) (σ (29 + 4 * 1 + 3)) (σ (29 + 4 * 0)) (σ (29 + 4 * 0 + 1)) (σ (29 + 4 * 0 + 2)) (σ (29 + 4 * 0 + 3)))) (29 + 4 * 1 + 1) (T_X6_copyFrom_V (σ (29 + 4 * 1)) (σ (29 + 4 * 1 + 1)) (σ (29 + 4 * 1 + 2)) (σ (29 + 4 * 1 + 3)) (σ (29 + 4 * 0)) (σ (29 + 4 * 0 + 1)) (σ (29 + 4 * 0 + 2)) (σ (29 + 4 * 0 + 3)))) (29 + 4 * 1 + 2) (T_X6_copyFrom_P (σ (29 + 4 * 1)) (σ (29 + 4 * 1 + 1)) (σ (29 + 4 * 1 + 2)) (σ (29 + 4 * 1 + 3)) (σ (29 + 4 * 0)) (σ (29 + 4 * 0 + 1)) (σ (29 + 4 * 0 + 2)) (σ (29 + 4 * 0 + 3)))) (29 + 4 * 1 + 3) (T_X6_copyFrom_S (σ (29 + 4 * 1)) (σ (29 + 4 * 1 + 1)) (σ (29 + 4 * 1 + 2)) (σ (29 + 4 * 1 + 3)) (σ (29 + 4 * 0)) (σ (29 + 4 * 0 + 1)) (σ (29 + 4 * 0 + 2)) (σ (29 + 4 * 0 + 3)))) (29 + 4 * 1) (nfO (σ (y + 1)) (σ (y + 2)) (σ (y + 3)) (T_X6_copyFrom_O (σ (29 + 4 * 1)) (σ (29 + 4 * 1 + 1)) (σ (29 + 4 * 1 + 2)) (σ (29 + 4 * 1 + 3)) (σ (29 + 4 * 0)) (σ (29 + 4 * 0 + 1)) (σ (29 + 4 * 0 + 2)) (σ (29 + 4 * 0 + 3))) (T_X6_copyFrom_V (σ (29 + 4 * 1)) (σ (29 + 4 * 1 + 1)) (σ (29 + 4 * 1 + 2)) (σ (29 + 4 * 1 + 3)) (σ (29 + 4 * 0)) (σ (29 + 4 * 0 + 1)) (σ (29 + 4 * 0 + 2)) (σ (29 + 4 * 0 + 3))) (σ y 2) (v.toNatClampNeg) (w.toNatClampNeg))) (29 + 4 * 1 + 1) (nfV (σ (y + 1)) (σ (y + 2)) (σ (y + 3)) (T_X6_copyFrom_O (σ (29 + 4 * 1)) (σ (29 + 4 * 1 + 1)) (σ (29 + 4 * 1 + 2)) (σ (29 + 4 * 1 + 3)) (σ (29 + 4 * 0)) (σ (29 + 4 * 0 + 1)) (σ (29 + 4 * 0 + 2)) (σ (29 + 4 * 0 + 3))) (T_X6_copyFrom_V (σ (29 + 4 * 1)) (σ (29 + 4 * 1 + 1)) (σ (29 + 4 * 1 + 2)) (σ (29 + 4 * 1 + 3)) (σ (29 + 4 * 0)) (σ (29 + 4 * 0 + 1)) (σ (29 + 4 * 0 + 2)) (σ (29 + 4 * 0 + 3))) (σ y 2) (v.toNatClampNeg) (w.toNatClampNeg)) else σ) else σ)
theorem in_X8_alone_X8 : ∀ w ∈ u_ws RX8 TX8 10, w ∈ wsX8_alone := by decide +kernel
set_option maxHeartbeats 1000000 in
set_option maxRecDepth 100000 in
theorem c_X8_alone (l : Launch) (D : va_G) (cy : Nat → ClassId) (ad : Nat → Nat) (y z : Nat) (σ : Nat → Nat → Int32) (n : Nat) (k : Nat) (v : Int32) (w : Int32) (hy : y = 3 ∨ y = 10) (hn : n ≤ 10) (en : σ y 5 = nI n) (hk : k ≤ 5) (ek : σ y 3 = nI k) : MI l D (tysW cy) 109 ad (cfX ad cy y z) yX8_alone wsX8_alone ({ frames := 4, cells := 0, slots := 0, locals := 95 }) σ [.ref (ad 0), .int v, .int w] (fun v_ τ_ => (R_X8_alone σ y n k v w) = v_ ∧ (T_X8_alone σ y n k v w) = τ_) := by
  refine MI.go (cc := cX8_alone) (maxL := 3) .int (by decide) rfl (Nat.le_of_ble_eq_true rfl) ?_
  intro p_ e_ s_ m_ args_ bl_ mt_ c_ A_ Q_ ls hx hb hml hown hts hK hA hD hP hS hl hret
  have hl : lv_has ls 3 [(0, .ref (ad 0)), (1, .int v), (2, .int w)] := hl
  refine lv_aload_n hx hb dX8_alone_0 rfl (lv_at hl 0 rfl) ?_
  refine rp_get (C := RX8) (T := TX8) (N := 10) hx hb hts in_X8_alone_X8 hown hK hP 0 (by decide) (kX8 _) rfl 1 (by decide) (by decide +kernel) rfl dX8_alone_1 ?_
  refine lv_iload_n hx hb dX8_alone_4 rfl (lv_at hl 1 rfl) ?_
  refine rp_callVI (na := 1) hx hb hml hown hts hK hA hD hP hS hl.1 y (hX7 hy).1 (kX7 hy _) rfl [.int v] (c_X7_hasPerson l D cy ad y z σ y v hy) gX8_alone_X7_hasPerson rfl (by decide +kernel) rfl ⟨Nat.le_of_ble_eq_true rfl, Nat.le_of_ble_eq_true rfl⟩ ⟨rfl, rfl⟩ ⟨Nat.zero_le _, Nat.zero_le _⟩ rfl (Nat.le_of_ble_eq_true rfl) dX8_alone_5 (fun v_ τ_ H locs hq hP hS => ?_)
  obtain ⟨rfl, rfl⟩ := hq
  rw [ek]
  refine lv_if_eq (tgt := 22) hx hb dX8_alone_8 (by decide) (fun c8 => ?_) (fun c8 => ?_)
  · skip
    have c8 := bi_eq0.mp c8
    refine lv_ldc (v := (-1000000001)) hx hb hown (hts (.constant RX8 146 (-1000000001)) (by decide +kernel)) dX8_alone_22 ?_
    exact hret hP hS dX8_alone_24 rfl ⟨(by unfold R_X8_alone <;> rw [if_neg c8] <;> first | with_reducible rfl), (by unfold T_X8_alone <;> rw [if_neg c8] <;> first | with_reducible rfl)⟩
  · skip
    have c8 := bi_ne0.mp c8
    obtain ⟨jv, hjv, rfl⟩ := nI_rng2 c8 (by omega)
    refine lv_aload_n hx hb dX8_alone_11 rfl (lv_at hl 0 rfl) ?_
    refine rp_get (C := RX8) (T := TX8) (N := 10) hx hb hts in_X8_alone_X8 hown hK hP 0 (by decide) (kX8 _) rfl 1 (by decide) (by decide +kernel) rfl dX8_alone_12 ?_
    refine lv_iload_n hx hb dX8_alone_15 rfl (lv_at hl 2 rfl) ?_
    refine rp_callVI (na := 1) hx hb hml hown hts hK hA hD hP hS hl.1 y (hX7 hy).1 (kX7 hy _) rfl [.int w] (c_X7_hasSaying l D cy ad y z σ y w hy) gX8_alone_X7_hasSaying rfl (by decide +kernel) rfl ⟨Nat.le_of_ble_eq_true rfl, Nat.le_of_ble_eq_true rfl⟩ ⟨rfl, rfl⟩ ⟨Nat.zero_le _, Nat.zero_le _⟩ rfl (Nat.le_of_ble_eq_true rfl) dX8_alone_16 (fun v_ τ_ H locs hq hP hS => ?_)
    obtain ⟨rfl, rfl⟩ := hq
    rw [en]
    refine lv_if_ne (tgt := 25) hx hb dX8_alone_19 (by decide) (fun c19 => ?_) (fun c19 => ?_)
    · skip
      have c19 := bi_ne0.mp c19
      obtain ⟨jw, hjw, rfl⟩ := nI_rng2 c19 (by omega)
      refine lv_aload_n hx hb dX8_alone_25 rfl (lv_at hl 0 rfl) ?_
      refine rp_get (C := RX8) (T := TX8) (N := 10) hx hb hts in_X8_alone_X8 hown hK hP 0 (by decide) (kX8 _) rfl 4 (by decide) (by decide +kernel) rfl dX8_alone_26 ?_
      refine lv_aload_n hx hb dX8_alone_29 rfl (lv_at hl 0 rfl) ?_
      refine rp_get (C := RX8) (T := TX8) (N := 10) hx hb hts in_X8_alone_X8 hown hK hP 0 (by decide) (kX8 _) rfl 3 (by decide) (by decide +kernel) rfl dX8_alone_30 ?_
      refine rp_callVV (na := 1) hx hb hml hown hts hK hA hD hP hS hl.1 (29 + 4 * 1) (hX6 (i := 1) (by decide : 1 < 20)).1 (kX6 (i := 1) _) rfl [.ref (ad (29 + 4 * 0))] (c_X6_copyFrom l D cy ad y z σ (σ (29 + 4 * 1)) (σ (29 + 4 * 1 + 1)) (σ (29 + 4 * 1 + 2)) (σ (29 + 4 * 1 + 3)) (σ (29 + 4 * 0)) (σ (29 + 4 * 0 + 1)) (σ (29 + 4 * 0 + 2)) (σ (29 + 4 * 0 + 3)) 1 0 rfl rfl rfl rfl rfl rfl rfl rfl (by decide : 1 < 20) (by decide : 0 < 20) (by first | assumption | omega)) gX8_alone_X6_copyFrom rfl (by decide +kernel) rfl ⟨Nat.le_of_ble_eq_true rfl, Nat.le_of_ble_eq_true rfl⟩ ⟨rfl, rfl⟩ ⟨Nat.zero_le _, Nat.zero_le _⟩ rfl (Nat.le_of_ble_eq_true rfl) dX8_alone_33 (fun τ_ H locs hq hP hS => ?_)
      subst hq
      refine lv_aload_n hx hb dX8_alone_36 rfl (lv_at hl 0 rfl) ?_
      refine rp_get (C := RX8) (T := TX8) (N := 10) hx hb hts in_X8_alone_X8 hown hK hP 0 (by decide) (kX8 _) rfl 4 (by decide) (by decide +kernel) rfl dX8_alone_37 ?_
      refine lv_aload_n hx hb dX8_alone_40 rfl (lv_at hl 0 rfl) ?_
      refine rp_get (C := RX8) (T := TX8) (N := 10) hx hb hts in_X8_alone_X8 hown hK hP 0 (by decide) (kX8 _) rfl 1 (by decide) (by decide +kernel) rfl dX8_alone_41 ?_
      refine lv_iload_n hx hb dX8_alone_44 rfl (lv_at hl 1 rfl) ?_
      refine lv_iload_n hx hb dX8_alone_45 rfl (lv_at hl 2 rfl) ?_
      refine rp_callVI (na := 3) hx hb hml hown hts hK hA hD hP hS hl.1 (29 + 4 * 1) (hX6 (i := 1) (by decide : 1 < 20)).1 (kX6 (i := 1) _) rfl [.ref (ad y), .int (nI jv), .int (nI jw)] (c_X6_nightsAlone l D cy ad y z (va_up (va_up (va_up (va_up σ (29 + 4 * 1) (T_X6_copyFrom_O (σ (29 + 4 * 1)) (σ (29 + 4 * 1 + 1)) (σ (29 + 4 * 1 + 2)) (σ (29 + 4 * 1 + 3)) (σ (29 + 4 * 0)) (σ (29 + 4 * 0 + 1)) (σ (29 + 4 * 0 + 2)) (σ (29 + 4 * 0 + 3)))) (29 + 4 * 1 + 1) (T_X6_copyFrom_V (σ (29 + 4 * 1)) (σ (29 + 4 * 1 + 1)) (σ (29 + 4 * 1 + 2)) (σ (29 + 4 * 1 + 3)) (σ (29 + 4 * 0)) (σ (29 + 4 * 0 + 1)) (σ (29 + 4 * 0 + 2)) (σ (29 + 4 * 0 + 3)))) (29 + 4 * 1 + 2) (T_X6_copyFrom_P (σ (29 + 4 * 1)) (σ (29 + 4 * 1 + 1)) (σ (29 + 4 * 1 + 2)) (σ (29 + 4 * 1 + 3)) (σ (29 + 4 * 0)) (σ (29 + 4 * 0 + 1)) (σ (29 + 4 * 0 + 2)) (σ (29 + 4 * 0 + 3)))) (29 + 4 * 1 + 3) (T_X6_copyFrom_S (σ (29 + 4 * 1)) (σ (29 + 4 * 1 + 1)) (σ (29 + 4 * 1 + 2)) (σ (29 + 4 * 1 + 3)) (σ (29 + 4 * 0)) (σ (29 + 4 * 0 + 1)) (σ (29 + 4 * 0 + 2)) (σ (29 + 4 * 0 + 3)))) (σ (y + 1)) (σ (y + 2)) (σ (y + 3)) (T_X6_copyFrom_O (σ (29 + 4 * 1)) (σ (29 + 4 * 1 + 1)) (σ (29 + 4 * 1 + 2)) (σ (29 + 4 * 1 + 3)) (σ (29 + 4 * 0)) (σ (29 + 4 * 0 + 1)) (σ (29 + 4 * 0 + 2)) (σ (29 + 4 * 0 + 3))) (T_X6_copyFrom_V (σ (29 + 4 * 1)) (σ (29 + 4 * 1 + 1)) (σ (29 + 4 * 1 + 2)) (σ (29 + 4 * 1 + 3)) (σ (29 + 4 * 0)) (σ (29 + 4 * 0 + 1)) (σ (29 + 4 * 0 + 2)) (σ (29 + 4 * 0 + 3))) (σ y 2) 1 y jv jw n k ((va_Q (by omega)).trans ((va_Q (by omega)).trans ((va_Q (by omega)).trans (va_Q (by omega))))) ((va_Q (by omega)).trans ((va_Q (by omega)).trans ((va_Q (by omega)).trans (va_Q (by omega))))) ((va_Q (by omega)).trans ((va_Q (by omega)).trans ((va_Q (by omega)).trans (va_Q (by omega))))) ((va_Q (by omega)).trans ((va_Q (by omega)).trans ((va_Q (by omega)).trans va_Qs))) ((va_Q (by omega)).trans ((va_Q (by omega)).trans va_Qs)) ((va_R (by omega)).trans ((va_R (by omega)).trans ((va_R (by omega)).trans (va_R (by omega))))) (by decide : 1 < 20) hy (by first | assumption | omega) (((va_R (by omega)).trans ((va_R (by omega)).trans ((va_R (by omega)).trans (va_R (by omega))))).trans (by first | assumption | rfl)) (by first | assumption | omega) (((va_R (by omega)).trans ((va_R (by omega)).trans ((va_R (by omega)).trans (va_R (by omega))))).trans (by first | assumption | rfl)) (by first | assumption | omega) (by first | assumption | omega)) gX8_alone_X6_nightsAlone rfl (by decide +kernel) rfl ⟨Nat.le_of_ble_eq_true rfl, Nat.le_of_ble_eq_true rfl⟩ ⟨rfl, rfl⟩ ⟨Nat.zero_le _, Nat.zero_le _⟩ rfl (Nat.le_of_ble_eq_true rfl) dX8_alone_46 (fun v_ τ_ H locs hq hP hS => ?_)
      obtain ⟨rfl, rfl⟩ := hq
      exact hret hP hS dX8_alone_49 rfl ⟨(by unfold R_X8_alone <;> (try rw [nI_clamp (n := jv) (by omega)]) <;> (try rw [nI_clamp (n := jw) (by omega)]) <;> rw [if_pos c8, if_pos c19] <;> first | with_reducible rfl), (by unfold T_X8_alone <;> (try rw [nI_clamp (n := jv) (by omega)]) <;> (try rw [nI_clamp (n := jw) (by omega)]) <;> rw [if_pos c8, if_pos c19] <;> first | with_reducible rfl)⟩
    · skip
      have c19 := bi_eq0.mp c19
      refine lv_ldc (v := (-1000000001)) hx hb hown (hts (.constant RX8 146 (-1000000001)) (by decide +kernel)) dX8_alone_22 ?_
      exact hret hP hS dX8_alone_24 rfl ⟨(by unfold R_X8_alone <;> (try rw [nI_clamp (n := jv) (by omega)]) <;> rw [if_pos c8, if_neg c19] <;> first | with_reducible rfl), (by unfold T_X8_alone <;> (try rw [nI_clamp (n := jv) (by omega)]) <;> rw [if_pos c8, if_neg c19] <;> first | with_reducible rfl)⟩
