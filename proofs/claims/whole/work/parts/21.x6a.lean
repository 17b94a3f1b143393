def R_X6_drawable (ar : Nat → Int32) (ow : Nat → Int32) (wt : Nat → Int32) (O : Nat → Int32) (V : Nat → Int32) (p : Nat) (s : Nat) : Int32 := (if (hasB ((O 4) ||| (O 5)) (nI s)) then 0 else (if (ow s) = (nI p) then (if (if (O 0) < (ar p) then (O 0) else (ar p)) < ((wt s) - (V s)) then (if (O 0) < (ar p) then (O 0) else (ar p)) else ((wt s) - (V s))) else (if (((if (O 0) < (ar p) then (O 0) else (ar p)) / 2) * 2) < (2 * ((wt s) - (V s))) then (((if (O 0) < (ar p) then (O 0) else (ar p)) / 2) * 2) else (2 * ((wt s) - (V s))))))
theorem in_X6_drawable_X6 : ∀ w ∈ u_ws RX6 TX6 10, w ∈ wsX6_drawable := by decide +kernel
theorem in_X6_drawable_X7 : ∀ w ∈ u_ws RX7 TX7 12, w ∈ wsX6_drawable := by decide +kernel
set_option maxHeartbeats 1000000 in
set_option maxRecDepth 100000 in
theorem c_X6_drawable (l : Launch) (D : va_G) (cy : Nat → ClassId) (ad : Nat → Nat) (y z : Nat) (σ : Nat → Nat → Int32) (ar : Nat → Int32) (ow : Nat → Int32) (wt : Nat → Int32) (O : Nat → Int32) (V : Nat → Int32) (i : Nat) (b : Nat) (p : Nat) (s : Nat) (n : Nat) (k : Nat) (r_ar : σ (b + 1) = ar) (r_ow : σ (b + 2) = ow) (r_wt : σ (b + 3) = wt) (r_O : σ (29 + 4 * i) = O) (r_V : σ (29 + 4 * i + 1) = V) (Hi : i < 20) (Hb : b = 3 ∨ b = 10) (hn : n ≤ 10) (en : σ b 5 = nI n) (hk : k ≤ 5) (ek : σ b 3 = nI k) (hp : p < k) (hs : s < n) : MI l D (tysW cy) 109 ad (cfX ad cy y z) yX6_drawable wsX6_drawable ({ frames := 1, cells := 0, slots := 0, locals := 21 }) σ [.ref (ad (29 + 4 * i)), .ref (ad b), .int (nI p), .int (nI s)] (fun v_ τ_ => (R_X6_drawable ar ow wt O V p s) = v_ ∧ σ = τ_) := by
  refine MI.go (cc := cX6_drawable) (maxL := 6) .int (by decide) rfl (Nat.le_of_ble_eq_true rfl) ?_
  intro p_ e_ s_ m_ args_ bl_ mt_ c_ A_ Q_ ls hx hb hml hown hts hK hA hD hP hS hl hret
  have hl : lv_has ls 6 [(0, .ref (ad (29 + 4 * i))), (1, .ref (ad b)), (2, .int (nI p)), (3, .int (nI s))] := hl
  subst r_ar r_ow r_wt r_O r_V
  refine lv_aload_n hx hb dX6_drawable_0 rfl (lv_at hl 1 rfl) ?_
  refine lv_iload_n hx hb dX6_drawable_1 rfl (lv_at hl 2 rfl) ?_
  refine rp_callVI (na := 1) hx hb hml hown hts hK hA hD hP hS hl.1 b (hX7 Hb).1 (kX7 Hb _) rfl [.int (nI p)] (c_X7_hasPerson l D cy ad y z σ b (nI p) Hb) gX6_drawable_X7_hasPerson rfl (by decide +kernel) rfl ⟨Nat.le_of_ble_eq_true rfl, Nat.le_of_ble_eq_true rfl⟩ ⟨rfl, rfl⟩ ⟨Nat.zero_le _, Nat.zero_le _⟩ rfl (Nat.le_of_ble_eq_true rfl) dX6_drawable_2 (fun v_ τ_ H locs hq hP hS => ?_)
  obtain ⟨rfl, rfl⟩ := hq
  refine lv_if_eq (tgt := 32) hx hb dX6_drawable_5 (by decide) (fun c5 => ?_) (fun c5 => ?_)
  · skip
    have c5 := bi_eq0.mp c5
    exact absurd (rg_in (by omega) hp ek) c5
  · skip
    have c5 := bi_ne0.mp c5
    refine lv_aload_n hx hb dX6_drawable_8 rfl (lv_at hl 1 rfl) ?_
    refine lv_iload_n hx hb dX6_drawable_9 rfl (lv_at hl 3 rfl) ?_
    refine rp_callVI (na := 1) hx hb hml hown hts hK hA hD hP hS hl.1 b (hX7 Hb).1 (kX7 Hb _) rfl [.int (nI s)] (c_X7_hasSaying l D cy ad y z σ b (nI s) Hb) gX6_drawable_X7_hasSaying rfl (by decide +kernel) rfl ⟨Nat.le_of_ble_eq_true rfl, Nat.le_of_ble_eq_true rfl⟩ ⟨rfl, rfl⟩ ⟨Nat.zero_le _, Nat.zero_le _⟩ rfl (Nat.le_of_ble_eq_true rfl) dX6_drawable_10 (fun v_ τ_ H locs hq hP hS => ?_)
    obtain ⟨rfl, rfl⟩ := hq
    refine lv_if_eq (tgt := 32) hx hb dX6_drawable_13 (by decide) (fun c13 => ?_) (fun c13 => ?_)
    · skip
      have c13 := bi_eq0.mp c13
      exact absurd (rg_in (by omega) hs en) c13
    · skip
      have c13 := bi_ne0.mp c13
      refine lv_iload_n hx hb dX6_drawable_16 rfl (lv_at hl 3 rfl) ?_
      refine lv_aload_n hx hb dX6_drawable_17 rfl (lv_at hl 0 rfl) ?_
      refine rp_get (C := RX6) (T := TX6) (N := 10) hx hb hts in_X6_drawable_X6 hown hK hP (29 + 4 * i) (hX6 (i := i) Hi).1 (kX6 (i := i) _) rfl 4 (by decide) (by decide +kernel) rfl dX6_drawable_18 ?_
      refine lv_aload_n hx hb dX6_drawable_21 rfl (lv_at hl 0 rfl) ?_
      refine rp_get (C := RX6) (T := TX6) (N := 10) hx hb hts in_X6_drawable_X6 hown hK hP (29 + 4 * i) (hX6 (i := i) Hi).1 (kX6 (i := i) _) rfl 5 (by decide) (by decide +kernel) rfl dX6_drawable_22 ?_
      refine lv_ior hx hb dX6_drawable_25 ?_
      refine rp_callSI (na := 2) hx hb hml hown hts hK hA hD hP hS hl.1 [.int (nI s), .int ((σ (29 + 4 * i) 4) ||| (σ (29 + 4 * i) 5))] (c_X7_isIn l D cy ad y z σ (nI s) ((σ (29 + 4 * i) 4) ||| (σ (29 + 4 * i) 5)) ) gX6_drawable_X7_isIn rfl (by decide +kernel) rfl ⟨Nat.le_of_ble_eq_true rfl, Nat.le_of_ble_eq_true rfl⟩ ⟨rfl, rfl⟩ ⟨Nat.zero_le _, Nat.zero_le _⟩ rfl (Nat.le_of_ble_eq_true rfl) dX6_drawable_26 (fun v_ τ_ H locs hq hP hS => ?_)
      obtain ⟨rfl, rfl⟩ := hq
      refine lv_if_eq (tgt := 34) hx hb dX6_drawable_29 (by decide) (fun c29 => ?_) (fun c29 => ?_)
      · skip
        have c29 := bi_eq0.mp c29
        refine lv_aload_n hx hb dX6_drawable_34 rfl (lv_at hl 1 rfl) ?_
        refine rp_get (C := RX7) (T := TX7) (N := 12) hx hb hts in_X6_drawable_X7 hown hK hP b (hX7 Hb).1 (kX7 Hb _) rfl 7 (by decide) (by decide +kernel) rfl dX6_drawable_35 ?_
        refine lv_iload_n hx hb dX6_drawable_38 rfl (lv_at hl 3 rfl) ?_
        refine rp_iald hx hb hK hP (b + 3) (hX7 Hb).2.2.2.1 ((kX7_7 Hb) _) 0 rfl s rfl (by omega) (by decide) dX6_drawable_39 ?_
        refine lv_aload_n hx hb dX6_drawable_40 rfl (lv_at hl 0 rfl) ?_
        refine rp_get (C := RX6) (T := TX6) (N := 10) hx hb hts in_X6_drawable_X6 hown hK hP (29 + 4 * i) (hX6 (i := i) Hi).1 (kX6 (i := i) _) rfl 6 (by decide) (by decide +kernel) rfl dX6_drawable_41 ?_
        refine lv_iload_n hx hb dX6_drawable_44 rfl (lv_at hl 3 rfl) ?_
        refine rp_iald hx hb hK hP (29 + 4 * i + 1) (hX6 (i := i) Hi).2.1 (kX6_6 (i := i) _) 0 rfl s rfl (by omega) (by decide) dX6_drawable_45 ?_
        refine lv_isub hx hb dX6_drawable_46 ?_
        refine lv_istore (lv' := [(4, .int ((σ (b + 3) s) - (σ (29 + 4 * i + 1) s))), (0, .ref (ad (29 + 4 * i))), (1, .ref (ad b)), (2, .int (nI p)), (3, .int (nI s))]) hx hb dX6_drawable_47 hl (by decide) rfl (fun ls hl => ?_)
        refine lv_aload_n hx hb dX6_drawable_49 rfl (lv_at hl 2 rfl) ?_
        refine rp_get (C := RX7) (T := TX7) (N := 12) hx hb hts in_X6_drawable_X7 hown hK hP b (hX7 Hb).1 (kX7 Hb _) rfl 4 (by decide) (by decide +kernel) rfl dX6_drawable_50 ?_
        refine lv_iload_n hx hb dX6_drawable_53 rfl (lv_at hl 3 rfl) ?_
        refine rp_iald hx hb hK hP (b + 1) (hX7 Hb).2.1 ((kX7_4 Hb) _) 0 rfl p rfl (by omega) (by decide) dX6_drawable_54 ?_
        refine lv_aload_n hx hb dX6_drawable_55 rfl (lv_at hl 1 rfl) ?_
        refine rp_get (C := RX6) (T := TX6) (N := 10) hx hb hts in_X6_drawable_X6 hown hK hP (29 + 4 * i) (hX6 (i := i) Hi).1 (kX6 (i := i) _) rfl 0 (by decide) (by decide +kernel) rfl dX6_drawable_56 ?_
        refine va_mmin hx hb (hml.trans hl.1.symm) hown (hts (.methodLink RX6 69 Lib.Math.min.name) (by decide +kernel)) (hts (.static Lib.Math.min.name) (by decide +kernel)) (hts (.initialized "java/lang/Math") (by decide +kernel)) (hts (.code Lib.Math.min.name Lib.Math.min.code 2 (some .int)) (by decide +kernel)) (Nat.le_of_ble_eq_true rfl) (Nat.le_of_ble_eq_true rfl) (Nat.zero_le _) (Nat.zero_le _) dX6_drawable_59 ?_
        refine lv_istore (lv' := [(5, .int (if (σ (29 + 4 * i) 0) < (σ (b + 1) p) then (σ (29 + 4 * i) 0) else (σ (b + 1) p))), (4, .int ((σ (b + 3) s) - (σ (29 + 4 * i + 1) s))), (0, .ref (ad (29 + 4 * i))), (1, .ref (ad b)), (2, .int (nI p)), (3, .int (nI s))]) hx hb dX6_drawable_62 hl (by decide) rfl (fun ls hl => ?_)
        refine lv_aload_n hx hb dX6_drawable_64 rfl (lv_at hl 3 rfl) ?_
        refine rp_get (C := RX7) (T := TX7) (N := 12) hx hb hts in_X6_drawable_X7 hown hK hP b (hX7 Hb).1 (kX7 Hb _) rfl 6 (by decide) (by decide +kernel) rfl dX6_drawable_65 ?_
        refine lv_iload_n hx hb dX6_drawable_68 rfl (lv_at hl 5 rfl) ?_
        refine rp_iald hx hb hK hP (b + 2) (hX7 Hb).2.2.1 ((kX7_6 Hb) _) 0 rfl s rfl (by omega) (by decide) dX6_drawable_69 ?_
        refine lv_iload_n hx hb dX6_drawable_70 rfl (lv_at hl 4 rfl) ?_
        refine lv_icmp_ne (tgt := 84) hx hb dX6_drawable_71 (by decide) (fun c71 => ?_) (fun c71 => ?_)
        · skip
          refine lv_iconst (v := 2) hx hb dX6_drawable_84 (by decide) ?_
          refine lv_iload hx hb dX6_drawable_85 (lv_at hl 1 rfl) ?_
          refine lv_imul hx hb dX6_drawable_87 ?_
          refine lv_iload hx hb dX6_drawable_88 (lv_at hl 0 rfl) ?_
          refine lv_iconst (v := 2) hx hb dX6_drawable_90 (by decide) ?_
          refine lv_idiv hx hb dX6_drawable_91 (by first | decide | assumption) ?_
          refine lv_iconst (v := 2) hx hb dX6_drawable_92 (by decide) ?_
          refine lv_imul hx hb dX6_drawable_93 ?_
          refine va_mmin hx hb (hml.trans hl.1.symm) hown (hts (.methodLink RX6 69 Lib.Math.min.name) (by decide +kernel)) (hts (.static Lib.Math.min.name) (by decide +kernel)) (hts (.initialized "java/lang/Math") (by decide +kernel)) (hts (.code Lib.Math.min.name Lib.Math.min.code 2 (some .int)) (by decide +kernel)) (Nat.le_of_ble_eq_true rfl) (Nat.le_of_ble_eq_true rfl) (Nat.zero_le _) (Nat.zero_le _) dX6_drawable_94 ?_
          exact hret hP hS dX6_drawable_97 rfl ⟨(by unfold R_X6_drawable <;> rw [if_neg c29, if_neg c71] <;> first | with_reducible rfl), rfl⟩
        · skip
          refine lv_iload hx hb dX6_drawable_74 (lv_at hl 1 rfl) ?_
          refine lv_iload hx hb dX6_drawable_76 (lv_at hl 0 rfl) ?_
          refine va_mmin hx hb (hml.trans hl.1.symm) hown (hts (.methodLink RX6 69 Lib.Math.min.name) (by decide +kernel)) (hts (.static Lib.Math.min.name) (by decide +kernel)) (hts (.initialized "java/lang/Math") (by decide +kernel)) (hts (.code Lib.Math.min.name Lib.Math.min.code 2 (some .int)) (by decide +kernel)) (Nat.le_of_ble_eq_true rfl) (Nat.le_of_ble_eq_true rfl) (Nat.zero_le _) (Nat.zero_le _) dX6_drawable_78 ?_
          refine lv_goto (tgt := 97) hx hb dX6_drawable_81 (by decide) ?_
          exact hret hP hS dX6_drawable_97 rfl ⟨(by unfold R_X6_drawable <;> rw [if_neg c29, if_pos c71] <;> first | with_reducible rfl), rfl⟩
      · skip
        have c29 := bi_ne0.mp c29
        refine lv_iconst (v := 0) hx hb dX6_drawable_32 (by decide) ?_
        exact hret hP hS dX6_drawable_33 rfl ⟨(by unfold R_X6_drawable <;> rw [if_pos c29] <;> first | with_reducible rfl), rfl⟩

def R_X6_pourOn (ar : Nat → Int32) (ow : Nat → Int32) (wt : Nat → Int32) (O : Nat → Int32) (V : Nat → Int32) (p : Nat) (s : Nat) : Int32 := (if (R_X6_drawable ar ow wt O V p s) = 0 then 0 else (if (ow s) = (nI p) then (if ((V s) + (R_X6_drawable ar ow wt O V p s)) < (wt s) then (R_X6_drawable ar ow wt O V p s) else (R_X6_drawable ar ow wt O V p s)) else (if ((V s) + ((R_X6_drawable ar ow wt O V p s) / 2)) < (wt s) then (R_X6_drawable ar ow wt O V p s) else (R_X6_drawable ar ow wt O V p s))))
def T_X6_pourOn_O (ar : Nat → Int32) (ow : Nat → Int32) (wt : Nat → Int32) (O : Nat → Int32) (V : Nat → Int32) (p : Nat) (s : Nat) : Nat → Int32 := (if (R_X6_drawable ar ow wt O V p s) = 0 then O else (if (ow s) = (nI p) then (if ((V s) + (R_X6_drawable ar ow wt O V p s)) < (wt s) then upd (upd O 0 ((O 0) - (R_X6_drawable ar ow wt O V p s))) 2 ((O 2) + (R_X6_drawable ar ow wt O V p s)) else upd (upd (upd O 0 ((O 0) - (R_X6_drawable ar ow wt O V p s))) 2 ((O 2) + (R_X6_drawable ar ow wt O V p s))) 4 ((O 4) ||| ((1 : Int32) <<< ((nI s) &&& 31)))) else (if ((V s) + ((R_X6_drawable ar ow wt O V p s) / 2)) < (wt s) then upd (upd O 0 ((O 0) - (R_X6_drawable ar ow wt O V p s))) 2 ((O 2) + (R_X6_drawable ar ow wt O V p s)) else upd (upd (upd O 0 ((O 0) - (R_X6_drawable ar ow wt O V p s))) 2 ((O 2) + (R_X6_drawable ar ow wt O V p s))) 4 ((O 4) ||| ((1 : Int32) <<< ((nI s) &&& 31))))))
def T_X6_pourOn_V (ar : Nat → Int32) (ow : Nat → Int32) (wt : Nat → Int32) (O : Nat → Int32) (V : Nat → Int32) (p : Nat) (s : Nat) : Nat → Int32 := (if (R_X6_drawable ar ow wt O V p s) = 0 then V else (if (ow s) = (nI p) then (if ((V s) + (R_X6_drawable ar ow wt O V p s)) < (wt s) then upd V s ((V s) + (R_X6_drawable ar ow wt O V p s)) else upd (upd V s ((V s) + (R_X6_drawable ar ow wt O V p s))) s 0) else (if ((V s) + ((R_X6_drawable ar ow wt O V p s) / 2)) < (wt s) then upd V s ((V s) + ((R_X6_drawable ar ow wt O V p s) / 2)) else upd (upd V s ((V s) + ((R_X6_drawable ar ow wt O V p s) / 2))) s 0)))
theorem in_X6_pourOn_X6 : ∀ w ∈ u_ws RX6 TX6 10, w ∈ wsX6_pourOn := by decide +kernel
theorem in_X6_pourOn_X7 : ∀ w ∈ u_ws RX7 TX7 12, w ∈ wsX6_pourOn := by decide +kernel
set_option maxHeartbeats 1000000 in
set_option maxRecDepth 100000 in
theorem c_X6_pourOn (l : Launch) (D : va_G) (cy : Nat → ClassId) (ad : Nat → Nat) (y z : Nat) (σ : Nat → Nat → Int32) (ar : Nat → Int32) (ow : Nat → Int32) (wt : Nat → Int32) (O : Nat → Int32) (V : Nat → Int32) (i : Nat) (b : Nat) (p : Nat) (s : Nat) (n : Nat) (k : Nat) (r_ar : σ (b + 1) = ar) (r_ow : σ (b + 2) = ow) (r_wt : σ (b + 3) = wt) (r_O : σ (29 + 4 * i) = O) (r_V : σ (29 + 4 * i + 1) = V) (Hi : i < 20) (Hb : b = 3 ∨ b = 10) (hn : n ≤ 10) (en : σ b 5 = nI n) (hk : k ≤ 5) (ek : σ b 3 = nI k) (hp : p < k) (hs : s < n) : MI l D (tysW cy) 109 ad (cfX ad cy y z) yX6_pourOn wsX6_pourOn ({ frames := 2, cells := 0, slots := 0, locals := 46 }) σ [.ref (ad (29 + 4 * i)), .ref (ad b), .int (nI p), .int (nI s)] (fun v_ τ_ => (R_X6_pourOn ar ow wt O V p s) = v_ ∧ (va_up (va_up σ (29 + 4 * i) (T_X6_pourOn_O ar ow wt O V p s)) (29 + 4 * i + 1) (T_X6_pourOn_V ar ow wt O V p s)) = τ_) := by
  refine MI.go (cc := cX6_pourOn) (maxL := 5) .int (by decide) rfl (Nat.le_of_ble_eq_true rfl) ?_
  intro p_ e_ s_ m_ args_ bl_ mt_ c_ A_ Q_ ls hx hb hml hown hts hK hA hD hP hS hl hret
  have hl : lv_has ls 5 [(0, .ref (ad (29 + 4 * i))), (1, .ref (ad b)), (2, .int (nI p)), (3, .int (nI s))] := hl
  subst r_ar r_ow r_wt r_O r_V
  have hP : va_P D classes (rw_ 109 ad (cfX ad cy y z) (va_up (va_up σ (29 + 4 * i) (σ (29 + 4 * i))) (29 + 4 * i + 1) (σ (29 + 4 * i + 1)))) s_.heap := by rw [va_selfR _ (29 + 4 * i + 1) ((va_Q (by omega))), va_selfR _ (29 + 4 * i) (rfl)]; exact hP
  refine lv_aload_n hx hb dX6_pourOn_0 rfl (lv_at hl 0 rfl) ?_
  refine lv_aload_n hx hb dX6_pourOn_1 rfl (lv_at hl 1 rfl) ?_
  refine lv_iload_n hx hb dX6_pourOn_2 rfl (lv_at hl 2 rfl) ?_
  refine lv_iload_n hx hb dX6_pourOn_3 rfl (lv_at hl 3 rfl) ?_
  refine rp_callVI (na := 3) hx hb hml hown hts hK hA hD hP hS hl.1 (29 + 4 * i) (hX6 (i := i) Hi).1 (kX6 (i := i) _) rfl [.ref (ad b), .int (nI p), .int (nI s)] (c_X6_drawable l D cy ad y z (va_up (va_up σ (29 + 4 * i) (σ (29 + 4 * i))) (29 + 4 * i + 1) (σ (29 + 4 * i + 1))) (σ (b + 1)) (σ (b + 2)) (σ (b + 3)) (σ (29 + 4 * i)) (σ (29 + 4 * i + 1)) i b p s n k ((va_Q (by omega)).trans (va_Q (by omega))) ((va_Q (by omega)).trans (va_Q (by omega))) ((va_Q (by omega)).trans (va_Q (by omega))) ((va_Q (by omega)).trans va_Qs) va_Qs Hi Hb (by first | assumption | omega) (((va_R (by omega)).trans (va_R (by omega))).trans (by first | assumption | rfl)) (by first | assumption | omega) (((va_R (by omega)).trans (va_R (by omega))).trans (by first | assumption | rfl)) (by first | assumption | omega) (by first | assumption | omega)) gX6_pourOn_X6_drawable rfl (by decide +kernel) rfl ⟨Nat.le_of_ble_eq_true rfl, Nat.le_of_ble_eq_true rfl⟩ ⟨rfl, rfl⟩ ⟨Nat.zero_le _, Nat.zero_le _⟩ rfl (Nat.le_of_ble_eq_true rfl) dX6_pourOn_4 (fun v_ τ_ H locs hq hP hS => ?_)
  obtain ⟨rfl, rfl⟩ := hq
  refine lv_istore (lv' := [(4, .int (R_X6_drawable (σ (b + 1)) (σ (b + 2)) (σ (b + 3)) (σ (29 + 4 * i)) (σ (29 + 4 * i + 1)) p s)), (0, .ref (ad (29 + 4 * i))), (1, .ref (ad b)), (2, .int (nI p)), (3, .int (nI s))]) hx hb dX6_pourOn_7 hl (by decide) rfl (fun ls hl => ?_)
  refine lv_iload hx hb dX6_pourOn_9 (lv_at hl 0 rfl) ?_
  refine lv_if_ne (tgt := 16) hx hb dX6_pourOn_11 (by decide) (fun c11 => ?_) (fun c11 => ?_)
  · skip
    refine lv_aload_n hx hb dX6_pourOn_16 rfl (lv_at hl 1 rfl) ?_
    refine lv_dup hx hb dX6_pourOn_17 rfl ?_
    refine rp_get (C := RX6) (T := TX6) (N := 10) hx hb hts in_X6_pourOn_X6 hown hK hP (29 + 4 * i) (hX6 (i := i) Hi).1 (kX6 (i := i) _) rfl 0 (by decide) (by decide +kernel) rfl dX6_pourOn_18 ?_
    rw [show (va_up (va_up σ (29 + 4 * i) (σ (29 + 4 * i))) (29 + 4 * i + 1) (σ (29 + 4 * i + 1))) (29 + 4 * i) 0 = (σ (29 + 4 * i) 0) from ((va_R (by omega)).trans va_S')]
    refine lv_iload hx hb dX6_pourOn_21 (lv_at hl 0 rfl) ?_
    refine lv_isub hx hb dX6_pourOn_23 ?_
    refine rp_put (C := RX6) (T := TX6) (N := 10) (v := ((σ (29 + 4 * i) 0) - (R_X6_drawable (σ (b + 1)) (σ (b + 2)) (σ (b + 3)) (σ (29 + 4 * i)) (σ (29 + 4 * i + 1)) p s))) hx hb hts in_X6_pourOn_X6 tyX6 tyX6_ok nmX6 hown hK hP hD hS (29 + 4 * i) (hX6 (i := i) Hi).1 (kX6 (i := i) _) rfl 0 (by decide) (by decide +kernel) rfl rfl rfl (Nat.le_of_ble_eq_true rfl) (kX6 (i := i) _) dX6_pourOn_24 (fun H locs hP hS => ?_)
    rw [show up2 (va_up (va_up σ (29 + 4 * i) (σ (29 + 4 * i))) (29 + 4 * i + 1) (σ (29 + 4 * i + 1))) (29 + 4 * i) 0 ((σ (29 + 4 * i) 0) - (R_X6_drawable (σ (b + 1)) (σ (b + 2)) (σ (b + 3)) (σ (29 + 4 * i)) (σ (29 + 4 * i + 1)) p s)) = va_up (va_up σ (29 + 4 * i) (upd (σ (29 + 4 * i)) 0 ((σ (29 + 4 * i) 0) - (R_X6_drawable (σ (b + 1)) (σ (b + 2)) (σ (b + 3)) (σ (29 + 4 * i)) (σ (29 + 4 * i + 1)) p s)))) (29 + 4 * i + 1) (σ (29 + 4 * i + 1)) from ((up2_in (by omega)).trans (congrArg (fun z => va_up z (29 + 4 * i + 1) _) (vu_up _ _ _ _ _)))] at hP
    refine lv_aload_n hx hb dX6_pourOn_27 rfl (lv_at hl 1 rfl) ?_
    refine lv_dup hx hb dX6_pourOn_28 rfl ?_
    refine rp_get (C := RX6) (T := TX6) (N := 10) hx hb hts in_X6_pourOn_X6 hown hK hP (29 + 4 * i) (hX6 (i := i) Hi).1 (kX6 (i := i) _) rfl 2 (by decide) (by decide +kernel) rfl dX6_pourOn_29 ?_
    rw [show (va_up (va_up σ (29 + 4 * i) (upd (σ (29 + 4 * i)) 0 ((σ (29 + 4 * i) 0) - (R_X6_drawable (σ (b + 1)) (σ (b + 2)) (σ (b + 3)) (σ (29 + 4 * i)) (σ (29 + 4 * i + 1)) p s)))) (29 + 4 * i + 1) (σ (29 + 4 * i + 1))) (29 + 4 * i) 2 = (σ (29 + 4 * i) 2) from ((va_R (by omega)).trans (va_S'.trans (pk_un (by decide))))]
    refine lv_iload hx hb dX6_pourOn_32 (lv_at hl 0 rfl) ?_
    refine lv_iadd hx hb dX6_pourOn_34 ?_
    refine rp_put (C := RX6) (T := TX6) (N := 10) (v := ((σ (29 + 4 * i) 2) + (R_X6_drawable (σ (b + 1)) (σ (b + 2)) (σ (b + 3)) (σ (29 + 4 * i)) (σ (29 + 4 * i + 1)) p s))) hx hb hts in_X6_pourOn_X6 tyX6 tyX6_ok nmX6 hown hK hP hD hS (29 + 4 * i) (hX6 (i := i) Hi).1 (kX6 (i := i) _) rfl 2 (by decide) (by decide +kernel) rfl rfl rfl (Nat.le_of_ble_eq_true rfl) (kX6 (i := i) _) dX6_pourOn_35 (fun H locs hP hS => ?_)
    rw [show up2 (va_up (va_up σ (29 + 4 * i) (upd (σ (29 + 4 * i)) 0 ((σ (29 + 4 * i) 0) - (R_X6_drawable (σ (b + 1)) (σ (b + 2)) (σ (b + 3)) (σ (29 + 4 * i)) (σ (29 + 4 * i + 1)) p s)))) (29 + 4 * i + 1) (σ (29 + 4 * i + 1))) (29 + 4 * i) 2 ((σ (29 + 4 * i) 2) + (R_X6_drawable (σ (b + 1)) (σ (b + 2)) (σ (b + 3)) (σ (29 + 4 * i)) (σ (29 + 4 * i + 1)) p s)) = va_up (va_up σ (29 + 4 * i) (upd (upd (σ (29 + 4 * i)) 0 ((σ (29 + 4 * i) 0) - (R_X6_drawable (σ (b + 1)) (σ (b + 2)) (σ (b + 3)) (σ (29 + 4 * i)) (σ (29 + 4 * i + 1)) p s))) 2 ((σ (29 + 4 * i) 2) + (R_X6_drawable (σ (b + 1)) (σ (b + 2)) (σ (b + 3)) (σ (29 + 4 * i)) (σ (29 + 4 * i + 1)) p s)))) (29 + 4 * i + 1) (σ (29 + 4 * i + 1)) from ((up2_in (by omega)).trans (congrArg (fun z => va_up z (29 + 4 * i + 1) _) (vu_up _ _ _ _ _)))] at hP
    refine lv_aload_n hx hb dX6_pourOn_38 rfl (lv_at hl 1 rfl) ?_
    refine rp_get (C := RX6) (T := TX6) (N := 10) hx hb hts in_X6_pourOn_X6 hown hK hP (29 + 4 * i) (hX6 (i := i) Hi).1 (kX6 (i := i) _) rfl 6 (by decide) (by decide +kernel) rfl dX6_pourOn_39 ?_
    refine lv_iload_n hx hb dX6_pourOn_42 rfl (lv_at hl 4 rfl) ?_
    refine lv_dup2_11 hx hb dX6_pourOn_43 rfl rfl ?_
    refine rp_iald hx hb hK hP (29 + 4 * i + 1) (hX6 (i := i) Hi).2.1 (kX6_6 (i := i) _) 0 rfl s rfl (by omega) (by decide) dX6_pourOn_44 ?_
    rw [show (va_up (va_up σ (29 + 4 * i) (upd (upd (σ (29 + 4 * i)) 0 ((σ (29 + 4 * i) 0) - (R_X6_drawable (σ (b + 1)) (σ (b + 2)) (σ (b + 3)) (σ (29 + 4 * i)) (σ (29 + 4 * i + 1)) p s))) 2 ((σ (29 + 4 * i) 2) + (R_X6_drawable (σ (b + 1)) (σ (b + 2)) (σ (b + 3)) (σ (29 + 4 * i)) (σ (29 + 4 * i + 1)) p s)))) (29 + 4 * i + 1) (σ (29 + 4 * i + 1))) (29 + 4 * i + 1) s = (σ (29 + 4 * i + 1) s) from va_S']
    refine lv_aload_n hx hb dX6_pourOn_45 rfl (lv_at hl 2 rfl) ?_
    refine rp_get (C := RX7) (T := TX7) (N := 12) hx hb hts in_X6_pourOn_X7 hown hK hP b (hX7 Hb).1 (kX7 Hb _) rfl 6 (by decide) (by decide +kernel) rfl dX6_pourOn_46 ?_
    refine lv_iload_n hx hb dX6_pourOn_49 rfl (lv_at hl 4 rfl) ?_
    refine rp_iald hx hb hK hP (b + 2) (hX7 Hb).2.2.1 ((kX7_6 Hb) _) 0 rfl s rfl (by omega) (by decide) dX6_pourOn_50 ?_
    rw [show (va_up (va_up σ (29 + 4 * i) (upd (upd (σ (29 + 4 * i)) 0 ((σ (29 + 4 * i) 0) - (R_X6_drawable (σ (b + 1)) (σ (b + 2)) (σ (b + 3)) (σ (29 + 4 * i)) (σ (29 + 4 * i + 1)) p s))) 2 ((σ (29 + 4 * i) 2) + (R_X6_drawable (σ (b + 1)) (σ (b + 2)) (σ (b + 3)) (σ (29 + 4 * i)) (σ (29 + 4 * i + 1)) p s)))) (29 + 4 * i + 1) (σ (29 + 4 * i + 1))) (b + 2) s = (σ (b + 2) s) from ((va_R (by omega)).trans (va_R (by omega)))]
    refine lv_iload_n hx hb dX6_pourOn_51 rfl (lv_at hl 3 rfl) ?_
    refine lv_icmp_ne (tgt := 60) hx hb dX6_pourOn_52 (by decide) (fun c52 => ?_) (fun c52 => ?_)
    · skip
      refine lv_iload hx hb dX6_pourOn_60 (lv_at hl 0 rfl) ?_
      refine lv_iconst (v := 2) hx hb dX6_pourOn_62 (by decide) ?_
      refine lv_idiv hx hb dX6_pourOn_63 (by first | decide | assumption) ?_
      refine lv_iadd hx hb dX6_pourOn_64 ?_
      refine rp_iast (x := ((σ (29 + 4 * i + 1) s) + ((R_X6_drawable (σ (b + 1)) (σ (b + 2)) (σ (b + 3)) (σ (29 + 4 * i)) (σ (29 + 4 * i + 1)) p s) / 2))) hx hb hK hP hD hS (29 + 4 * i + 1) (hX6 (i := i) Hi).2.1 (fun f => kX6_6 (i := i) f) 0 rfl s rfl (by omega) (by decide) dX6_pourOn_65 (fun H locs hP hS => ?_)
      rw [show up2 (va_up (va_up σ (29 + 4 * i) (upd (upd (σ (29 + 4 * i)) 0 ((σ (29 + 4 * i) 0) - (R_X6_drawable (σ (b + 1)) (σ (b + 2)) (σ (b + 3)) (σ (29 + 4 * i)) (σ (29 + 4 * i + 1)) p s))) 2 ((σ (29 + 4 * i) 2) + (R_X6_drawable (σ (b + 1)) (σ (b + 2)) (σ (b + 3)) (σ (29 + 4 * i)) (σ (29 + 4 * i + 1)) p s)))) (29 + 4 * i + 1) (σ (29 + 4 * i + 1))) (29 + 4 * i + 1) s ((σ (29 + 4 * i + 1) s) + ((R_X6_drawable (σ (b + 1)) (σ (b + 2)) (σ (b + 3)) (σ (29 + 4 * i)) (σ (29 + 4 * i + 1)) p s) / 2)) = va_up (va_up σ (29 + 4 * i) (upd (upd (σ (29 + 4 * i)) 0 ((σ (29 + 4 * i) 0) - (R_X6_drawable (σ (b + 1)) (σ (b + 2)) (σ (b + 3)) (σ (29 + 4 * i)) (σ (29 + 4 * i + 1)) p s))) 2 ((σ (29 + 4 * i) 2) + (R_X6_drawable (σ (b + 1)) (σ (b + 2)) (σ (b + 3)) (σ (29 + 4 * i)) (σ (29 + 4 * i + 1)) p s)))) (29 + 4 * i + 1) (upd (σ (29 + 4 * i + 1)) s ((σ (29 + 4 * i + 1) s) + ((R_X6_drawable (σ (b + 1)) (σ (b + 2)) (σ (b + 3)) (σ (29 + 4 * i)) (σ (29 + 4 * i + 1)) p s) / 2))) from (vu_up _ _ _ _ _)] at hP
      refine lv_aload_n hx hb dX6_pourOn_66 rfl (lv_at hl 1 rfl) ?_
      refine rp_get (C := RX6) (T := TX6) (N := 10) hx hb hts in_X6_pourOn_X6 hown hK hP (29 + 4 * i) (hX6 (i := i) Hi).1 (kX6 (i := i) _) rfl 6 (by decide) (by decide +kernel) rfl dX6_pourOn_67 ?_
      refine lv_iload_n hx hb dX6_pourOn_70 rfl (lv_at hl 4 rfl) ?_
      refine rp_iald hx hb hK hP (29 + 4 * i + 1) (hX6 (i := i) Hi).2.1 (kX6_6 (i := i) _) 0 rfl s rfl (by omega) (by decide) dX6_pourOn_71 ?_
      rw [show (va_up (va_up σ (29 + 4 * i) (upd (upd (σ (29 + 4 * i)) 0 ((σ (29 + 4 * i) 0) - (R_X6_drawable (σ (b + 1)) (σ (b + 2)) (σ (b + 3)) (σ (29 + 4 * i)) (σ (29 + 4 * i + 1)) p s))) 2 ((σ (29 + 4 * i) 2) + (R_X6_drawable (σ (b + 1)) (σ (b + 2)) (σ (b + 3)) (σ (29 + 4 * i)) (σ (29 + 4 * i + 1)) p s)))) (29 + 4 * i + 1) (upd (σ (29 + 4 * i + 1)) s ((σ (29 + 4 * i + 1) s) + ((R_X6_drawable (σ (b + 1)) (σ (b + 2)) (σ (b + 3)) (σ (29 + 4 * i)) (σ (29 + 4 * i + 1)) p s) / 2)))) (29 + 4 * i + 1) s = ((σ (29 + 4 * i + 1) s) + ((R_X6_drawable (σ (b + 1)) (σ (b + 2)) (σ (b + 3)) (σ (29 + 4 * i)) (σ (29 + 4 * i + 1)) p s) / 2)) from (va_S'.trans pk_us)]
      refine lv_aload_n hx hb dX6_pourOn_72 rfl (lv_at hl 2 rfl) ?_
      refine rp_get (C := RX7) (T := TX7) (N := 12) hx hb hts in_X6_pourOn_X7 hown hK hP b (hX7 Hb).1 (kX7 Hb _) rfl 7 (by decide) (by decide +kernel) rfl dX6_pourOn_73 ?_
      refine lv_iload_n hx hb dX6_pourOn_76 rfl (lv_at hl 4 rfl) ?_
      refine rp_iald hx hb hK hP (b + 3) (hX7 Hb).2.2.2.1 ((kX7_7 Hb) _) 0 rfl s rfl (by omega) (by decide) dX6_pourOn_77 ?_
      rw [show (va_up (va_up σ (29 + 4 * i) (upd (upd (σ (29 + 4 * i)) 0 ((σ (29 + 4 * i) 0) - (R_X6_drawable (σ (b + 1)) (σ (b + 2)) (σ (b + 3)) (σ (29 + 4 * i)) (σ (29 + 4 * i + 1)) p s))) 2 ((σ (29 + 4 * i) 2) + (R_X6_drawable (σ (b + 1)) (σ (b + 2)) (σ (b + 3)) (σ (29 + 4 * i)) (σ (29 + 4 * i + 1)) p s)))) (29 + 4 * i + 1) (upd (σ (29 + 4 * i + 1)) s ((σ (29 + 4 * i + 1) s) + ((R_X6_drawable (σ (b + 1)) (σ (b + 2)) (σ (b + 3)) (σ (29 + 4 * i)) (σ (29 + 4 * i + 1)) p s) / 2)))) (b + 3) s = (σ (b + 3) s) from ((va_R (by omega)).trans (va_R (by omega)))]
      refine lv_icmp_lt (tgt := 100) hx hb dX6_pourOn_78 (by decide) (fun c78 => ?_) (fun c78 => ?_)
      · skip
        refine lv_iload hx hb dX6_pourOn_100 (lv_at hl 0 rfl) ?_
        exact hret hP hS dX6_pourOn_102 rfl ⟨(by unfold R_X6_pourOn <;> rw [if_neg c11, if_neg c52, if_pos c78] <;> first | with_reducible rfl), (by unfold T_X6_pourOn_O T_X6_pourOn_V <;> simp only [if_neg c11, if_neg c52, if_pos c78])⟩
      · skip
        refine lv_aload_n hx hb dX6_pourOn_81 rfl (lv_at hl 1 rfl) ?_
        refine lv_dup hx hb dX6_pourOn_82 rfl ?_
        refine rp_get (C := RX6) (T := TX6) (N := 10) hx hb hts in_X6_pourOn_X6 hown hK hP (29 + 4 * i) (hX6 (i := i) Hi).1 (kX6 (i := i) _) rfl 4 (by decide) (by decide +kernel) rfl dX6_pourOn_83 ?_
        rw [show (va_up (va_up σ (29 + 4 * i) (upd (upd (σ (29 + 4 * i)) 0 ((σ (29 + 4 * i) 0) - (R_X6_drawable (σ (b + 1)) (σ (b + 2)) (σ (b + 3)) (σ (29 + 4 * i)) (σ (29 + 4 * i + 1)) p s))) 2 ((σ (29 + 4 * i) 2) + (R_X6_drawable (σ (b + 1)) (σ (b + 2)) (σ (b + 3)) (σ (29 + 4 * i)) (σ (29 + 4 * i + 1)) p s)))) (29 + 4 * i + 1) (upd (σ (29 + 4 * i + 1)) s ((σ (29 + 4 * i + 1) s) + ((R_X6_drawable (σ (b + 1)) (σ (b + 2)) (σ (b + 3)) (σ (29 + 4 * i)) (σ (29 + 4 * i + 1)) p s) / 2)))) (29 + 4 * i) 4 = (σ (29 + 4 * i) 4) from ((va_R (by omega)).trans (va_S'.trans ((pk_un (by decide)).trans (pk_un (by decide)))))]
        refine lv_iconst (v := 1) hx hb dX6_pourOn_86 (by decide) ?_
        refine lv_iload_n hx hb dX6_pourOn_87 rfl (lv_at hl 4 rfl) ?_
        refine lv_ishl hx hb dX6_pourOn_88 ?_
        refine lv_ior hx hb dX6_pourOn_89 ?_
        refine rp_put (C := RX6) (T := TX6) (N := 10) (v := ((σ (29 + 4 * i) 4) ||| ((1 : Int32) <<< ((nI s) &&& 31)))) hx hb hts in_X6_pourOn_X6 tyX6 tyX6_ok nmX6 hown hK hP hD hS (29 + 4 * i) (hX6 (i := i) Hi).1 (kX6 (i := i) _) rfl 4 (by decide) (by decide +kernel) rfl rfl rfl (Nat.le_of_ble_eq_true rfl) (kX6 (i := i) _) dX6_pourOn_90 (fun H locs hP hS => ?_)
        rw [show up2 (va_up (va_up σ (29 + 4 * i) (upd (upd (σ (29 + 4 * i)) 0 ((σ (29 + 4 * i) 0) - (R_X6_drawable (σ (b + 1)) (σ (b + 2)) (σ (b + 3)) (σ (29 + 4 * i)) (σ (29 + 4 * i + 1)) p s))) 2 ((σ (29 + 4 * i) 2) + (R_X6_drawable (σ (b + 1)) (σ (b + 2)) (σ (b + 3)) (σ (29 + 4 * i)) (σ (29 + 4 * i + 1)) p s)))) (29 + 4 * i + 1) (upd (σ (29 + 4 * i + 1)) s ((σ (29 + 4 * i + 1) s) + ((R_X6_drawable (σ (b + 1)) (σ (b + 2)) (σ (b + 3)) (σ (29 + 4 * i)) (σ (29 + 4 * i + 1)) p s) / 2)))) (29 + 4 * i) 4 ((σ (29 + 4 * i) 4) ||| ((1 : Int32) <<< ((nI s) &&& 31))) = va_up (va_up σ (29 + 4 * i) (upd (upd (upd (σ (29 + 4 * i)) 0 ((σ (29 + 4 * i) 0) - (R_X6_drawable (σ (b + 1)) (σ (b + 2)) (σ (b + 3)) (σ (29 + 4 * i)) (σ (29 + 4 * i + 1)) p s))) 2 ((σ (29 + 4 * i) 2) + (R_X6_drawable (σ (b + 1)) (σ (b + 2)) (σ (b + 3)) (σ (29 + 4 * i)) (σ (29 + 4 * i + 1)) p s))) 4 ((σ (29 + 4 * i) 4) ||| ((1 : Int32) <<< ((nI s) &&& 31))))) (29 + 4 * i + 1) (upd (σ (29 + 4 * i + 1)) s ((σ (29 + 4 * i + 1) s) + ((R_X6_drawable (σ (b + 1)) (σ (b + 2)) (σ (b + 3)) (σ (29 + 4 * i)) (σ (29 + 4 * i + 1)) p s) / 2))) from ((up2_in (by omega)).trans (congrArg (fun z => va_up z (29 + 4 * i + 1) _) (vu_up _ _ _ _ _)))] at hP
        refine lv_aload_n hx hb dX6_pourOn_93 rfl (lv_at hl 1 rfl) ?_
        refine rp_get (C := RX6) (T := TX6) (N := 10) hx hb hts in_X6_pourOn_X6 hown hK hP (29 + 4 * i) (hX6 (i := i) Hi).1 (kX6 (i := i) _) rfl 6 (by decide) (by decide +kernel) rfl dX6_pourOn_94 ?_
        refine lv_iload_n hx hb dX6_pourOn_97 rfl (lv_at hl 4 rfl) ?_
        refine lv_iconst (v := 0) hx hb dX6_pourOn_98 (by decide) ?_
        refine rp_iast (x := 0) hx hb hK hP hD hS (29 + 4 * i + 1) (hX6 (i := i) Hi).2.1 (fun f => kX6_6 (i := i) f) 0 rfl s rfl (by omega) (by decide) dX6_pourOn_99 (fun H locs hP hS => ?_)
        rw [show up2 (va_up (va_up σ (29 + 4 * i) (upd (upd (upd (σ (29 + 4 * i)) 0 ((σ (29 + 4 * i) 0) - (R_X6_drawable (σ (b + 1)) (σ (b + 2)) (σ (b + 3)) (σ (29 + 4 * i)) (σ (29 + 4 * i + 1)) p s))) 2 ((σ (29 + 4 * i) 2) + (R_X6_drawable (σ (b + 1)) (σ (b + 2)) (σ (b + 3)) (σ (29 + 4 * i)) (σ (29 + 4 * i + 1)) p s))) 4 ((σ (29 + 4 * i) 4) ||| ((1 : Int32) <<< ((nI s) &&& 31))))) (29 + 4 * i + 1) (upd (σ (29 + 4 * i + 1)) s ((σ (29 + 4 * i + 1) s) + ((R_X6_drawable (σ (b + 1)) (σ (b + 2)) (σ (b + 3)) (σ (29 + 4 * i)) (σ (29 + 4 * i + 1)) p s) / 2)))) (29 + 4 * i + 1) s 0 = va_up (va_up σ (29 + 4 * i) (upd (upd (upd (σ (29 + 4 * i)) 0 ((σ (29 + 4 * i) 0) - (R_X6_drawable (σ (b + 1)) (σ (b + 2)) (σ (b + 3)) (σ (29 + 4 * i)) (σ (29 + 4 * i + 1)) p s))) 2 ((σ (29 + 4 * i) 2) + (R_X6_drawable (σ (b + 1)) (σ (b + 2)) (σ (b + 3)) (σ (29 + 4 * i)) (σ (29 + 4 * i + 1)) p s))) 4 ((σ (29 + 4 * i) 4) ||| ((1 : Int32) <<< ((nI s) &&& 31))))) (29 + 4 * i + 1) (upd (upd (σ (29 + 4 * i + 1)) s ((σ (29 + 4 * i + 1) s) + ((R_X6_drawable (σ (b + 1)) (σ (b + 2)) (σ (b + 3)) (σ (29 + 4 * i)) (σ (29 + 4 * i + 1)) p s) / 2))) s 0) from (vu_up _ _ _ _ _)] at hP
        refine lv_iload hx hb dX6_pourOn_100 (lv_at hl 0 rfl) ?_
        exact hret hP hS dX6_pourOn_102 rfl ⟨(by unfold R_X6_pourOn <;> rw [if_neg c11, if_neg c52, if_neg c78] <;> first | with_reducible rfl), (by unfold T_X6_pourOn_O T_X6_pourOn_V <;> simp only [if_neg c11, if_neg c52, if_neg c78])⟩
    · skip
      refine lv_iload hx hb dX6_pourOn_55 (lv_at hl 0 rfl) ?_
      refine lv_goto (tgt := 64) hx hb dX6_pourOn_57 (by decide) ?_
      refine lv_iadd hx hb dX6_pourOn_64 ?_
      refine rp_iast (x := ((σ (29 + 4 * i + 1) s) + (R_X6_drawable (σ (b + 1)) (σ (b + 2)) (σ (b + 3)) (σ (29 + 4 * i)) (σ (29 + 4 * i + 1)) p s))) hx hb hK hP hD hS (29 + 4 * i + 1) (hX6 (i := i) Hi).2.1 (fun f => kX6_6 (i := i) f) 0 rfl s rfl (by omega) (by decide) dX6_pourOn_65 (fun H locs hP hS => ?_)
      rw [show up2 (va_up (va_up σ (29 + 4 * i) (upd (upd (σ (29 + 4 * i)) 0 ((σ (29 + 4 * i) 0) - (R_X6_drawable (σ (b + 1)) (σ (b + 2)) (σ (b + 3)) (σ (29 + 4 * i)) (σ (29 + 4 * i + 1)) p s))) 2 ((σ (29 + 4 * i) 2) + (R_X6_drawable (σ (b + 1)) (σ (b + 2)) (σ (b + 3)) (σ (29 + 4 * i)) (σ (29 + 4 * i + 1)) p s)))) (29 + 4 * i + 1) (σ (29 + 4 * i + 1))) (29 + 4 * i + 1) s ((σ (29 + 4 * i + 1) s) + (R_X6_drawable (σ (b + 1)) (σ (b + 2)) (σ (b + 3)) (σ (29 + 4 * i)) (σ (29 + 4 * i + 1)) p s)) = va_up (va_up σ (29 + 4 * i) (upd (upd (σ (29 + 4 * i)) 0 ((σ (29 + 4 * i) 0) - (R_X6_drawable (σ (b + 1)) (σ (b + 2)) (σ (b + 3)) (σ (29 + 4 * i)) (σ (29 + 4 * i + 1)) p s))) 2 ((σ (29 + 4 * i) 2) + (R_X6_drawable (σ (b + 1)) (σ (b + 2)) (σ (b + 3)) (σ (29 + 4 * i)) (σ (29 + 4 * i + 1)) p s)))) (29 + 4 * i + 1) (upd (σ (29 + 4 * i + 1)) s ((σ (29 + 4 * i + 1) s) + (R_X6_drawable (σ (b + 1)) (σ (b + 2)) (σ (b + 3)) (σ (29 + 4 * i)) (σ (29 + 4 * i + 1)) p s))) from (vu_up _ _ _ _ _)] at hP
      refine lv_aload_n hx hb dX6_pourOn_66 rfl (lv_at hl 1 rfl) ?_
      refine rp_get (C := RX6) (T := TX6) (N := 10) hx hb hts in_X6_pourOn_X6 hown hK hP (29 + 4 * i) (hX6 (i := i) Hi).1 (kX6 (i := i) _) rfl 6 (by decide) (by decide +kernel) rfl dX6_pourOn_67 ?_
      refine lv_iload_n hx hb dX6_pourOn_70 rfl (lv_at hl 4 rfl) ?_
      refine rp_iald hx hb hK hP (29 + 4 * i + 1) (hX6 (i := i) Hi).2.1 (kX6_6 (i := i) _) 0 rfl s rfl (by omega) (by decide) dX6_pourOn_71 ?_
      rw [show (va_up (va_up σ (29 + 4 * i) (upd (upd (σ (29 + 4 * i)) 0 ((σ (29 + 4 * i) 0) - (R_X6_drawable (σ (b + 1)) (σ (b + 2)) (σ (b + 3)) (σ (29 + 4 * i)) (σ (29 + 4 * i + 1)) p s))) 2 ((σ (29 + 4 * i) 2) + (R_X6_drawable (σ (b + 1)) (σ (b + 2)) (σ (b + 3)) (σ (29 + 4 * i)) (σ (29 + 4 * i + 1)) p s)))) (29 + 4 * i + 1) (upd (σ (29 + 4 * i + 1)) s ((σ (29 + 4 * i + 1) s) + (R_X6_drawable (σ (b + 1)) (σ (b + 2)) (σ (b + 3)) (σ (29 + 4 * i)) (σ (29 + 4 * i + 1)) p s)))) (29 + 4 * i + 1) s = ((σ (29 + 4 * i + 1) s) + (R_X6_drawable (σ (b + 1)) (σ (b + 2)) (σ (b + 3)) (σ (29 + 4 * i)) (σ (29 + 4 * i + 1)) p s)) from (va_S'.trans pk_us)]
      refine lv_aload_n hx hb dX6_pourOn_72 rfl (lv_at hl 2 rfl) ?_
      refine rp_get (C := RX7) (T := TX7) (N := 12) hx hb hts in_X6_pourOn_X7 hown hK hP b (hX7 Hb).1 (kX7 Hb _) rfl 7 (by decide) (by decide +kernel) rfl dX6_pourOn_73 ?_
      refine lv_iload_n hx hb dX6_pourOn_76 rfl (lv_at hl 4 rfl) ?_
      refine rp_iald hx hb hK hP (b + 3) (hX7 Hb).2.2.2.1 ((kX7_7 Hb) _) 0 rfl s rfl (by omega) (by decide) dX6_pourOn_77 ?_
      rw [show (va_up (va_up σ (29 + 4 * i) (upd (upd (σ (29 + 4 * i)) 0 ((σ (29 + 4 * i) 0) - (R_X6_drawable (σ (b + 1)) (σ (b + 2)) (σ (b + 3)) (σ (29 + 4 * i)) (σ (29 + 4 * i + 1)) p s))) 2 ((σ (29 + 4 * i) 2) + (R_X6_drawable (σ (b + 1)) (σ (b + 2)) (σ (b + 3)) (σ (29 + 4 * i)) (σ (29 + 4 * i + 1)) p s)))) (29 + 4 * i + 1) (upd (σ (29 + 4 * i + 1)) s ((σ (29 + 4 * i + 1) s) + (R_X6_drawable (σ (b + 1)) (σ (b + 2)) (σ (b + 3)) (σ (29 + 4 * i)) (σ (29 + 4 * i + 1)) p s)))) (b + 3) s = (σ (b + 3) s) from ((va_R (by omega)).trans (va_R (by omega)))]
      refine lv_icmp_lt (tgt := 100) hx hb dX6_pourOn_78 (by decide) (fun c78 => ?_) (fun c78 => ?_)
      · skip
        refine lv_iload hx hb dX6_pourOn_100 (lv_at hl 0 rfl) ?_
        exact hret hP hS dX6_pourOn_102 rfl ⟨(by unfold R_X6_pourOn <;> rw [if_neg c11, if_pos c52, if_pos c78] <;> first | with_reducible rfl), (by unfold T_X6_pourOn_O T_X6_pourOn_V <;> simp only [if_neg c11, if_pos c52, if_pos c78])⟩
      · skip
        refine lv_aload_n hx hb dX6_pourOn_81 rfl (lv_at hl 1 rfl) ?_
        refine lv_dup hx hb dX6_pourOn_82 rfl ?_
        refine rp_get (C := RX6) (T := TX6) (N := 10) hx hb hts in_X6_pourOn_X6 hown hK hP (29 + 4 * i) (hX6 (i := i) Hi).1 (kX6 (i := i) _) rfl 4 (by decide) (by decide +kernel) rfl dX6_pourOn_83 ?_
        rw [show (va_up (va_up σ (29 + 4 * i) (upd (upd (σ (29 + 4 * i)) 0 ((σ (29 + 4 * i) 0) - (R_X6_drawable (σ (b + 1)) (σ (b + 2)) (σ (b + 3)) (σ (29 + 4 * i)) (σ (29 + 4 * i + 1)) p s))) 2 ((σ (29 + 4 * i) 2) + (R_X6_drawable (σ (b + 1)) (σ (b + 2)) (σ (b + 3)) (σ (29 + 4 * i)) (σ (29 + 4 * i + 1)) p s)))) (29 + 4 * i + 1) (upd (σ (29 + 4 * i + 1)) s ((σ (29 + 4 * i + 1) s) + (R_X6_drawable (σ (b + 1)) (σ (b + 2)) (σ (b + 3)) (σ (29 + 4 * i)) (σ (29 + 4 * i + 1)) p s)))) (29 + 4 * i) 4 = (σ (29 + 4 * i) 4) from ((va_R (by omega)).trans (va_S'.trans ((pk_un (by decide)).trans (pk_un (by decide)))))]
        refine lv_iconst (v := 1) hx hb dX6_pourOn_86 (by decide) ?_
        refine lv_iload_n hx hb dX6_pourOn_87 rfl (lv_at hl 4 rfl) ?_
        refine lv_ishl hx hb dX6_pourOn_88 ?_
        refine lv_ior hx hb dX6_pourOn_89 ?_
        refine rp_put (C := RX6) (T := TX6) (N := 10) (v := ((σ (29 + 4 * i) 4) ||| ((1 : Int32) <<< ((nI s) &&& 31)))) hx hb hts in_X6_pourOn_X6 tyX6 tyX6_ok nmX6 hown hK hP hD hS (29 + 4 * i) (hX6 (i := i) Hi).1 (kX6 (i := i) _) rfl 4 (by decide) (by decide +kernel) rfl rfl rfl (Nat.le_of_ble_eq_true rfl) (kX6 (i := i) _) dX6_pourOn_90 (fun H locs hP hS => ?_)
        rw [show up2 (va_up (va_up σ (29 + 4 * i) (upd (upd (σ (29 + 4 * i)) 0 ((σ (29 + 4 * i) 0) - (R_X6_drawable (σ (b + 1)) (σ (b + 2)) (σ (b + 3)) (σ (29 + 4 * i)) (σ (29 + 4 * i + 1)) p s))) 2 ((σ (29 + 4 * i) 2) + (R_X6_drawable (σ (b + 1)) (σ (b + 2)) (σ (b + 3)) (σ (29 + 4 * i)) (σ (29 + 4 * i + 1)) p s)))) (29 + 4 * i + 1) (upd (σ (29 + 4 * i + 1)) s ((σ (29 + 4 * i + 1) s) + (R_X6_drawable (σ (b + 1)) (σ (b + 2)) (σ (b + 3)) (σ (29 + 4 * i)) (σ (29 + 4 * i + 1)) p s)))) (29 + 4 * i) 4 ((σ (29 + 4 * i) 4) ||| ((1 : Int32) <<< ((nI s) &&& 31))) = va_up (va_up σ (29 + 4 * i) (upd (upd (upd (σ (29 + 4 * i)) 0 ((σ (29 + 4 * i) 0) - (R_X6_drawable (σ (b + 1)) (σ (b + 2)) (σ (b + 3)) (σ (29 + 4 * i)) (σ (29 + 4 * i + 1)) p s))) 2 ((σ (29 + 4 * i) 2) + (R_X6_drawable (σ (b + 1)) (σ (b + 2)) (σ (b + 3)) (σ (29 + 4 * i)) (σ (29 + 4 * i + 1)) p s))) 4 ((σ (29 + 4 * i) 4) ||| ((1 : Int32) <<< ((nI s) &&& 31))))) (29 + 4 * i + 1) (upd (σ (29 + 4 * i + 1)) s ((σ (29 + 4 * i + 1) s) + (R_X6_drawable (σ (b + 1)) (σ (b + 2)) (σ (b + 3)) (σ (29 + 4 * i)) (σ (29 + 4 * i + 1)) p s))) from ((up2_in (by omega)).trans (congrArg (fun z => va_up z (29 + 4 * i + 1) _) (vu_up _ _ _ _ _)))] at hP
        refine lv_aload_n hx hb dX6_pourOn_93 rfl (lv_at hl 1 rfl) ?_
        refine rp_get (C := RX6) (T := TX6) (N := 10) hx hb hts in_X6_pourOn_X6 hown hK hP (29 + 4 * i) (hX6 (i := i) Hi).1 (kX6 (i := i) _) rfl 6 (by decide) (by decide +kernel) rfl dX6_pourOn_94 ?_
        refine lv_iload_n hx hb dX6_pourOn_97 rfl (lv_at hl 4 rfl) ?_
        refine lv_iconst (v := 0) hx hb dX6_pourOn_98 (by decide) ?_
        refine rp_iast (x := 0) hx hb hK hP hD hS (29 + 4 * i + 1) (hX6 (i := i) Hi).2.1 (fun f => kX6_6 (i := i) f) 0 rfl s rfl (by omega) (by decide) dX6_pourOn_99 (fun H locs hP hS => ?_)
        rw [show up2 (va_up (va_up σ (29 + 4 * i) (upd (upd (upd (σ (29 + 4 * i)) 0 ((σ (29 + 4 * i) 0) - (R_X6_drawable (σ (b + 1)) (σ (b + 2)) (σ (b + 3)) (σ (29 + 4 * i)) (σ (29 + 4 * i + 1)) p s))) 2 ((σ (29 + 4 * i) 2) + (R_X6_drawable (σ (b + 1)) (σ (b + 2)) (σ (b + 3)) (σ (29 + 4 * i)) (σ (29 + 4 * i + 1)) p s))) 4 ((σ (29 + 4 * i) 4) ||| ((1 : Int32) <<< ((nI s) &&& 31))))) (29 + 4 * i + 1) (upd (σ (29 + 4 * i + 1)) s ((σ (29 + 4 * i + 1) s) + (R_X6_drawable (σ (b + 1)) (σ (b + 2)) (σ (b + 3)) (σ (29 + 4 * i)) (σ (29 + 4 * i + 1)) p s)))) (29 + 4 * i + 1) s 0 = va_up (va_up σ (29 + 4 * i) (upd (upd (upd (σ (29 + 4 * i)) 0 ((σ (29 + 4 * i) 0) - (R_X6_drawable (σ (b + 1)) (σ (b + 2)) (σ (b + 3)) (σ (29 + 4 * i)) (σ (29 + 4 * i + 1)) p s))) 2 ((σ (29 + 4 * i) 2) + (R_X6_drawable (σ (b + 1)) (σ (b + 2)) (σ (b + 3)) (σ (29 + 4 * i)) (σ (29 + 4 * i + 1)) p s))) 4 ((σ (29 + 4 * i) 4) ||| ((1 : Int32) <<< ((nI s) &&& 31))))) (29 + 4 * i + 1) (upd (upd (σ (29 + 4 * i + 1)) s ((σ (29 + 4 * i + 1) s) + (R_X6_drawable (σ (b + 1)) (σ (b + 2)) (σ (b + 3)) (σ (29 + 4 * i)) (σ (29 + 4 * i + 1)) p s))) s 0) from (vu_up _ _ _ _ _)] at hP
        refine lv_iload hx hb dX6_pourOn_100 (lv_at hl 0 rfl) ?_
        exact hret hP hS dX6_pourOn_102 rfl ⟨(by unfold R_X6_pourOn <;> rw [if_neg c11, if_pos c52, if_neg c78] <;> first | with_reducible rfl), (by unfold T_X6_pourOn_O T_X6_pourOn_V <;> simp only [if_neg c11, if_pos c52, if_neg c78])⟩
  · skip
    refine lv_iconst (v := 0) hx hb dX6_pourOn_14 (by decide) ?_
    exact hret hP hS dX6_pourOn_15 rfl ⟨(by unfold R_X6_pourOn <;> rw [if_pos c11] <;> first | with_reducible rfl), (by unfold T_X6_pourOn_O T_X6_pourOn_V <;> simp only [if_pos c11])⟩
