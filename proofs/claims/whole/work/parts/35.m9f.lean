def R_X9_told (σ : Nat → Nat → Int32) (n : Nat) (v : Int32) : Int32 := (if v = 0 then (σ 0 3) else (if v = 1 then (σ 0 5) else (if v = 2 then (σ 0 9) else (if v = 3 then (σ 0 14) else (if v = 4 then (σ 6 14) else (if v = 5 then (σ 6 12) else (if v = 6 then (σ 6 13) else (if v = 7 then (holdN (σ 5) (σ 6 10) n) else (if v = 8 then (σ 6 10) else (if v = 9 then (σ 6 11) else (if v = 10 then (σ 6 15) else (if v = 11 then ((sumN (fun j => σ 4 j - 50) (holdN (σ 5) (σ 6 10) n) n) + 1000) else (if v = 12 then ((heavN (σ 5) (σ 6 10) n n).1) else (if v = 13 then (σ 6 16) else (if v = 14 then (σ 0 33) else (if v = 15 then (σ 0 31) else (if v = 16 then (σ 0 2) else (-1000000002))))))))))))))))))
theorem in_X9_told_X9 : ∀ w ∈ u_ws RX9 TX9 38, w ∈ wsX9_told := by decide +kernel
set_option maxHeartbeats 1000000 in
set_option maxRecDepth 100000 in
theorem c_X9_told (l : Launch) (D : va_G) (cy : Nat → ClassId) (ad : Nat → Nat) (σ : Nat → Nat → Int32) (n : Nat) (v : Int32) (hn : n ≤ 10) (en : σ 0 5 = nI n) : MI l D (tysW cy) 19 ad (cfM ad cy) yX9_told wsX9_told ({ frames := 5, cells := 0, slots := 0, locals := 110 }) σ [.ref (ad 0), .int v] (fun v_ τ_ => (R_X9_told σ n v) = v_ ∧ σ = τ_) := by
  refine MI.go (cc := cX9_told) (maxL := 2) .int (by decide) rfl (Nat.le_of_ble_eq_true rfl) ?_
  intro p_ e_ s_ m_ args_ bl_ mt_ c_ A_ Q_ ls hx hb hml hown hts hK hA hD hP hS hl hret
  have hl : lv_has ls 2 [(0, .ref (ad 0)), (1, .int v)] := hl
  refine lv_iload_n hx hb dX9_told_0 rfl (lv_at hl 1 rfl) ?_
  rcases Decidable.em (v = 0) with k1_0 | k1_0
  · skip
    refine lv_tableIn (off := 83) (tgt := 84) hx hb dX9_told_1 (by rw [k1_0]; decide) (by rw [k1_0]; decide) (by rw [k1_0]; decide) (by decide) ?_
    refine lv_aload_n hx hb dX9_told_84 rfl (lv_at hl 0 rfl) ?_
    refine rp_get (C := RX9) (T := TX9) (N := 38) hx hb hts in_X9_told_X9 hown hK hP 0 (by decide) (kX9 _) rfl 3 (by decide) (by decide +kernel) rfl dX9_told_85 ?_
    exact hret hP hS dX9_told_88 rfl ⟨(by unfold R_X9_told <;> rw [if_pos k1_0] <;> first | with_reducible rfl), rfl⟩
  rcases Decidable.em (v = 1) with k1_1 | k1_1
  · skip
    refine lv_tableIn (off := 88) (tgt := 89) hx hb dX9_told_1 (by rw [k1_1]; decide) (by rw [k1_1]; decide) (by rw [k1_1]; decide) (by decide) ?_
    refine lv_aload_n hx hb dX9_told_89 rfl (lv_at hl 0 rfl) ?_
    refine rp_get (C := RX9) (T := TX9) (N := 38) hx hb hts in_X9_told_X9 hown hK hP 0 (by decide) (kX9 _) rfl 5 (by decide) (by decide +kernel) rfl dX9_told_90 ?_
    exact hret hP hS dX9_told_93 rfl ⟨(by unfold R_X9_told <;> rw [if_neg k1_0, if_pos k1_1] <;> first | with_reducible rfl), rfl⟩
  rcases Decidable.em (v = 2) with k1_2 | k1_2
  · skip
    refine lv_tableIn (off := 93) (tgt := 94) hx hb dX9_told_1 (by rw [k1_2]; decide) (by rw [k1_2]; decide) (by rw [k1_2]; decide) (by decide) ?_
    refine lv_aload_n hx hb dX9_told_94 rfl (lv_at hl 0 rfl) ?_
    refine rp_get (C := RX9) (T := TX9) (N := 38) hx hb hts in_X9_told_X9 hown hK hP 0 (by decide) (kX9 _) rfl 9 (by decide) (by decide +kernel) rfl dX9_told_95 ?_
    exact hret hP hS dX9_told_98 rfl ⟨(by unfold R_X9_told <;> rw [if_neg k1_0, if_neg k1_1, if_pos k1_2] <;> first | with_reducible rfl), rfl⟩
  rcases Decidable.em (v = 3) with k1_3 | k1_3
  · skip
    refine lv_tableIn (off := 98) (tgt := 99) hx hb dX9_told_1 (by rw [k1_3]; decide) (by rw [k1_3]; decide) (by rw [k1_3]; decide) (by decide) ?_
    refine lv_aload_n hx hb dX9_told_99 rfl (lv_at hl 0 rfl) ?_
    refine rp_get (C := RX9) (T := TX9) (N := 38) hx hb hts in_X9_told_X9 hown hK hP 0 (by decide) (kX9 _) rfl 14 (by decide) (by decide +kernel) rfl dX9_told_100 ?_
    exact hret hP hS dX9_told_103 rfl ⟨(by unfold R_X9_told <;> rw [if_neg k1_0, if_neg k1_1, if_neg k1_2, if_pos k1_3] <;> first | with_reducible rfl), rfl⟩
  rcases Decidable.em (v = 4) with k1_4 | k1_4
  · skip
    refine lv_tableIn (off := 103) (tgt := 104) hx hb dX9_told_1 (by rw [k1_4]; decide) (by rw [k1_4]; decide) (by rw [k1_4]; decide) (by decide) ?_
    refine lv_aload_n hx hb dX9_told_104 rfl (lv_at hl 0 rfl) ?_
    refine rp_get (C := RX9) (T := TX9) (N := 38) hx hb hts in_X9_told_X9 hown hK hP 0 (by decide) (kX9 _) rfl 11 (by decide) (by decide +kernel) rfl dX9_told_105 ?_
    refine lv_bipush (v := 14) hx hb dX9_told_108 (by decide) ?_
    refine rp_iald hx hb hK hP 6 (by decide) (kX9_11 _) 0 rfl 14 rfl (by decide) (by decide) dX9_told_110 ?_
    exact hret hP hS dX9_told_111 rfl ⟨(by unfold R_X9_told <;> rw [if_neg k1_0, if_neg k1_1, if_neg k1_2, if_neg k1_3, if_pos k1_4] <;> first | with_reducible rfl), rfl⟩
  rcases Decidable.em (v = 5) with k1_5 | k1_5
  · skip
    refine lv_tableIn (off := 111) (tgt := 112) hx hb dX9_told_1 (by rw [k1_5]; decide) (by rw [k1_5]; decide) (by rw [k1_5]; decide) (by decide) ?_
    refine lv_aload_n hx hb dX9_told_112 rfl (lv_at hl 0 rfl) ?_
    refine rp_get (C := RX9) (T := TX9) (N := 38) hx hb hts in_X9_told_X9 hown hK hP 0 (by decide) (kX9 _) rfl 11 (by decide) (by decide +kernel) rfl dX9_told_113 ?_
    refine lv_bipush (v := 12) hx hb dX9_told_116 (by decide) ?_
    refine rp_iald hx hb hK hP 6 (by decide) (kX9_11 _) 0 rfl 12 rfl (by decide) (by decide) dX9_told_118 ?_
    exact hret hP hS dX9_told_119 rfl ⟨(by unfold R_X9_told <;> rw [if_neg k1_0, if_neg k1_1, if_neg k1_2, if_neg k1_3, if_neg k1_4, if_pos k1_5] <;> first | with_reducible rfl), rfl⟩
  rcases Decidable.em (v = 6) with k1_6 | k1_6
  · skip
    refine lv_tableIn (off := 119) (tgt := 120) hx hb dX9_told_1 (by rw [k1_6]; decide) (by rw [k1_6]; decide) (by rw [k1_6]; decide) (by decide) ?_
    refine lv_aload_n hx hb dX9_told_120 rfl (lv_at hl 0 rfl) ?_
    refine rp_get (C := RX9) (T := TX9) (N := 38) hx hb hts in_X9_told_X9 hown hK hP 0 (by decide) (kX9 _) rfl 11 (by decide) (by decide +kernel) rfl dX9_told_121 ?_
    refine lv_bipush (v := 13) hx hb dX9_told_124 (by decide) ?_
    refine rp_iald hx hb hK hP 6 (by decide) (kX9_11 _) 0 rfl 13 rfl (by decide) (by decide) dX9_told_126 ?_
    exact hret hP hS dX9_told_127 rfl ⟨(by unfold R_X9_told <;> rw [if_neg k1_0, if_neg k1_1, if_neg k1_2, if_neg k1_3, if_neg k1_4, if_neg k1_5, if_pos k1_6] <;> first | with_reducible rfl), rfl⟩
  rcases Decidable.em (v = 7) with k1_7 | k1_7
  · skip
    refine lv_tableIn (off := 127) (tgt := 128) hx hb dX9_told_1 (by rw [k1_7]; decide) (by rw [k1_7]; decide) (by rw [k1_7]; decide) (by decide) ?_
    refine lv_aload_n hx hb dX9_told_128 rfl (lv_at hl 0 rfl) ?_
    refine rp_callVI (na := 0) hx hb hml hown hts hK hA hD hP hS hl.1 0 (by decide) (kX9 _) rfl [] (c_X9_holds l D cy ad σ n (by first | assumption | omega) (by first | assumption | rfl)) gX9_told_X9_holds rfl (by decide +kernel) rfl ⟨Nat.le_of_ble_eq_true rfl, Nat.le_of_ble_eq_true rfl⟩ ⟨rfl, rfl⟩ ⟨Nat.zero_le _, Nat.zero_le _⟩ rfl (Nat.le_of_ble_eq_true rfl) dX9_told_129 (fun v_ τ_ H locs hq hP hS => ?_)
    obtain ⟨rfl, rfl⟩ := hq
    exact hret hP hS dX9_told_132 rfl ⟨(by unfold R_X9_told <;> rw [if_neg k1_0, if_neg k1_1, if_neg k1_2, if_neg k1_3, if_neg k1_4, if_neg k1_5, if_neg k1_6, if_pos k1_7] <;> first | with_reducible rfl), rfl⟩
  rcases Decidable.em (v = 8) with k1_8 | k1_8
  · skip
    refine lv_tableIn (off := 132) (tgt := 133) hx hb dX9_told_1 (by rw [k1_8]; decide) (by rw [k1_8]; decide) (by rw [k1_8]; decide) (by decide) ?_
    refine lv_aload_n hx hb dX9_told_133 rfl (lv_at hl 0 rfl) ?_
    refine rp_get (C := RX9) (T := TX9) (N := 38) hx hb hts in_X9_told_X9 hown hK hP 0 (by decide) (kX9 _) rfl 11 (by decide) (by decide +kernel) rfl dX9_told_134 ?_
    refine lv_bipush (v := 10) hx hb dX9_told_137 (by decide) ?_
    refine rp_iald hx hb hK hP 6 (by decide) (kX9_11 _) 0 rfl 10 rfl (by decide) (by decide) dX9_told_139 ?_
    exact hret hP hS dX9_told_140 rfl ⟨(by unfold R_X9_told <;> rw [if_neg k1_0, if_neg k1_1, if_neg k1_2, if_neg k1_3, if_neg k1_4, if_neg k1_5, if_neg k1_6, if_neg k1_7, if_pos k1_8] <;> first | with_reducible rfl), rfl⟩
  rcases Decidable.em (v = 9) with k1_9 | k1_9
  · skip
    refine lv_tableIn (off := 140) (tgt := 141) hx hb dX9_told_1 (by rw [k1_9]; decide) (by rw [k1_9]; decide) (by rw [k1_9]; decide) (by decide) ?_
    refine lv_aload_n hx hb dX9_told_141 rfl (lv_at hl 0 rfl) ?_
    refine rp_get (C := RX9) (T := TX9) (N := 38) hx hb hts in_X9_told_X9 hown hK hP 0 (by decide) (kX9 _) rfl 11 (by decide) (by decide +kernel) rfl dX9_told_142 ?_
    refine lv_bipush (v := 11) hx hb dX9_told_145 (by decide) ?_
    refine rp_iald hx hb hK hP 6 (by decide) (kX9_11 _) 0 rfl 11 rfl (by decide) (by decide) dX9_told_147 ?_
    exact hret hP hS dX9_told_148 rfl ⟨(by unfold R_X9_told <;> rw [if_neg k1_0, if_neg k1_1, if_neg k1_2, if_neg k1_3, if_neg k1_4, if_neg k1_5, if_neg k1_6, if_neg k1_7, if_neg k1_8, if_pos k1_9] <;> first | with_reducible rfl), rfl⟩
  rcases Decidable.em (v = 10) with k1_10 | k1_10
  · skip
    refine lv_tableIn (off := 148) (tgt := 149) hx hb dX9_told_1 (by rw [k1_10]; decide) (by rw [k1_10]; decide) (by rw [k1_10]; decide) (by decide) ?_
    refine lv_aload_n hx hb dX9_told_149 rfl (lv_at hl 0 rfl) ?_
    refine rp_get (C := RX9) (T := TX9) (N := 38) hx hb hts in_X9_told_X9 hown hK hP 0 (by decide) (kX9 _) rfl 11 (by decide) (by decide +kernel) rfl dX9_told_150 ?_
    refine lv_bipush (v := 15) hx hb dX9_told_153 (by decide) ?_
    refine rp_iald hx hb hK hP 6 (by decide) (kX9_11 _) 0 rfl 15 rfl (by decide) (by decide) dX9_told_155 ?_
    exact hret hP hS dX9_told_156 rfl ⟨(by unfold R_X9_told <;> rw [if_neg k1_0, if_neg k1_1, if_neg k1_2, if_neg k1_3, if_neg k1_4, if_neg k1_5, if_neg k1_6, if_neg k1_7, if_neg k1_8, if_neg k1_9, if_pos k1_10] <;> first | with_reducible rfl), rfl⟩
  rcases Decidable.em (v = 11) with k1_11 | k1_11
  · skip
    refine lv_tableIn (off := 156) (tgt := 157) hx hb dX9_told_1 (by rw [k1_11]; decide) (by rw [k1_11]; decide) (by rw [k1_11]; decide) (by decide) ?_
    refine lv_aload_n hx hb dX9_told_157 rfl (lv_at hl 0 rfl) ?_
    refine lv_aload_n hx hb dX9_told_158 rfl (lv_at hl 0 rfl) ?_
    refine rp_callVI (na := 0) hx hb hml hown hts hK hA hD hP hS hl.1 0 (by decide) (kX9 _) rfl [] (c_X9_holds l D cy ad σ n (by first | assumption | omega) (by first | assumption | rfl)) gX9_told_X9_holds rfl (by decide +kernel) rfl ⟨Nat.le_of_ble_eq_true rfl, Nat.le_of_ble_eq_true rfl⟩ ⟨rfl, rfl⟩ ⟨Nat.zero_le _, Nat.zero_le _⟩ rfl (Nat.le_of_ble_eq_true rfl) dX9_told_159 (fun v_ τ_ H locs hq hP hS => ?_)
    obtain ⟨rfl, rfl⟩ := hq
    refine rp_callVI (na := 1) hx hb hml hown hts hK hA hD hP hS hl.1 0 (by decide) (kX9 _) rfl [.int (holdN (σ 5) (σ 6 10) n)] (c_X9_worthOf l D cy ad σ n (holdN (σ 5) (σ 6 10) n) (by first | assumption | omega) (by first | assumption | rfl)) gX9_told_X9_worthOf rfl (by decide +kernel) rfl ⟨Nat.le_of_ble_eq_true rfl, Nat.le_of_ble_eq_true rfl⟩ ⟨rfl, rfl⟩ ⟨Nat.zero_le _, Nat.zero_le _⟩ rfl (Nat.le_of_ble_eq_true rfl) dX9_told_162 (fun v_ τ_ H locs hq hP hS => ?_)
    obtain ⟨rfl, rfl⟩ := hq
    refine lv_sipush (v := 1000) hx hb dX9_told_165 (by decide) ?_
    refine lv_iadd hx hb dX9_told_168 ?_
    exact hret hP hS dX9_told_169 rfl ⟨(by unfold R_X9_told <;> rw [if_neg k1_0, if_neg k1_1, if_neg k1_2, if_neg k1_3, if_neg k1_4, if_neg k1_5, if_neg k1_6, if_neg k1_7, if_neg k1_8, if_neg k1_9, if_neg k1_10, if_pos k1_11] <;> first | with_reducible rfl), rfl⟩
  rcases Decidable.em (v = 12) with k1_12 | k1_12
  · skip
    refine lv_tableIn (off := 169) (tgt := 170) hx hb dX9_told_1 (by rw [k1_12]; decide) (by rw [k1_12]; decide) (by rw [k1_12]; decide) (by decide) ?_
    refine lv_aload_n hx hb dX9_told_170 rfl (lv_at hl 0 rfl) ?_
    refine rp_callVI (na := 0) hx hb hml hown hts hK hA hD hP hS hl.1 0 (by decide) (kX9 _) rfl [] (c_X9_heaviest l D cy ad σ n (by first | assumption | omega) (by first | assumption | rfl)) gX9_told_X9_heaviest rfl (by decide +kernel) rfl ⟨Nat.le_of_ble_eq_true rfl, Nat.le_of_ble_eq_true rfl⟩ ⟨rfl, rfl⟩ ⟨Nat.zero_le _, Nat.zero_le _⟩ rfl (Nat.le_of_ble_eq_true rfl) dX9_told_171 (fun v_ τ_ H locs hq hP hS => ?_)
    obtain ⟨rfl, rfl⟩ := hq
    exact hret hP hS dX9_told_174 rfl ⟨(by unfold R_X9_told <;> rw [if_neg k1_0, if_neg k1_1, if_neg k1_2, if_neg k1_3, if_neg k1_4, if_neg k1_5, if_neg k1_6, if_neg k1_7, if_neg k1_8, if_neg k1_9, if_neg k1_10, if_neg k1_11, if_pos k1_12] <;> first | with_reducible rfl), rfl⟩
  rcases Decidable.em (v = 13) with k1_13 | k1_13
  · skip
    refine lv_tableIn (off := 174) (tgt := 175) hx hb dX9_told_1 (by rw [k1_13]; decide) (by rw [k1_13]; decide) (by rw [k1_13]; decide) (by decide) ?_
    refine lv_aload_n hx hb dX9_told_175 rfl (lv_at hl 0 rfl) ?_
    refine rp_get (C := RX9) (T := TX9) (N := 38) hx hb hts in_X9_told_X9 hown hK hP 0 (by decide) (kX9 _) rfl 11 (by decide) (by decide +kernel) rfl dX9_told_176 ?_
    refine lv_bipush (v := 16) hx hb dX9_told_179 (by decide) ?_
    refine rp_iald hx hb hK hP 6 (by decide) (kX9_11 _) 0 rfl 16 rfl (by decide) (by decide) dX9_told_181 ?_
    exact hret hP hS dX9_told_182 rfl ⟨(by unfold R_X9_told <;> rw [if_neg k1_0, if_neg k1_1, if_neg k1_2, if_neg k1_3, if_neg k1_4, if_neg k1_5, if_neg k1_6, if_neg k1_7, if_neg k1_8, if_neg k1_9, if_neg k1_10, if_neg k1_11, if_neg k1_12, if_pos k1_13] <;> first | with_reducible rfl), rfl⟩
  rcases Decidable.em (v = 14) with k1_14 | k1_14
  · skip
    refine lv_tableIn (off := 182) (tgt := 183) hx hb dX9_told_1 (by rw [k1_14]; decide) (by rw [k1_14]; decide) (by rw [k1_14]; decide) (by decide) ?_
    refine lv_aload_n hx hb dX9_told_183 rfl (lv_at hl 0 rfl) ?_
    refine rp_get (C := RX9) (T := TX9) (N := 38) hx hb hts in_X9_told_X9 hown hK hP 0 (by decide) (kX9 _) rfl 33 (by decide) (by decide +kernel) rfl dX9_told_184 ?_
    exact hret hP hS dX9_told_187 rfl ⟨(by unfold R_X9_told <;> rw [if_neg k1_0, if_neg k1_1, if_neg k1_2, if_neg k1_3, if_neg k1_4, if_neg k1_5, if_neg k1_6, if_neg k1_7, if_neg k1_8, if_neg k1_9, if_neg k1_10, if_neg k1_11, if_neg k1_12, if_neg k1_13, if_pos k1_14] <;> first | with_reducible rfl), rfl⟩
  rcases Decidable.em (v = 15) with k1_15 | k1_15
  · skip
    refine lv_tableIn (off := 187) (tgt := 188) hx hb dX9_told_1 (by rw [k1_15]; decide) (by rw [k1_15]; decide) (by rw [k1_15]; decide) (by decide) ?_
    refine lv_aload_n hx hb dX9_told_188 rfl (lv_at hl 0 rfl) ?_
    refine rp_get (C := RX9) (T := TX9) (N := 38) hx hb hts in_X9_told_X9 hown hK hP 0 (by decide) (kX9 _) rfl 31 (by decide) (by decide +kernel) rfl dX9_told_189 ?_
    exact hret hP hS dX9_told_192 rfl ⟨(by unfold R_X9_told <;> rw [if_neg k1_0, if_neg k1_1, if_neg k1_2, if_neg k1_3, if_neg k1_4, if_neg k1_5, if_neg k1_6, if_neg k1_7, if_neg k1_8, if_neg k1_9, if_neg k1_10, if_neg k1_11, if_neg k1_12, if_neg k1_13, if_neg k1_14, if_pos k1_15] <;> first | with_reducible rfl), rfl⟩
  rcases Decidable.em (v = 16) with k1_16 | k1_16
  · skip
    refine lv_tableIn (off := 192) (tgt := 193) hx hb dX9_told_1 (by rw [k1_16]; decide) (by rw [k1_16]; decide) (by rw [k1_16]; decide) (by decide) ?_
    refine lv_aload_n hx hb dX9_told_193 rfl (lv_at hl 0 rfl) ?_
    refine rp_get (C := RX9) (T := TX9) (N := 38) hx hb hts in_X9_told_X9 hown hK hP 0 (by decide) (kX9 _) rfl 2 (by decide) (by decide +kernel) rfl dX9_told_194 ?_
    exact hret hP hS dX9_told_197 rfl ⟨(by unfold R_X9_told <;> rw [if_neg k1_0, if_neg k1_1, if_neg k1_2, if_neg k1_3, if_neg k1_4, if_neg k1_5, if_neg k1_6, if_neg k1_7, if_neg k1_8, if_neg k1_9, if_neg k1_10, if_neg k1_11, if_neg k1_12, if_neg k1_13, if_neg k1_14, if_neg k1_15, if_pos k1_16] <;> first | with_reducible rfl), rfl⟩
  have ko : (v).toInt < 0 ∨ 16 < (v).toInt := by
    have j0 := sw_ne k1_0
    have j1 := sw_ne k1_1
    have j2 := sw_ne k1_2
    have j3 := sw_ne k1_3
    have j4 := sw_ne k1_4
    have j5 := sw_ne k1_5
    have j6 := sw_ne k1_6
    have j7 := sw_ne k1_7
    have j8 := sw_ne k1_8
    have j9 := sw_ne k1_9
    have j10 := sw_ne k1_10
    have j11 := sw_ne k1_11
    have j12 := sw_ne k1_12
    have j13 := sw_ne k1_13
    have j14 := sw_ne k1_14
    have j15 := sw_ne k1_15
    have j16 := sw_ne k1_16
    simp only [sw_0, sw_1, sw_2, sw_3, sw_4, sw_5, sw_6, sw_7, sw_8, sw_9, sw_10, sw_11, sw_12, sw_13, sw_14, sw_15, sw_16] at j0 j1 j2 j3 j4 j5 j6 j7 j8 j9 j10 j11 j12 j13 j14 j15 j16
    omega
  refine lv_tableOut (tgt := 198) hx hb dX9_told_1 ko (by decide) ?_
  refine lv_ldc (v := (-1000000002)) hx hb hown (hts (.constant RX9 85 (-1000000002)) (by decide +kernel)) dX9_told_198 ?_
  exact hret hP hS dX9_told_200 rfl ⟨(by unfold R_X9_told <;> rw [if_neg k1_0, if_neg k1_1, if_neg k1_2, if_neg k1_3, if_neg k1_4, if_neg k1_5, if_neg k1_6, if_neg k1_7, if_neg k1_8, if_neg k1_9, if_neg k1_10, if_neg k1_11, if_neg k1_12, if_neg k1_13, if_neg k1_14, if_neg k1_15, if_neg k1_16] <;> first | with_reducible rfl), rfl⟩

def R_X9_saying (σ : Nat → Nat → Int32) (n : Nat) (v : Int32) (w : Int32) : Int32 := (if (0 ≤ v ∧ ¬ nI n ≤ v) then (if w = 0 then (σ 2 (v.toNatClampNeg)) else (if w = 1 then (σ 3 (v.toNatClampNeg)) else (if w = 2 then (((σ 4 (v.toNatClampNeg)) - 50) + 1000) else (if w = 3 then (σ 6 (v.toNatClampNeg)) else (if w = 4 then (dRowM (σ 5) (σ 13) ((v.toNatClampNeg) + 1) (v.toNatClampNeg)) else (if w = 5 then (rtD (σ 5) ((v.toNatClampNeg) + 1) ((1 : Int32) <<< (nI (v.toNatClampNeg) &&& 31)) 0) else (if w = 6 then (fallN (σ 5) (σ 6 10) v n) else (if w = 7 then (σ 5 (v.toNatClampNeg)) else (-1000000002))))))))) else (-1000000001))
def T_X9_saying (σ : Nat → Nat → Int32) (n : Nat) (v : Int32) (w : Int32) : Nat → Nat → Int32 := (if (0 ≤ v ∧ ¬ nI n ≤ v) then (if w = 0 then σ else (if w = 1 then σ else (if w = 2 then σ else (if w = 3 then σ else (if w = 4 then va_up σ 13 (dRowM (σ 5) (σ 13) ((v.toNatClampNeg) + 1)) else (if w = 5 then σ else (if w = 6 then σ else (if w = 7 then σ else σ)))))))) else σ)
theorem in_X9_saying_X9 : ∀ w ∈ u_ws RX9 TX9 38, w ∈ wsX9_saying := by decide +kernel
set_option maxHeartbeats 1000000 in
set_option maxRecDepth 100000 in
theorem c_X9_saying (l : Launch) (D : va_G) (cy : Nat → ClassId) (ad : Nat → Nat) (σ : Nat → Nat → Int32) (n : Nat) (v : Int32) (w : Int32) (hn : n ≤ 10) (en : σ 0 5 = nI n) : MI l D (tysW cy) 19 ad (cfM ad cy) yX9_saying wsX9_saying ({ frames := 4, cells := 0, slots := 0, locals := 86 }) σ [.ref (ad 0), .int v, .int w] (fun v_ τ_ => (R_X9_saying σ n v w) = v_ ∧ (T_X9_saying σ n v w) = τ_) := by
  refine MI.go (cc := cX9_saying) (maxL := 3) .int (by decide) rfl (Nat.le_of_ble_eq_true rfl) ?_
  intro p_ e_ s_ m_ args_ bl_ mt_ c_ A_ Q_ ls hx hb hml hown hts hK hA hD hP hS hl hret
  have hl : lv_has ls 3 [(0, .ref (ad 0)), (1, .int v), (2, .int w)] := hl
  refine lv_aload_n hx hb dX9_saying_0 rfl (lv_at hl 0 rfl) ?_
  refine lv_iload_n hx hb dX9_saying_1 rfl (lv_at hl 1 rfl) ?_
  refine rp_callVI (na := 1) hx hb hml hown hts hK hA hD hP hS hl.1 0 (by decide) (kX9 _) rfl [.int v] (c_X9_isSaying l D cy ad σ n v (by first | assumption | omega) (by first | assumption | rfl)) gX9_saying_X9_isSaying rfl (by decide +kernel) rfl ⟨Nat.le_of_ble_eq_true rfl, Nat.le_of_ble_eq_true rfl⟩ ⟨rfl, rfl⟩ ⟨Nat.zero_le _, Nat.zero_le _⟩ rfl (Nat.le_of_ble_eq_true rfl) dX9_saying_2 (fun v_ τ_ H locs hq hP hS => ?_)
  obtain ⟨rfl, rfl⟩ := hq
  refine lv_if_ne (tgt := 11) hx hb dX9_saying_5 (by decide) (fun c5 => ?_) (fun c5 => ?_)
  · skip
    have c5 := bi_ne0.mp c5
    obtain ⟨jv, hjv, rfl⟩ := nI_rng2 c5 (by omega)
    refine lv_iload_n hx hb dX9_saying_11 rfl (lv_at hl 2 rfl) ?_
    rcases Decidable.em (w = 0) with k12_0 | k12_0
    · skip
      refine lv_tableIn (off := 48) (tgt := 60) hx hb dX9_saying_12 (by rw [k12_0]; decide) (by rw [k12_0]; decide) (by rw [k12_0]; decide) (by decide) ?_
      refine lv_aload_n hx hb dX9_saying_60 rfl (lv_at hl 0 rfl) ?_
      refine rp_get (C := RX9) (T := TX9) (N := 38) hx hb hts in_X9_saying_X9 hown hK hP 0 (by decide) (kX9 _) rfl 6 (by decide) (by decide +kernel) rfl dX9_saying_61 ?_
      refine lv_iload_n hx hb dX9_saying_64 rfl (lv_at hl 1 rfl) ?_
      refine rp_iald hx hb hK hP 2 (by decide) (kX9_6 _) 0 rfl jv rfl (by omega) (by decide) dX9_saying_65 ?_
      exact hret hP hS dX9_saying_66 rfl ⟨(by unfold R_X9_saying <;> (try rw [nI_clamp (n := jv) (by omega)]) <;> rw [if_pos c5, if_pos k12_0] <;> first | with_reducible rfl), (by unfold T_X9_saying <;> (try rw [nI_clamp (n := jv) (by omega)]) <;> rw [if_pos c5, if_pos k12_0] <;> first | with_reducible rfl)⟩
    rcases Decidable.em (w = 1) with k12_1 | k12_1
    · skip
      refine lv_tableIn (off := 55) (tgt := 67) hx hb dX9_saying_12 (by rw [k12_1]; decide) (by rw [k12_1]; decide) (by rw [k12_1]; decide) (by decide) ?_
      refine lv_aload_n hx hb dX9_saying_67 rfl (lv_at hl 0 rfl) ?_
      refine rp_get (C := RX9) (T := TX9) (N := 38) hx hb hts in_X9_saying_X9 hown hK hP 0 (by decide) (kX9 _) rfl 7 (by decide) (by decide +kernel) rfl dX9_saying_68 ?_
      refine lv_iload_n hx hb dX9_saying_71 rfl (lv_at hl 1 rfl) ?_
      refine rp_iald hx hb hK hP 3 (by decide) (kX9_7 _) 0 rfl jv rfl (by omega) (by decide) dX9_saying_72 ?_
      exact hret hP hS dX9_saying_73 rfl ⟨(by unfold R_X9_saying <;> (try rw [nI_clamp (n := jv) (by omega)]) <;> rw [if_pos c5, if_neg k12_0, if_pos k12_1] <;> first | with_reducible rfl), (by unfold T_X9_saying <;> (try rw [nI_clamp (n := jv) (by omega)]) <;> rw [if_pos c5, if_neg k12_0, if_pos k12_1] <;> first | with_reducible rfl)⟩
    rcases Decidable.em (w = 2) with k12_2 | k12_2
    · skip
      refine lv_tableIn (off := 62) (tgt := 74) hx hb dX9_saying_12 (by rw [k12_2]; decide) (by rw [k12_2]; decide) (by rw [k12_2]; decide) (by decide) ?_
      refine lv_aload_n hx hb dX9_saying_74 rfl (lv_at hl 0 rfl) ?_
      refine rp_get (C := RX9) (T := TX9) (N := 38) hx hb hts in_X9_saying_X9 hown hK hP 0 (by decide) (kX9 _) rfl 8 (by decide) (by decide +kernel) rfl dX9_saying_75 ?_
      refine lv_iload_n hx hb dX9_saying_78 rfl (lv_at hl 1 rfl) ?_
      refine rp_iald hx hb hK hP 4 (by decide) (kX9_8 _) 0 rfl jv rfl (by omega) (by decide) dX9_saying_79 ?_
      refine lv_bipush (v := 50) hx hb dX9_saying_80 (by decide) ?_
      refine lv_isub hx hb dX9_saying_82 ?_
      refine lv_sipush (v := 1000) hx hb dX9_saying_83 (by decide) ?_
      refine lv_iadd hx hb dX9_saying_86 ?_
      exact hret hP hS dX9_saying_87 rfl ⟨(by unfold R_X9_saying <;> (try rw [nI_clamp (n := jv) (by omega)]) <;> rw [if_pos c5, if_neg k12_0, if_neg k12_1, if_pos k12_2] <;> first | with_reducible rfl), (by unfold T_X9_saying <;> (try rw [nI_clamp (n := jv) (by omega)]) <;> rw [if_pos c5, if_neg k12_0, if_neg k12_1, if_pos k12_2] <;> first | with_reducible rfl)⟩
    rcases Decidable.em (w = 3) with k12_3 | k12_3
    · skip
      refine lv_tableIn (off := 76) (tgt := 88) hx hb dX9_saying_12 (by rw [k12_3]; decide) (by rw [k12_3]; decide) (by rw [k12_3]; decide) (by decide) ?_
      refine lv_aload_n hx hb dX9_saying_88 rfl (lv_at hl 0 rfl) ?_
      refine rp_get (C := RX9) (T := TX9) (N := 38) hx hb hts in_X9_saying_X9 hown hK hP 0 (by decide) (kX9 _) rfl 11 (by decide) (by decide +kernel) rfl dX9_saying_89 ?_
      refine lv_iload_n hx hb dX9_saying_92 rfl (lv_at hl 1 rfl) ?_
      refine rp_iald hx hb hK hP 6 (by decide) (kX9_11 _) 0 rfl jv rfl (by omega) (by decide) dX9_saying_93 ?_
      exact hret hP hS dX9_saying_94 rfl ⟨(by unfold R_X9_saying <;> (try rw [nI_clamp (n := jv) (by omega)]) <;> rw [if_pos c5, if_neg k12_0, if_neg k12_1, if_neg k12_2, if_pos k12_3] <;> first | with_reducible rfl), (by unfold T_X9_saying <;> (try rw [nI_clamp (n := jv) (by omega)]) <;> rw [if_pos c5, if_neg k12_0, if_neg k12_1, if_neg k12_2, if_pos k12_3] <;> first | with_reducible rfl)⟩
    rcases Decidable.em (w = 4) with k12_4 | k12_4
    · skip
      refine lv_tableIn (off := 83) (tgt := 95) hx hb dX9_saying_12 (by rw [k12_4]; decide) (by rw [k12_4]; decide) (by rw [k12_4]; decide) (by decide) ?_
      refine lv_aload_n hx hb dX9_saying_95 rfl (lv_at hl 0 rfl) ?_
      refine lv_iload_n hx hb dX9_saying_96 rfl (lv_at hl 1 rfl) ?_
      refine rp_callVI (na := 1) hx hb hml hown hts hK hA hD hP hS hl.1 0 (by decide) (kX9 _) rfl [.int (nI jv)] (c_X9_depthOf l D cy ad σ jv (by first | assumption | omega)) gX9_saying_X9_depthOf rfl (by decide +kernel) rfl ⟨Nat.le_of_ble_eq_true rfl, Nat.le_of_ble_eq_true rfl⟩ ⟨rfl, rfl⟩ ⟨Nat.zero_le _, Nat.zero_le _⟩ rfl (Nat.le_of_ble_eq_true rfl) dX9_saying_97 (fun v_ τ_ H locs hq hP hS => ?_)
      obtain ⟨rfl, rfl⟩ := hq
      exact hret hP hS dX9_saying_100 rfl ⟨(by unfold R_X9_saying <;> (try rw [nI_clamp (n := jv) (by omega)]) <;> rw [if_pos c5, if_neg k12_0, if_neg k12_1, if_neg k12_2, if_neg k12_3, if_pos k12_4] <;> first | with_reducible rfl), (by unfold T_X9_saying <;> (try rw [nI_clamp (n := jv) (by omega)]) <;> rw [if_pos c5, if_neg k12_0, if_neg k12_1, if_neg k12_2, if_neg k12_3, if_pos k12_4] <;> first | with_reducible rfl)⟩
    rcases Decidable.em (w = 5) with k12_5 | k12_5
    · skip
      refine lv_tableIn (off := 89) (tgt := 101) hx hb dX9_saying_12 (by rw [k12_5]; decide) (by rw [k12_5]; decide) (by rw [k12_5]; decide) (by decide) ?_
      refine lv_aload_n hx hb dX9_saying_101 rfl (lv_at hl 0 rfl) ?_
      refine lv_iload_n hx hb dX9_saying_102 rfl (lv_at hl 1 rfl) ?_
      refine rp_callVI (na := 1) hx hb hml hown hts hK hA hD hP hS hl.1 0 (by decide) (kX9 _) rfl [.int (nI jv)] (c_X9_rootsOf l D cy ad σ jv (by first | assumption | omega)) gX9_saying_X9_rootsOf rfl (by decide +kernel) rfl ⟨Nat.le_of_ble_eq_true rfl, Nat.le_of_ble_eq_true rfl⟩ ⟨rfl, rfl⟩ ⟨Nat.zero_le _, Nat.zero_le _⟩ rfl (Nat.le_of_ble_eq_true rfl) dX9_saying_103 (fun v_ τ_ H locs hq hP hS => ?_)
      obtain ⟨rfl, rfl⟩ := hq
      exact hret hP hS dX9_saying_106 rfl ⟨(by unfold R_X9_saying <;> (try rw [nI_clamp (n := jv) (by omega)]) <;> rw [if_pos c5, if_neg k12_0, if_neg k12_1, if_neg k12_2, if_neg k12_3, if_neg k12_4, if_pos k12_5] <;> first | with_reducible rfl), (by unfold T_X9_saying <;> (try rw [nI_clamp (n := jv) (by omega)]) <;> rw [if_pos c5, if_neg k12_0, if_neg k12_1, if_neg k12_2, if_neg k12_3, if_neg k12_4, if_pos k12_5] <;> first | with_reducible rfl)⟩
    rcases Decidable.em (w = 6) with k12_6 | k12_6
    · skip
      refine lv_tableIn (off := 95) (tgt := 107) hx hb dX9_saying_12 (by rw [k12_6]; decide) (by rw [k12_6]; decide) (by rw [k12_6]; decide) (by decide) ?_
      refine lv_aload_n hx hb dX9_saying_107 rfl (lv_at hl 0 rfl) ?_
      refine lv_iload_n hx hb dX9_saying_108 rfl (lv_at hl 1 rfl) ?_
      refine rp_callVI (na := 1) hx hb hml hown hts hK hA hD hP hS hl.1 0 (by decide) (kX9 _) rfl [.int (nI jv)] (c_X9_fallsOf l D cy ad σ n (nI jv) (by first | assumption | omega) (by first | assumption | rfl)) gX9_saying_X9_fallsOf rfl (by decide +kernel) rfl ⟨Nat.le_of_ble_eq_true rfl, Nat.le_of_ble_eq_true rfl⟩ ⟨rfl, rfl⟩ ⟨Nat.zero_le _, Nat.zero_le _⟩ rfl (Nat.le_of_ble_eq_true rfl) dX9_saying_109 (fun v_ τ_ H locs hq hP hS => ?_)
      obtain ⟨rfl, rfl⟩ := hq
      exact hret hP hS dX9_saying_112 rfl ⟨(by unfold R_X9_saying <;> (try rw [nI_clamp (n := jv) (by omega)]) <;> rw [if_pos c5, if_neg k12_0, if_neg k12_1, if_neg k12_2, if_neg k12_3, if_neg k12_4, if_neg k12_5, if_pos k12_6] <;> first | with_reducible rfl), (by unfold T_X9_saying <;> (try rw [nI_clamp (n := jv) (by omega)]) <;> rw [if_pos c5, if_neg k12_0, if_neg k12_1, if_neg k12_2, if_neg k12_3, if_neg k12_4, if_neg k12_5, if_pos k12_6] <;> first | with_reducible rfl)⟩
    rcases Decidable.em (w = 7) with k12_7 | k12_7
    · skip
      refine lv_tableIn (off := 101) (tgt := 113) hx hb dX9_saying_12 (by rw [k12_7]; decide) (by rw [k12_7]; decide) (by rw [k12_7]; decide) (by decide) ?_
      refine lv_aload_n hx hb dX9_saying_113 rfl (lv_at hl 0 rfl) ?_
      refine rp_get (C := RX9) (T := TX9) (N := 38) hx hb hts in_X9_saying_X9 hown hK hP 0 (by decide) (kX9 _) rfl 10 (by decide) (by decide +kernel) rfl dX9_saying_114 ?_
      refine lv_iload_n hx hb dX9_saying_117 rfl (lv_at hl 1 rfl) ?_
      refine rp_iald hx hb hK hP 5 (by decide) (kX9_10 _) 0 rfl jv rfl (by omega) (by decide) dX9_saying_118 ?_
      exact hret hP hS dX9_saying_119 rfl ⟨(by unfold R_X9_saying <;> (try rw [nI_clamp (n := jv) (by omega)]) <;> rw [if_pos c5, if_neg k12_0, if_neg k12_1, if_neg k12_2, if_neg k12_3, if_neg k12_4, if_neg k12_5, if_neg k12_6, if_pos k12_7] <;> first | with_reducible rfl), (by unfold T_X9_saying <;> (try rw [nI_clamp (n := jv) (by omega)]) <;> rw [if_pos c5, if_neg k12_0, if_neg k12_1, if_neg k12_2, if_neg k12_3, if_neg k12_4, if_neg k12_5, if_neg k12_6, if_pos k12_7] <;> first | with_reducible rfl)⟩
    have ko : (w).toInt < 0 ∨ 7 < (w).toInt := by
      have j0 := sw_ne k12_0
      have j1 := sw_ne k12_1
      have j2 := sw_ne k12_2
      have j3 := sw_ne k12_3
      have j4 := sw_ne k12_4
      have j5 := sw_ne k12_5
      have j6 := sw_ne k12_6
      have j7 := sw_ne k12_7
      simp only [sw_0, sw_1, sw_2, sw_3, sw_4, sw_5, sw_6, sw_7] at j0 j1 j2 j3 j4 j5 j6 j7
      omega
    refine lv_tableOut (tgt := 120) hx hb dX9_saying_12 ko (by decide) ?_
    refine lv_ldc (v := (-1000000002)) hx hb hown (hts (.constant RX9 85 (-1000000002)) (by decide +kernel)) dX9_saying_120 ?_
    exact hret hP hS dX9_saying_122 rfl ⟨(by unfold R_X9_saying <;> (try rw [nI_clamp (n := jv) (by omega)]) <;> rw [if_pos c5, if_neg k12_0, if_neg k12_1, if_neg k12_2, if_neg k12_3, if_neg k12_4, if_neg k12_5, if_neg k12_6, if_neg k12_7] <;> first | with_reducible rfl), (by unfold T_X9_saying <;> (try rw [nI_clamp (n := jv) (by omega)]) <;> rw [if_pos c5, if_neg k12_0, if_neg k12_1, if_neg k12_2, if_neg k12_3, if_neg k12_4, if_neg k12_5, if_neg k12_6, if_neg k12_7] <;> first | with_reducible rfl)⟩
  · skip
    have c5 := bi_eq0.mp c5
    refine lv_ldc (v := (-1000000001)) hx hb hown (hts (.constant RX9 206 (-1000000001)) (by decide +kernel)) dX9_saying_8 ?_
    exact hret hP hS dX9_saying_10 rfl ⟨(by unfold R_X9_saying <;> rw [if_neg c5] <;> first | with_reducible rfl), (by unfold T_X9_saying <;> rw [if_neg c5] <;> first | with_reducible rfl)⟩

def R_X9_person (σ : Nat → Nat → Int32) (n : Nat) (k : Nat) (v : Int32) (w : Int32) : Int32 := (if (0 ≤ v ∧ ¬ nI k ≤ v) then (if w = 0 then (σ 1 (v.toNatClampNeg)) else (if w = 1 then (saidN (σ 2) v n) else (if w = 2 then (leanN (σ 2) (σ 5) v n) else (if w = 3 then (σ 6 12 * σ 1 (v.toNatClampNeg) / allN (σ 1) k + (if leftN (σ 6 12) (σ 1) (allN (σ 1) k) k ≤ nI (v.toNatClampNeg) then 0 else 1)) else (-1000000002))))) else (-1000000001))
theorem in_X9_person_X9 : ∀ w ∈ u_ws RX9 TX9 38, w ∈ wsX9_person := by decide +kernel
set_option maxHeartbeats 1000000 in
set_option maxRecDepth 100000 in
theorem c_X9_person (l : Launch) (D : va_G) (cy : Nat → ClassId) (ad : Nat → Nat) (σ : Nat → Nat → Int32) (n : Nat) (k : Nat) (v : Int32) (w : Int32) (hn : n ≤ 10) (en : σ 0 5 = nI n) (hk : k ≤ 5) (ek : σ 0 3 = nI k) (hall : 0 < k → ¬ allN (σ 1) k = 0) : MI l D (tysW cy) 19 ad (cfM ad cy) yX9_person wsX9_person ({ frames := 2, cells := 0, slots := 0, locals := 46 }) σ [.ref (ad 0), .int v, .int w] (fun v_ τ_ => (R_X9_person σ n k v w) = v_ ∧ σ = τ_) := by
  refine MI.go (cc := cX9_person) (maxL := 3) .int (by decide) rfl (Nat.le_of_ble_eq_true rfl) ?_
  intro p_ e_ s_ m_ args_ bl_ mt_ c_ A_ Q_ ls hx hb hml hown hts hK hA hD hP hS hl hret
  have hl : lv_has ls 3 [(0, .ref (ad 0)), (1, .int v), (2, .int w)] := hl
  refine lv_aload_n hx hb dX9_person_0 rfl (lv_at hl 0 rfl) ?_
  refine lv_iload_n hx hb dX9_person_1 rfl (lv_at hl 1 rfl) ?_
  refine rp_callVI (na := 1) hx hb hml hown hts hK hA hD hP hS hl.1 0 (by decide) (kX9 _) rfl [.int v] (c_X9_isPerson l D cy ad σ k v (by first | assumption | omega) (by first | assumption | rfl)) gX9_person_X9_isPerson rfl (by decide +kernel) rfl ⟨Nat.le_of_ble_eq_true rfl, Nat.le_of_ble_eq_true rfl⟩ ⟨rfl, rfl⟩ ⟨Nat.zero_le _, Nat.zero_le _⟩ rfl (Nat.le_of_ble_eq_true rfl) dX9_person_2 (fun v_ τ_ H locs hq hP hS => ?_)
  obtain ⟨rfl, rfl⟩ := hq
  refine lv_if_ne (tgt := 11) hx hb dX9_person_5 (by decide) (fun c5 => ?_) (fun c5 => ?_)
  · skip
    have c5 := bi_ne0.mp c5
    obtain ⟨jv, hjv, rfl⟩ := nI_rng2 c5 (by omega)
    refine lv_iload_n hx hb dX9_person_11 rfl (lv_at hl 2 rfl) ?_
    rcases Decidable.em (w = 0) with k12_0 | k12_0
    · skip
      refine lv_tableIn (off := 32) (tgt := 44) hx hb dX9_person_12 (by rw [k12_0]; decide) (by rw [k12_0]; decide) (by rw [k12_0]; decide) (by decide) ?_
      refine lv_aload_n hx hb dX9_person_44 rfl (lv_at hl 0 rfl) ?_
      refine rp_get (C := RX9) (T := TX9) (N := 38) hx hb hts in_X9_person_X9 hown hK hP 0 (by decide) (kX9 _) rfl 4 (by decide) (by decide +kernel) rfl dX9_person_45 ?_
      refine lv_iload_n hx hb dX9_person_48 rfl (lv_at hl 1 rfl) ?_
      refine rp_iald hx hb hK hP 1 (by decide) (kX9_4 _) 0 rfl jv rfl (by omega) (by decide) dX9_person_49 ?_
      exact hret hP hS dX9_person_50 rfl ⟨(by unfold R_X9_person <;> (try rw [nI_clamp (n := jv) (by omega)]) <;> rw [if_pos c5, if_pos k12_0] <;> first | with_reducible rfl), rfl⟩
    rcases Decidable.em (w = 1) with k12_1 | k12_1
    · skip
      refine lv_tableIn (off := 39) (tgt := 51) hx hb dX9_person_12 (by rw [k12_1]; decide) (by rw [k12_1]; decide) (by rw [k12_1]; decide) (by decide) ?_
      refine lv_aload_n hx hb dX9_person_51 rfl (lv_at hl 0 rfl) ?_
      refine lv_iload_n hx hb dX9_person_52 rfl (lv_at hl 1 rfl) ?_
      refine rp_callVI (na := 1) hx hb hml hown hts hK hA hD hP hS hl.1 0 (by decide) (kX9 _) rfl [.int (nI jv)] (c_X9_saidBy l D cy ad σ n (nI jv) (by first | assumption | omega) (by first | assumption | rfl)) gX9_person_X9_saidBy rfl (by decide +kernel) rfl ⟨Nat.le_of_ble_eq_true rfl, Nat.le_of_ble_eq_true rfl⟩ ⟨rfl, rfl⟩ ⟨Nat.zero_le _, Nat.zero_le _⟩ rfl (Nat.le_of_ble_eq_true rfl) dX9_person_53 (fun v_ τ_ H locs hq hP hS => ?_)
      obtain ⟨rfl, rfl⟩ := hq
      exact hret hP hS dX9_person_56 rfl ⟨(by unfold R_X9_person <;> (try rw [nI_clamp (n := jv) (by omega)]) <;> rw [if_pos c5, if_neg k12_0, if_pos k12_1] <;> first | with_reducible rfl), rfl⟩
    rcases Decidable.em (w = 2) with k12_2 | k12_2
    · skip
      refine lv_tableIn (off := 45) (tgt := 57) hx hb dX9_person_12 (by rw [k12_2]; decide) (by rw [k12_2]; decide) (by rw [k12_2]; decide) (by decide) ?_
      refine lv_aload_n hx hb dX9_person_57 rfl (lv_at hl 0 rfl) ?_
      refine lv_iload_n hx hb dX9_person_58 rfl (lv_at hl 1 rfl) ?_
      refine rp_callVI (na := 1) hx hb hml hown hts hK hA hD hP hS hl.1 0 (by decide) (kX9 _) rfl [.int (nI jv)] (c_X9_leansOf l D cy ad σ n (nI jv) (by first | assumption | omega) (by first | assumption | rfl)) gX9_person_X9_leansOf rfl (by decide +kernel) rfl ⟨Nat.le_of_ble_eq_true rfl, Nat.le_of_ble_eq_true rfl⟩ ⟨rfl, rfl⟩ ⟨Nat.zero_le _, Nat.zero_le _⟩ rfl (Nat.le_of_ble_eq_true rfl) dX9_person_59 (fun v_ τ_ H locs hq hP hS => ?_)
      obtain ⟨rfl, rfl⟩ := hq
      exact hret hP hS dX9_person_62 rfl ⟨(by unfold R_X9_person <;> (try rw [nI_clamp (n := jv) (by omega)]) <;> rw [if_pos c5, if_neg k12_0, if_neg k12_1, if_pos k12_2] <;> first | with_reducible rfl), rfl⟩
    rcases Decidable.em (w = 3) with k12_3 | k12_3
    · skip
      refine lv_tableIn (off := 51) (tgt := 63) hx hb dX9_person_12 (by rw [k12_3]; decide) (by rw [k12_3]; decide) (by rw [k12_3]; decide) (by decide) ?_
      refine lv_aload_n hx hb dX9_person_63 rfl (lv_at hl 0 rfl) ?_
      refine lv_iload_n hx hb dX9_person_64 rfl (lv_at hl 1 rfl) ?_
      refine rp_callVI (na := 1) hx hb hml hown hts hK hA hD hP hS hl.1 0 (by decide) (kX9 _) rfl [.int (nI jv)] (c_X9_shareOf l D cy ad σ k jv (by first | assumption | omega) (by first | assumption | rfl) (by first | assumption | omega) (hall (by omega))) gX9_person_X9_shareOf rfl (by decide +kernel) rfl ⟨Nat.le_of_ble_eq_true rfl, Nat.le_of_ble_eq_true rfl⟩ ⟨rfl, rfl⟩ ⟨Nat.zero_le _, Nat.zero_le _⟩ rfl (Nat.le_of_ble_eq_true rfl) dX9_person_65 (fun v_ τ_ H locs hq hP hS => ?_)
      obtain ⟨rfl, rfl⟩ := hq
      exact hret hP hS dX9_person_68 rfl ⟨(by unfold R_X9_person <;> (try rw [nI_clamp (n := jv) (by omega)]) <;> rw [if_pos c5, if_neg k12_0, if_neg k12_1, if_neg k12_2, if_pos k12_3] <;> first | with_reducible rfl), rfl⟩
    have ko : (w).toInt < 0 ∨ 3 < (w).toInt := by
      have j0 := sw_ne k12_0
      have j1 := sw_ne k12_1
      have j2 := sw_ne k12_2
      have j3 := sw_ne k12_3
      simp only [sw_0, sw_1, sw_2, sw_3] at j0 j1 j2 j3
      omega
    refine lv_tableOut (tgt := 69) hx hb dX9_person_12 ko (by decide) ?_
    refine lv_ldc (v := (-1000000002)) hx hb hown (hts (.constant RX9 85 (-1000000002)) (by decide +kernel)) dX9_person_69 ?_
    exact hret hP hS dX9_person_71 rfl ⟨(by unfold R_X9_person <;> (try rw [nI_clamp (n := jv) (by omega)]) <;> rw [if_pos c5, if_neg k12_0, if_neg k12_1, if_neg k12_2, if_neg k12_3] <;> first | with_reducible rfl), rfl⟩
  · skip
    have c5 := bi_eq0.mp c5
    refine lv_ldc (v := (-1000000001)) hx hb hown (hts (.constant RX9 206 (-1000000001)) (by decide +kernel)) dX9_person_8 ?_
    exact hret hP hS dX9_person_10 rfl ⟨(by unfold R_X9_person <;> rw [if_neg c5] <;> first | with_reducible rfl), rfl⟩

def R_X9_queued (σ : Nat → Nat → Int32) (q : Nat) (v : Int32) (w : Int32) : Int32 := (if (0 ≤ w ∧ w ≤ 1) then (if (0 ≤ v ∧ ¬ nI q ≤ v) then (if w = 0 then ((σ 6 (17 + (v.toNatClampNeg))) / 10) else ((σ 6 (17 + (v.toNatClampNeg))) - (σ 6 (17 + (v.toNatClampNeg))) / 10 * 10)) else (-1)) else (-1000000002))
theorem in_X9_queued_X9 : ∀ w ∈ u_ws RX9 TX9 38, w ∈ wsX9_queued := by decide +kernel
set_option maxHeartbeats 1000000 in
set_option maxRecDepth 100000 in
theorem c_X9_queued (l : Launch) (D : va_G) (cy : Nat → ClassId) (ad : Nat → Nat) (σ : Nat → Nat → Int32) (q : Nat) (v : Int32) (w : Int32) (hq : q ≤ 6) (eq : σ 6 16 = nI q) : MI l D (tysW cy) 19 ad (cfM ad cy) yX9_queued wsX9_queued ({ frames := 1, cells := 0, slots := 0, locals := 25 }) σ [.ref (ad 0), .int v, .int w] (fun v_ τ_ => (R_X9_queued σ q v w) = v_ ∧ σ = τ_) := by
  refine MI.go (cc := cX9_queued) (maxL := 4) .int (by decide) rfl (Nat.le_of_ble_eq_true rfl) ?_
  intro p_ e_ s_ m_ args_ bl_ mt_ c_ A_ Q_ ls hx hb hml hown hts hK hA hD hP hS hl hret
  have hl : lv_has ls 4 [(0, .ref (ad 0)), (1, .int v), (2, .int w)] := hl
  refine lv_iload_n hx hb dX9_queued_0 rfl (lv_at hl 2 rfl) ?_
  refine lv_i2l (v := (w).toInt64) hx hb dX9_queued_1 rfl ?_
  refine lv_lconst (v := 0) hx hb dX9_queued_2 (by decide) ?_
  refine lv_lconst (v := 1) hx hb dX9_queued_3 (by decide) ?_
  refine rp_callSI (na := 3) hx hb hml hown hts hK hA hD hP hS hl.1 [.long (w).toInt64, .long 0, .long 1] (c_X9_in l D cy ad σ ((w).toInt64) 0 1 ) gX9_queued_X9_in rfl (by decide +kernel) rfl ⟨Nat.le_of_ble_eq_true rfl, Nat.le_of_ble_eq_true rfl⟩ ⟨rfl, rfl⟩ ⟨Nat.zero_le _, Nat.zero_le _⟩ rfl (Nat.le_of_ble_eq_true rfl) dX9_queued_4 (fun v_ τ_ H locs hq hP hS => ?_)
  obtain ⟨rfl, rfl⟩ := hq
  rw [in_0_1]
  refine lv_if_ne (tgt := 13) hx hb dX9_queued_7 (by decide) (fun c7 => ?_) (fun c7 => ?_)
  · skip
    have c7 := bi_ne0.mp c7
    refine lv_iload_n hx hb dX9_queued_13 rfl (lv_at hl 1 rfl) ?_
    refine lv_i2l (v := (v).toInt64) hx hb dX9_queued_14 rfl ?_
    refine lv_lconst (v := 0) hx hb dX9_queued_15 (by decide) ?_
    refine lv_aload_n hx hb dX9_queued_16 rfl (lv_at hl 0 rfl) ?_
    refine rp_get (C := RX9) (T := TX9) (N := 38) hx hb hts in_X9_queued_X9 hown hK hP 0 (by decide) (kX9 _) rfl 11 (by decide) (by decide +kernel) rfl dX9_queued_17 ?_
    refine lv_bipush (v := 16) hx hb dX9_queued_20 (by decide) ?_
    refine rp_iald hx hb hK hP 6 (by decide) (kX9_11 _) 0 rfl 16 rfl (by decide) (by decide) dX9_queued_22 ?_
    rw [eq]
    refine lv_iconst (v := 1) hx hb dX9_queued_23 (by decide) ?_
    refine lv_isub hx hb dX9_queued_24 ?_
    refine lv_i2l (v := (((nI q) - 1)).toInt64) hx hb dX9_queued_25 rfl ?_
    refine rp_callSI (na := 3) hx hb hml hown hts hK hA hD hP hS hl.1 [.long (v).toInt64, .long 0, .long (((nI q) - 1)).toInt64] (c_X9_in l D cy ad σ ((v).toInt64) 0 ((((nI q) - 1)).toInt64) ) gX9_queued_X9_in rfl (by decide +kernel) rfl ⟨Nat.le_of_ble_eq_true rfl, Nat.le_of_ble_eq_true rfl⟩ ⟨rfl, rfl⟩ ⟨Nat.zero_le _, Nat.zero_le _⟩ rfl (Nat.le_of_ble_eq_true rfl) dX9_queued_26 (fun v_ τ_ H locs hq hP hS => ?_)
    obtain ⟨rfl, rfl⟩ := hq
    rw [in_cnt v (show q < 2 ^ 30 by omega)]
    refine lv_if_ne (tgt := 34) hx hb dX9_queued_29 (by decide) (fun c29 => ?_) (fun c29 => ?_)
    · skip
      have c29 := bi_ne0.mp c29
      obtain ⟨jv, hjv, rfl⟩ := nI_rng2 c29 (by omega)
      refine lv_aload_n hx hb dX9_queued_34 rfl (lv_at hl 0 rfl) ?_
      refine rp_get (C := RX9) (T := TX9) (N := 38) hx hb hts in_X9_queued_X9 hown hK hP 0 (by decide) (kX9 _) rfl 11 (by decide) (by decide +kernel) rfl dX9_queued_35 ?_
      refine lv_bipush (v := 17) hx hb dX9_queued_38 (by decide) ?_
      refine lv_iload_n hx hb dX9_queued_40 rfl (lv_at hl 1 rfl) ?_
      refine lv_iadd hx hb dX9_queued_41 ?_
      refine rp_iald hx hb hK hP 6 (by decide) (kX9_11 _) 0 rfl (17 + jv) (nI_add 17 jv) (by omega) (by decide) dX9_queued_42 ?_
      refine lv_istore_n (lv' := [(3, .int (σ 6 (17 + jv))), (0, .ref (ad 0)), (1, .int (nI jv)), (2, .int w)]) hx hb dX9_queued_43 rfl hl (by decide) rfl (fun ls hl => ?_)
      refine lv_iload_n hx hb dX9_queued_44 rfl (lv_at hl 3 rfl) ?_
      refine lv_if_ne (tgt := 55) hx hb dX9_queued_45 (by decide) (fun c45 => ?_) (fun c45 => ?_)
      · skip
        refine lv_iload_n hx hb dX9_queued_55 rfl (lv_at hl 0 rfl) ?_
        refine lv_bipush (v := 10) hx hb dX9_queued_56 (by decide) ?_
        refine lv_irem hx hb dX9_queued_58 (by first | decide | assumption) ?_
        exact hret hP hS dX9_queued_59 rfl ⟨(by unfold R_X9_queued <;> (try rw [nI_clamp (n := jv) (by omega)]) <;> rw [if_pos c7, if_pos c29, if_neg c45] <;> first | with_reducible rfl), rfl⟩
      · skip
        refine lv_iload_n hx hb dX9_queued_48 rfl (lv_at hl 0 rfl) ?_
        refine lv_bipush (v := 10) hx hb dX9_queued_49 (by decide) ?_
        refine lv_idiv hx hb dX9_queued_51 (by first | decide | assumption) ?_
        refine lv_goto (tgt := 59) hx hb dX9_queued_52 (by decide) ?_
        exact hret hP hS dX9_queued_59 rfl ⟨(by unfold R_X9_queued <;> (try rw [nI_clamp (n := jv) (by omega)]) <;> rw [if_pos c7, if_pos c29, if_pos c45] <;> first | with_reducible rfl), rfl⟩
    · skip
      have c29 := bi_eq0.mp c29
      refine lv_iconst (v := (-1)) hx hb dX9_queued_32 (by decide) ?_
      exact hret hP hS dX9_queued_33 rfl ⟨(by unfold R_X9_queued <;> rw [if_pos c7, if_neg c29] <;> first | with_reducible rfl), rfl⟩
  · skip
    have c7 := bi_eq0.mp c7
    refine lv_ldc (v := (-1000000002)) hx hb hown (hts (.constant RX9 85 (-1000000002)) (by decide +kernel)) dX9_queued_10 ?_
    exact hret hP hS dX9_queued_12 rfl ⟨(by unfold R_X9_queued <;> rw [if_neg c7] <;> first | with_reducible rfl), rfl⟩

theorem in_X9_weightOf_X9 : ∀ w ∈ u_ws RX9 TX9 38, w ∈ wsX9_weightOf := by decide +kernel
set_option maxHeartbeats 1000000 in
set_option maxRecDepth 100000 in
theorem c_X9_weightOf (l : Launch) (D : va_G) (cy : Nat → ClassId) (ad : Nat → Nat) (σ : Nat → Nat → Int32) (n : Nat) (u : Int32) (hn : n ≤ 10) (en : σ 0 5 = nI n) : MI l D (tysW cy) 19 ad (cfM ad cy) yX9_weightOf wsX9_weightOf ({ frames := 1, cells := 0, slots := 0, locals := 21 }) σ [.ref (ad 0), .int u] (fun v_ τ_ => (sumN (σ 3) u n) = v_ ∧ σ = τ_) := by
  refine MI.go (cc := cX9_weightOf) (maxL := 4) .int (by decide) rfl (Nat.le_of_ble_eq_true rfl) ?_
  intro p_ e_ s_ m_ args_ bl_ mt_ c_ A_ Q_ ls hx hb hml hown hts hK hA hD hP hS hl hret
  have hl : lv_has ls 4 [(0, .ref (ad 0)), (1, .int u)] := hl
  refine lv_iconst (v := 0) hx hb dX9_weightOf_0 (by decide) ?_
  refine lv_istore_n (lv' := [(2, .int 0), (0, .ref (ad 0)), (1, .int u)]) hx hb dX9_weightOf_1 rfl hl (by decide) rfl (fun ls hl => ?_)
  refine lv_iconst (v := 0) hx hb dX9_weightOf_2 (by decide) ?_
  refine lv_istore_n (lv' := [(3, .int 0), (2, .int 0), (0, .ref (ad 0)), (1, .int u)]) hx hb dX9_weightOf_3 rfl hl (by decide) rfl (fun ls hl => ?_)
  have L4 : ∀ (fu4 : Nat) (i : Nat), (i ≤ n) → n - i < fu4 → ∀ (x3 : Int32) (x2 : Int32) (τ : Nat → Nat → Int32) (H : Heap) (locs : List Loc) (ls : Array Slot), (nI i) = x3 → (sumN (σ 3) u i) = x2 → σ = τ → va_P D classes (rw_ 19 ad (cfM ad cy) τ) H → va_S A_ s_.heap H locs → lv_has ls 4 [(3, .int x3), (2, .int x2), (0, .ref (ad 0)), (1, .int u)] → W p_ l e_ ({ frames := 1, cells := 0, slots := 0, locals := 21 }) s_ m_ args_ bl_ mt_ c_ H locs 0 0 Q_ (F0 m_ 4 ls []) := by
    intro fu4
    induction fu4 with
    | zero => intro i hi hf; exact absurd hf (Nat.not_lt_zero _)
    | succ fu4 ih4 =>
      intro i hi hf4 x3 x2 τ H locs ls ex3 ex2 eτ hP hS hl
      subst ex3
      subst ex2
      subst eτ
      refine lv_iload_n hx hb dX9_weightOf_4 rfl (lv_at hl 0 rfl) ?_
      refine lv_aload_n hx hb dX9_weightOf_5 rfl (lv_at hl 2 rfl) ?_
      refine rp_get (C := RX9) (T := TX9) (N := 38) hx hb hts in_X9_weightOf_X9 hown hK hP 0 (by decide) (kX9 _) rfl 5 (by decide) (by decide +kernel) rfl dX9_weightOf_6 ?_
      rw [en]
      refine lv_icmp_ge (tgt := 39) hx hb dX9_weightOf_9 (by decide) (fun c9 => ?_) (fun c9 => ?_)
      · skip
        have ei := cl_ex hi (by omega) c9
        refine lv_iload_n hx hb dX9_weightOf_39 rfl (lv_at hl 1 rfl) ?_
        exact hret hP hS dX9_weightOf_40 rfl ⟨(by rw [ei]), rfl⟩
      · skip
        have hi2 := cl_in (by omega) (by omega) c9
        refine lv_iload_n hx hb dX9_weightOf_12 rfl (lv_at hl 1 rfl) ?_
        refine lv_iload_n hx hb dX9_weightOf_13 rfl (lv_at hl 3 rfl) ?_
        refine lv_iload_n hx hb dX9_weightOf_14 rfl (lv_at hl 0 rfl) ?_
        refine rp_callSI (na := 2) hx hb hml hown hts hK hA hD hP hS hl.1 [.int u, .int (nI i)] (c_X9_has l D cy ad σ u (nI i) ) gX9_weightOf_X9_has rfl (by decide +kernel) rfl ⟨Nat.le_of_ble_eq_true rfl, Nat.le_of_ble_eq_true rfl⟩ ⟨rfl, rfl⟩ ⟨Nat.zero_le _, Nat.zero_le _⟩ rfl (Nat.le_of_ble_eq_true rfl) dX9_weightOf_15 (fun v_ τ_ H locs hq hP hS => ?_)
        obtain ⟨rfl, rfl⟩ := hq
        refine lv_if_eq (tgt := 30) hx hb dX9_weightOf_18 (by decide) (fun c18 => ?_) (fun c18 => ?_)
        · skip
          have c18 := bi_eq0.mp c18
          refine lv_iconst (v := 0) hx hb dX9_weightOf_30 (by decide) ?_
          refine lv_iadd hx hb dX9_weightOf_31 ?_
          refine lv_istore_n (lv' := [(2, .int ((sumN (σ 3) u i) + 0)), (3, .int (nI i)), (0, .ref (ad 0)), (1, .int u)]) hx hb dX9_weightOf_32 rfl hl (by decide) rfl (fun ls hl => ?_)
          refine lv_iinc (v := ((nI i) + 1)) (lv' := [(3, .int ((nI i) + 1)), (2, .int ((sumN (σ 3) u i) + 0)), (0, .ref (ad 0)), (1, .int u)]) hx hb dX9_weightOf_33 hl (k := 1) rfl rfl (by decide) rfl (fun ls hl => ?_)
          refine lv_goto (tgt := 4) hx hb dX9_weightOf_36 (by decide) ?_
          exact ih4 (i + 1) (by omega) (by omega) _ _ _ _ _ _ ((nI_1 i).symm) (by first | exact sumN_t c18 | exact sumN_f c18) rfl hP hS (lv_sub hl [0, 1, 2, 3] rfl)
        · skip
          have c18 := bi_ne0.mp c18
          refine lv_aload_n hx hb dX9_weightOf_21 rfl (lv_at hl 2 rfl) ?_
          refine rp_get (C := RX9) (T := TX9) (N := 38) hx hb hts in_X9_weightOf_X9 hown hK hP 0 (by decide) (kX9 _) rfl 7 (by decide) (by decide +kernel) rfl dX9_weightOf_22 ?_
          refine lv_iload_n hx hb dX9_weightOf_25 rfl (lv_at hl 0 rfl) ?_
          refine rp_iald hx hb hK hP 3 (by decide) (kX9_7 _) 0 rfl i rfl (by omega) (by decide) dX9_weightOf_26 ?_
          refine lv_goto (tgt := 31) hx hb dX9_weightOf_27 (by decide) ?_
          refine lv_iadd hx hb dX9_weightOf_31 ?_
          refine lv_istore_n (lv' := [(2, .int ((sumN (σ 3) u i) + (σ 3 i))), (3, .int (nI i)), (0, .ref (ad 0)), (1, .int u)]) hx hb dX9_weightOf_32 rfl hl (by decide) rfl (fun ls hl => ?_)
          refine lv_iinc (v := ((nI i) + 1)) (lv' := [(3, .int ((nI i) + 1)), (2, .int ((sumN (σ 3) u i) + (σ 3 i))), (0, .ref (ad 0)), (1, .int u)]) hx hb dX9_weightOf_33 hl (k := 1) rfl rfl (by decide) rfl (fun ls hl => ?_)
          refine lv_goto (tgt := 4) hx hb dX9_weightOf_36 (by decide) ?_
          exact ih4 (i + 1) (by omega) (by omega) _ _ _ _ _ _ ((nI_1 i).symm) (by first | exact sumN_t c18 | exact sumN_f c18) rfl hP hS (lv_sub hl [0, 1, 2, 3] rfl)
  exact L4 ((n - 0) + 1) 0 (Nat.zero_le _) (Nat.lt_succ_self _) _ _ _ _ _ _ (by first | rfl | simp [*]) (by first | rfl | simp [*]) rfl hP hS (lv_sub hl [0, 1, 2, 3] rfl)

set_option maxHeartbeats 1000000 in
set_option maxRecDepth 100000 in
theorem c_X9_couldBe (l : Launch) (D : va_G) (cy : Nat → ClassId) (ad : Nat → Nat) (σ : Nat → Nat → Int32) (n : Nat) (u : Int32) (h : Int32) (c : Int32) (hn : n ≤ 10) (en : σ 0 5 = nI n) : MI l D (tysW cy) 19 ad (cfM ad cy) yX9_couldBe wsX9_couldBe ({ frames := 2, cells := 0, slots := 0, locals := 45 }) σ [.ref (ad 0), .int u, .int h, .int c] (fun v_ τ_ => (bi (cb (σ 3) (σ 5) n h c u)) = v_ ∧ σ = τ_) := by
  refine MI.go (cc := cX9_couldBe) (maxL := 4) .boolean (by decide) rfl (Nat.le_of_ble_eq_true rfl) ?_
  intro p_ e_ s_ m_ args_ bl_ mt_ c_ A_ Q_ ls hx hb hml hown hts hK hA hD hP hS hl hret
  have hl : lv_has ls 4 [(0, .ref (ad 0)), (1, .int u), (2, .int h), (3, .int c)] := hl
  refine lv_aload_n hx hb dX9_couldBe_0 rfl (lv_at hl 0 rfl) ?_
  refine lv_iload_n hx hb dX9_couldBe_1 rfl (lv_at hl 1 rfl) ?_
  refine rp_callVI (na := 1) hx hb hml hown hts hK hA hD hP hS hl.1 0 (by decide) (kX9 _) rfl [.int u] (c_X9_weightOf l D cy ad σ n u (by first | assumption | omega) (by first | assumption | rfl)) gX9_couldBe_X9_weightOf rfl (by decide +kernel) rfl ⟨Nat.le_of_ble_eq_true rfl, Nat.le_of_ble_eq_true rfl⟩ ⟨rfl, rfl⟩ ⟨Nat.zero_le _, Nat.zero_le _⟩ rfl (Nat.le_of_ble_eq_true rfl) dX9_couldBe_2 (fun v_ τ_ H locs hq hP hS => ?_)
  obtain ⟨rfl, rfl⟩ := hq
  refine lv_iload_n hx hb dX9_couldBe_5 rfl (lv_at hl 3 rfl) ?_
  refine lv_icmp_ne (tgt := 22) hx hb dX9_couldBe_6 (by decide) (fun c6 => ?_) (fun c6 => ?_)
  · skip
    refine lv_iconst (v := 0) hx hb dX9_couldBe_22 (by decide) ?_
    exact hret hP hS dX9_couldBe_23 rfl ⟨(by first | exact bi_f (fun q => c6 q.1) | exact bi_f (fun q => c15 q.2) | exact bi_t ⟨c6, c15⟩), rfl⟩
  · skip
    refine lv_aload_n hx hb dX9_couldBe_9 rfl (lv_at hl 0 rfl) ?_
    refine lv_iload_n hx hb dX9_couldBe_10 rfl (lv_at hl 1 rfl) ?_
    refine rp_callVI (na := 1) hx hb hml hown hts hK hA hD hP hS hl.1 0 (by decide) (kX9 _) rfl [.int u] (c_X9_holdsBut l D cy ad σ n u (by first | assumption | omega) (by first | assumption | rfl)) gX9_couldBe_X9_holdsBut rfl (by decide +kernel) rfl ⟨Nat.le_of_ble_eq_true rfl, Nat.le_of_ble_eq_true rfl⟩ ⟨rfl, rfl⟩ ⟨Nat.zero_le _, Nat.zero_le _⟩ rfl (Nat.le_of_ble_eq_true rfl) dX9_couldBe_11 (fun v_ τ_ H locs hq hP hS => ?_)
    obtain ⟨rfl, rfl⟩ := hq
    refine lv_iload_n hx hb dX9_couldBe_14 rfl (lv_at hl 2 rfl) ?_
    refine lv_icmp_ne (tgt := 22) hx hb dX9_couldBe_15 (by decide) (fun c15 => ?_) (fun c15 => ?_)
    · skip
      refine lv_iconst (v := 0) hx hb dX9_couldBe_22 (by decide) ?_
      exact hret hP hS dX9_couldBe_23 rfl ⟨(by first | exact bi_f (fun q => c6 q.1) | exact bi_f (fun q => c15 q.2) | exact bi_t ⟨c6, c15⟩), rfl⟩
    · skip
      refine lv_iconst (v := 1) hx hb dX9_couldBe_18 (by decide) ?_
      refine lv_goto (tgt := 23) hx hb dX9_couldBe_19 (by decide) ?_
      exact hret hP hS dX9_couldBe_23 rfl ⟨(by first | exact bi_f (fun q => c6 q.1) | exact bi_f (fun q => c15 q.2) | exact bi_t ⟨c6, c15⟩), rfl⟩

theorem in_X9_manyWith_X9 : ∀ w ∈ u_ws RX9 TX9 38, w ∈ wsX9_manyWith := by decide +kernel
set_option maxHeartbeats 1000000 in
set_option maxRecDepth 100000 in
theorem c_X9_manyWith (l : Launch) (D : va_G) (cy : Nat → ClassId) (ad : Nat → Nat) (σ : Nat → Nat → Int32) (n : Nat) (h : Int32) (c : Int32) (w : Int32) (hn : n ≤ 10) (en : σ 0 5 = nI n) : MI l D (tysW cy) 19 ad (cfM ad cy) yX9_manyWith wsX9_manyWith ({ frames := 3, cells := 0, slots := 0, locals := 68 }) σ [.ref (ad 0), .int h, .int c, .int w] (fun v_ τ_ => (manN (σ 3) (σ 5) n h c w (2 ^ n)) = v_ ∧ σ = τ_) := by
  refine MI.go (cc := cX9_manyWith) (maxL := 6) .int (by decide) rfl (Nat.le_of_ble_eq_true rfl) ?_
  intro p_ e_ s_ m_ args_ bl_ mt_ c_ A_ Q_ ls hx hb hml hown hts hK hA hD hP hS hl hret
  have hl : lv_has ls 6 [(0, .ref (ad 0)), (1, .int h), (2, .int c), (3, .int w)] := hl
  have hp := pow_le hn
  refine lv_iconst (v := 0) hx hb dX9_manyWith_0 (by decide) ?_
  refine lv_istore (lv' := [(4, .int 0), (0, .ref (ad 0)), (1, .int h), (2, .int c), (3, .int w)]) hx hb dX9_manyWith_1 hl (by decide) rfl (fun ls hl => ?_)
  refine lv_iconst (v := 0) hx hb dX9_manyWith_3 (by decide) ?_
  refine lv_istore (lv' := [(5, .int 0), (4, .int 0), (0, .ref (ad 0)), (1, .int h), (2, .int c), (3, .int w)]) hx hb dX9_manyWith_4 hl (by decide) rfl (fun ls hl => ?_)
  have L6 : ∀ (fu6 : Nat) (i : Nat), (i ≤ 2 ^ n) → 2 ^ n - i < fu6 → ∀ (x5 : Int32) (x4 : Int32) (τ : Nat → Nat → Int32) (H : Heap) (locs : List Loc) (ls : Array Slot), (nI i) = x5 → (manN (σ 3) (σ 5) n h c w i) = x4 → σ = τ → va_P D classes (rw_ 19 ad (cfM ad cy) τ) H → va_S A_ s_.heap H locs → lv_has ls 6 [(5, .int x5), (4, .int x4), (0, .ref (ad 0)), (1, .int h), (2, .int c), (3, .int w)] → W p_ l e_ ({ frames := 3, cells := 0, slots := 0, locals := 68 }) s_ m_ args_ bl_ mt_ c_ H locs 0 0 Q_ (F0 m_ 6 ls []) := by
    intro fu6
    induction fu6 with
    | zero => intro i hi hf; exact absurd hf (Nat.not_lt_zero _)
    | succ fu6 ih6 =>
      intro i hi hf6 x5 x4 τ H locs ls ex5 ex4 eτ hP hS hl
      subst ex5
      subst ex4
      subst eτ
      refine lv_iload hx hb dX9_manyWith_6 (lv_at hl 0 rfl) ?_
      refine lv_iconst (v := 1) hx hb dX9_manyWith_8 (by decide) ?_
      refine lv_aload_n hx hb dX9_manyWith_9 rfl (lv_at hl 2 rfl) ?_
      refine rp_get (C := RX9) (T := TX9) (N := 38) hx hb hts in_X9_manyWith_X9 hown hK hP 0 (by decide) (kX9 _) rfl 5 (by decide) (by decide +kernel) rfl dX9_manyWith_10 ?_
      rw [en]
      refine lv_ishl hx hb dX9_manyWith_13 ?_
      rw [shl1 hn]
      refine lv_icmp_ge (tgt := 52) hx hb dX9_manyWith_14 (by decide) (fun c14 => ?_) (fun c14 => ?_)
      · skip
        have ei := cl_ex hi (by omega) c14
        refine lv_iload hx hb dX9_manyWith_52 (lv_at hl 1 rfl) ?_
        exact hret hP hS dX9_manyWith_54 rfl ⟨(by rw [ei]), rfl⟩
      · skip
        have hi2 := cl_in (by omega) (by omega) c14
        refine lv_iload hx hb dX9_manyWith_17 (lv_at hl 1 rfl) ?_
        refine lv_iload hx hb dX9_manyWith_19 (lv_at hl 0 rfl) ?_
        refine lv_iload_n hx hb dX9_manyWith_21 rfl (lv_at hl 5 rfl) ?_
        refine lv_iand hx hb dX9_manyWith_22 ?_
        refine lv_iload_n hx hb dX9_manyWith_23 rfl (lv_at hl 5 rfl) ?_
        refine lv_icmp_ne (tgt := 42) hx hb dX9_manyWith_24 (by decide) (fun c24 => ?_) (fun c24 => ?_)
        · skip
          refine lv_iconst (v := 0) hx hb dX9_manyWith_42 (by decide) ?_
          refine lv_iadd hx hb dX9_manyWith_43 ?_
          refine lv_istore (lv' := [(4, .int ((manN (σ 3) (σ 5) n h c w i) + 0)), (5, .int (nI i)), (0, .ref (ad 0)), (1, .int h), (2, .int c), (3, .int w)]) hx hb dX9_manyWith_44 hl (by decide) rfl (fun ls hl => ?_)
          refine lv_iinc (v := ((nI i) + 1)) (lv' := [(5, .int ((nI i) + 1)), (4, .int ((manN (σ 3) (σ 5) n h c w i) + 0)), (0, .ref (ad 0)), (1, .int h), (2, .int c), (3, .int w)]) hx hb dX9_manyWith_46 hl (k := 1) rfl rfl (by decide) rfl (fun ls hl => ?_)
          refine lv_goto (tgt := 6) hx hb dX9_manyWith_49 (by decide) ?_
          exact ih6 (i + 1) (by omega) (by omega) _ _ _ _ _ _ ((nI_1 i).symm) (by first | exact congrArg (fun z => _ + z) (if_neg (fun q => c24 q.1)) | exact congrArg (fun z => _ + z) (if_neg (fun q => c35 q.2)) | exact congrArg (fun z => _ + z) (if_pos ⟨c24, c35⟩)) rfl hP hS (lv_sub hl [0, 1, 2, 3, 4, 5] rfl)
        · skip
          refine lv_aload_n hx hb dX9_manyWith_27 rfl (lv_at hl 2 rfl) ?_
          refine lv_iload hx hb dX9_manyWith_28 (lv_at hl 0 rfl) ?_
          refine lv_iload_n hx hb dX9_manyWith_30 rfl (lv_at hl 3 rfl) ?_
          refine lv_iload_n hx hb dX9_manyWith_31 rfl (lv_at hl 4 rfl) ?_
          refine rp_callVI (na := 3) hx hb hml hown hts hK hA hD hP hS hl.1 0 (by decide) (kX9 _) rfl [.int (nI i), .int h, .int c] (c_X9_couldBe l D cy ad σ n (nI i) h c (by first | assumption | omega) (by first | assumption | rfl)) gX9_manyWith_X9_couldBe rfl (by decide +kernel) rfl ⟨Nat.le_of_ble_eq_true rfl, Nat.le_of_ble_eq_true rfl⟩ ⟨rfl, rfl⟩ ⟨Nat.zero_le _, Nat.zero_le _⟩ rfl (Nat.le_of_ble_eq_true rfl) dX9_manyWith_32 (fun v_ τ_ H locs hq hP hS => ?_)
          obtain ⟨rfl, rfl⟩ := hq
          refine lv_if_eq (tgt := 42) hx hb dX9_manyWith_35 (by decide) (fun c35 => ?_) (fun c35 => ?_)
          · skip
            have c35 := bi_eq0.mp c35
            refine lv_iconst (v := 0) hx hb dX9_manyWith_42 (by decide) ?_
            refine lv_iadd hx hb dX9_manyWith_43 ?_
            refine lv_istore (lv' := [(4, .int ((manN (σ 3) (σ 5) n h c w i) + 0)), (5, .int (nI i)), (0, .ref (ad 0)), (1, .int h), (2, .int c), (3, .int w)]) hx hb dX9_manyWith_44 hl (by decide) rfl (fun ls hl => ?_)
            refine lv_iinc (v := ((nI i) + 1)) (lv' := [(5, .int ((nI i) + 1)), (4, .int ((manN (σ 3) (σ 5) n h c w i) + 0)), (0, .ref (ad 0)), (1, .int h), (2, .int c), (3, .int w)]) hx hb dX9_manyWith_46 hl (k := 1) rfl rfl (by decide) rfl (fun ls hl => ?_)
            refine lv_goto (tgt := 6) hx hb dX9_manyWith_49 (by decide) ?_
            exact ih6 (i + 1) (by omega) (by omega) _ _ _ _ _ _ ((nI_1 i).symm) (by first | exact congrArg (fun z => _ + z) (if_neg (fun q => c24 q.1)) | exact congrArg (fun z => _ + z) (if_neg (fun q => c35 q.2)) | exact congrArg (fun z => _ + z) (if_pos ⟨c24, c35⟩)) rfl hP hS (lv_sub hl [0, 1, 2, 3, 4, 5] rfl)
          · skip
            have c35 := bi_ne0.mp c35
            refine lv_iconst (v := 1) hx hb dX9_manyWith_38 (by decide) ?_
            refine lv_goto (tgt := 43) hx hb dX9_manyWith_39 (by decide) ?_
            refine lv_iadd hx hb dX9_manyWith_43 ?_
            refine lv_istore (lv' := [(4, .int ((manN (σ 3) (σ 5) n h c w i) + 1)), (5, .int (nI i)), (0, .ref (ad 0)), (1, .int h), (2, .int c), (3, .int w)]) hx hb dX9_manyWith_44 hl (by decide) rfl (fun ls hl => ?_)
            refine lv_iinc (v := ((nI i) + 1)) (lv' := [(5, .int ((nI i) + 1)), (4, .int ((manN (σ 3) (σ 5) n h c w i) + 1)), (0, .ref (ad 0)), (1, .int h), (2, .int c), (3, .int w)]) hx hb dX9_manyWith_46 hl (k := 1) rfl rfl (by decide) rfl (fun ls hl => ?_)
            refine lv_goto (tgt := 6) hx hb dX9_manyWith_49 (by decide) ?_
            exact ih6 (i + 1) (by omega) (by omega) _ _ _ _ _ _ ((nI_1 i).symm) (by first | exact congrArg (fun z => _ + z) (if_neg (fun q => c24 q.1)) | exact congrArg (fun z => _ + z) (if_neg (fun q => c35 q.2)) | exact congrArg (fun z => _ + z) (if_pos ⟨c24, c35⟩)) rfl hP hS (lv_sub hl [0, 1, 2, 3, 4, 5] rfl)
  exact L6 ((2 ^ n - 0) + 1) 0 (Nat.zero_le _) (Nat.lt_succ_self _) _ _ _ _ _ _ (by first | rfl | simp [*]) (by first | rfl | simp [*]) rfl hP hS (lv_sub hl [0, 1, 2, 3, 4, 5] rfl)

theorem in_X9_inEach_X9 : ∀ w ∈ u_ws RX9 TX9 38, w ∈ wsX9_inEach := by decide +kernel
set_option maxHeartbeats 1000000 in
set_option maxRecDepth 100000 in
theorem c_X9_inEach (l : Launch) (D : va_G) (cy : Nat → ClassId) (ad : Nat → Nat) (σ : Nat → Nat → Int32) (n : Nat) (h : Int32) (c : Int32) (hn : n ≤ 10) (en : σ 0 5 = nI n) : MI l D (tysW cy) 19 ad (cfM ad cy) yX9_inEach wsX9_inEach ({ frames := 3, cells := 0, slots := 0, locals := 68 }) σ [.ref (ad 0), .int h, .int c] (fun v_ τ_ => (eachN (σ 3) (σ 5) n h c (2 ^ n)) = v_ ∧ σ = τ_) := by
  refine MI.go (cc := cX9_inEach) (maxL := 6) .int (by decide) rfl (Nat.le_of_ble_eq_true rfl) ?_
  intro p_ e_ s_ m_ args_ bl_ mt_ c_ A_ Q_ ls hx hb hml hown hts hK hA hD hP hS hl hret
  have hl : lv_has ls 6 [(0, .ref (ad 0)), (1, .int h), (2, .int c)] := hl
  have hp := pow_le hn
  refine lv_iconst (v := (-1)) hx hb dX9_inEach_0 (by decide) ?_
  refine lv_istore_n (lv' := [(3, .int (-1)), (0, .ref (ad 0)), (1, .int h), (2, .int c)]) hx hb dX9_inEach_1 rfl hl (by decide) rfl (fun ls hl => ?_)
  refine lv_iconst (v := 0) hx hb dX9_inEach_2 (by decide) ?_
  refine lv_istore (lv' := [(4, .int 0), (3, .int (-1)), (0, .ref (ad 0)), (1, .int h), (2, .int c)]) hx hb dX9_inEach_3 hl (by decide) rfl (fun ls hl => ?_)
  have L5 : ∀ (fu5 : Nat) (i : Nat), (i ≤ 2 ^ n) → 2 ^ n - i < fu5 → ∀ (x4 : Int32) (x3 : Int32) (τ : Nat → Nat → Int32) (H : Heap) (locs : List Loc) (ls : Array Slot), (nI i) = x4 → (eachN (σ 3) (σ 5) n h c i) = x3 → σ = τ → va_P D classes (rw_ 19 ad (cfM ad cy) τ) H → va_S A_ s_.heap H locs → lv_has ls 6 [(4, .int x4), (3, .int x3), (0, .ref (ad 0)), (1, .int h), (2, .int c)] → W p_ l e_ ({ frames := 3, cells := 0, slots := 0, locals := 68 }) s_ m_ args_ bl_ mt_ c_ H locs 0 0 Q_ (F0 m_ 5 ls []) := by
    intro fu5
    induction fu5 with
    | zero => intro i hi hf; exact absurd hf (Nat.not_lt_zero _)
    | succ fu5 ih5 =>
      intro i hi hf5 x4 x3 τ H locs ls ex4 ex3 eτ hP hS hl
      subst ex4
      subst ex3
      subst eτ
      refine lv_iload hx hb dX9_inEach_5 (lv_at hl 0 rfl) ?_
      refine lv_iconst (v := 1) hx hb dX9_inEach_7 (by decide) ?_
      refine lv_aload_n hx hb dX9_inEach_8 rfl (lv_at hl 2 rfl) ?_
      refine rp_get (C := RX9) (T := TX9) (N := 38) hx hb hts in_X9_inEach_X9 hown hK hP 0 (by decide) (kX9 _) rfl 5 (by decide) (by decide +kernel) rfl dX9_inEach_9 ?_
      rw [en]
      refine lv_ishl hx hb dX9_inEach_12 ?_
      rw [shl1 hn]
      refine lv_icmp_ge (tgt := 55) hx hb dX9_inEach_13 (by decide) (fun c13 => ?_) (fun c13 => ?_)
      · skip
        have ei := cl_ex hi (by omega) c13
        refine lv_iload_n hx hb dX9_inEach_55 rfl (lv_at hl 1 rfl) ?_
        exact hret hP hS dX9_inEach_56 rfl ⟨(by rw [ei]), rfl⟩
      · skip
        have hi2 := cl_in (by omega) (by omega) c13
        refine lv_aload_n hx hb dX9_inEach_16 rfl (lv_at hl 2 rfl) ?_
        refine lv_iload hx hb dX9_inEach_17 (lv_at hl 0 rfl) ?_
        refine lv_iload_n hx hb dX9_inEach_19 rfl (lv_at hl 3 rfl) ?_
        refine lv_iload_n hx hb dX9_inEach_20 rfl (lv_at hl 4 rfl) ?_
        refine rp_callVI (na := 3) hx hb hml hown hts hK hA hD hP hS hl.1 0 (by decide) (kX9 _) rfl [.int (nI i), .int h, .int c] (c_X9_couldBe l D cy ad σ n (nI i) h c (by first | assumption | omega) (by first | assumption | rfl)) gX9_inEach_X9_couldBe rfl (by decide +kernel) rfl ⟨Nat.le_of_ble_eq_true rfl, Nat.le_of_ble_eq_true rfl⟩ ⟨rfl, rfl⟩ ⟨Nat.zero_le _, Nat.zero_le _⟩ rfl (Nat.le_of_ble_eq_true rfl) dX9_inEach_21 (fun v_ τ_ H locs hq hP hS => ?_)
        obtain ⟨rfl, rfl⟩ := hq
        refine lv_istore (lv' := [(5, .int (bi (cb (σ 3) (σ 5) n h c (nI i)))), (4, .int (nI i)), (3, .int (eachN (σ 3) (σ 5) n h c i)), (0, .ref (ad 0)), (1, .int h), (2, .int c)]) hx hb dX9_inEach_24 hl (by decide) rfl (fun ls hl => ?_)
        refine lv_iload hx hb dX9_inEach_26 (lv_at hl 0 rfl) ?_
        refine lv_if_eq (tgt := 47) hx hb dX9_inEach_28 (by decide) (fun c28 => ?_) (fun c28 => ?_)
        · skip
          have c28 := bi_eq0.mp c28
          refine lv_iload_n hx hb dX9_inEach_47 rfl (lv_at hl 2 rfl) ?_
          refine lv_istore_n (lv' := [(3, .int (eachN (σ 3) (σ 5) n h c i)), (5, .int (bi (cb (σ 3) (σ 5) n h c (nI i)))), (4, .int (nI i)), (0, .ref (ad 0)), (1, .int h), (2, .int c)]) hx hb dX9_inEach_48 rfl hl (by decide) rfl (fun ls hl => ?_)
          refine lv_iinc (v := ((nI i) + 1)) (lv' := [(4, .int ((nI i) + 1)), (3, .int (eachN (σ 3) (σ 5) n h c i)), (5, .int (bi (cb (σ 3) (σ 5) n h c (nI i)))), (0, .ref (ad 0)), (1, .int h), (2, .int c)]) hx hb dX9_inEach_49 hl (k := 2) rfl rfl (by decide) rfl (fun ls hl => ?_)
          refine lv_goto (tgt := 5) hx hb dX9_inEach_52 (by decide) ?_
          exact ih5 (i + 1) (by omega) (by omega) _ _ _ _ _ _ ((nI_1 i).symm) (by first | exact if_neg c28 | exact (if_pos c28).trans (if_pos c32) | exact (if_pos c28).trans (if_neg c32)) rfl hP hS (lv_sub hl [0, 1, 3, 4, 5] rfl)
        · skip
          have c28 := bi_ne0.mp c28
          refine lv_iload_n hx hb dX9_inEach_31 rfl (lv_at hl 2 rfl) ?_
          refine lv_if_ge (tgt := 40) hx hb dX9_inEach_32 (by decide) (fun c32 => ?_) (fun c32 => ?_)
          · skip
            refine lv_iload_n hx hb dX9_inEach_40 rfl (lv_at hl 2 rfl) ?_
            refine lv_iload hx hb dX9_inEach_41 (lv_at hl 1 rfl) ?_
            refine lv_iand hx hb dX9_inEach_43 ?_
            refine lv_goto (tgt := 48) hx hb dX9_inEach_44 (by decide) ?_
            refine lv_istore_n (lv' := [(3, .int ((eachN (σ 3) (σ 5) n h c i) &&& (nI i))), (5, .int (bi (cb (σ 3) (σ 5) n h c (nI i)))), (4, .int (nI i)), (0, .ref (ad 0)), (1, .int h), (2, .int c)]) hx hb dX9_inEach_48 rfl hl (by decide) rfl (fun ls hl => ?_)
            refine lv_iinc (v := ((nI i) + 1)) (lv' := [(4, .int ((nI i) + 1)), (3, .int ((eachN (σ 3) (σ 5) n h c i) &&& (nI i))), (5, .int (bi (cb (σ 3) (σ 5) n h c (nI i)))), (0, .ref (ad 0)), (1, .int h), (2, .int c)]) hx hb dX9_inEach_49 hl (k := 2) rfl rfl (by decide) rfl (fun ls hl => ?_)
            refine lv_goto (tgt := 5) hx hb dX9_inEach_52 (by decide) ?_
            exact ih5 (i + 1) (by omega) (by omega) _ _ _ _ _ _ ((nI_1 i).symm) (by first | exact if_neg c28 | exact (if_pos c28).trans (if_pos c32) | exact (if_pos c28).trans (if_neg c32)) rfl hP hS (lv_sub hl [0, 1, 3, 4, 5] rfl)
          · skip
            refine lv_iload hx hb dX9_inEach_35 (lv_at hl 1 rfl) ?_
            refine lv_goto (tgt := 48) hx hb dX9_inEach_37 (by decide) ?_
            refine lv_istore_n (lv' := [(3, .int (nI i)), (5, .int (bi (cb (σ 3) (σ 5) n h c (nI i)))), (4, .int (nI i)), (0, .ref (ad 0)), (1, .int h), (2, .int c)]) hx hb dX9_inEach_48 rfl hl (by decide) rfl (fun ls hl => ?_)
            refine lv_iinc (v := ((nI i) + 1)) (lv' := [(4, .int ((nI i) + 1)), (3, .int (nI i)), (5, .int (bi (cb (σ 3) (σ 5) n h c (nI i)))), (0, .ref (ad 0)), (1, .int h), (2, .int c)]) hx hb dX9_inEach_49 hl (k := 2) rfl rfl (by decide) rfl (fun ls hl => ?_)
            refine lv_goto (tgt := 5) hx hb dX9_inEach_52 (by decide) ?_
            exact ih5 (i + 1) (by omega) (by omega) _ _ _ _ _ _ ((nI_1 i).symm) (by first | exact if_neg c28 | exact (if_pos c28).trans (if_pos c32) | exact (if_pos c28).trans (if_neg c32)) rfl hP hS (lv_sub hl [0, 1, 3, 4, 5] rfl)
  exact L5 ((2 ^ n - 0) + 1) 0 (Nat.zero_le _) (Nat.lt_succ_self _) _ _ _ _ _ _ (by first | rfl | simp [*]) (by first | rfl | simp [*]) rfl hP hS (lv_sub hl [0, 1, 2, 3, 4] rfl)

theorem in_X9_frog_X9 : ∀ w ∈ u_ws RX9 TX9 38, w ∈ wsX9_frog := by decide +kernel
set_option maxHeartbeats 1000000 in
set_option maxRecDepth 100000 in
theorem c_X9_frog (l : Launch) (D : va_G) (cy : Nat → ClassId) (ad : Nat → Nat) (σ : Nat → Nat → Int32) (n : Nat) (h : Int32) (c : Int32) (hn : n ≤ 10) (en : σ 0 5 = nI n) : MI l D (tysW cy) 19 ad (cfM ad cy) yX9_frog wsX9_frog ({ frames := 4, cells := 0, slots := 0, locals := 93 }) σ [.ref (ad 0), .int h, .int c] (fun v_ τ_ => ((frogN (manN (σ 3) (σ 5) n h c 0 (2 ^ n)) (fun s => manN (σ 3) (σ 5) n h c ((1 : Int32) <<< (nI s &&& 31)) (2 ^ n)) n).1) = v_ ∧ σ = τ_) := by
  refine MI.go (cc := cX9_frog) (maxL := 9) .int (by decide) rfl (Nat.le_of_ble_eq_true rfl) ?_
  intro p_ e_ s_ m_ args_ bl_ mt_ c_ A_ Q_ ls hx hb hml hown hts hK hA hD hP hS hl hret
  have hl : lv_has ls 9 [(0, .ref (ad 0)), (1, .int h), (2, .int c)] := hl
  refine lv_aload_n hx hb dX9_frog_0 rfl (lv_at hl 0 rfl) ?_
  refine lv_iload_n hx hb dX9_frog_1 rfl (lv_at hl 1 rfl) ?_
  refine lv_iload_n hx hb dX9_frog_2 rfl (lv_at hl 2 rfl) ?_
  refine lv_iconst (v := 0) hx hb dX9_frog_3 (by decide) ?_
  refine rp_callVI (na := 3) hx hb hml hown hts hK hA hD hP hS hl.1 0 (by decide) (kX9 _) rfl [.int h, .int c, .int 0] (c_X9_manyWith l D cy ad σ n h c 0 (by first | assumption | omega) (by first | assumption | rfl)) gX9_frog_X9_manyWith rfl (by decide +kernel) rfl ⟨Nat.le_of_ble_eq_true rfl, Nat.le_of_ble_eq_true rfl⟩ ⟨rfl, rfl⟩ ⟨Nat.zero_le _, Nat.zero_le _⟩ rfl (Nat.le_of_ble_eq_true rfl) dX9_frog_4 (fun v_ τ_ H locs hq hP hS => ?_)
  obtain ⟨rfl, rfl⟩ := hq
  refine lv_istore_n (lv' := [(3, .int (manN (σ 3) (σ 5) n h c 0 (2 ^ n))), (0, .ref (ad 0)), (1, .int h), (2, .int c)]) hx hb dX9_frog_7 rfl hl (by decide) rfl (fun ls hl => ?_)
  refine lv_iconst (v := (-1)) hx hb dX9_frog_8 (by decide) ?_
  refine lv_istore (lv' := [(4, .int (-1)), (3, .int (manN (σ 3) (σ 5) n h c 0 (2 ^ n))), (0, .ref (ad 0)), (1, .int h), (2, .int c)]) hx hb dX9_frog_9 hl (by decide) rfl (fun ls hl => ?_)
  refine lv_iload_n hx hb dX9_frog_11 rfl (lv_at hl 1 rfl) ?_
  refine lv_istore (lv' := [(5, .int (manN (σ 3) (σ 5) n h c 0 (2 ^ n))), (4, .int (-1)), (3, .int (manN (σ 3) (σ 5) n h c 0 (2 ^ n))), (0, .ref (ad 0)), (1, .int h), (2, .int c)]) hx hb dX9_frog_12 hl (by decide) rfl (fun ls hl => ?_)
  refine lv_iconst (v := 0) hx hb dX9_frog_14 (by decide) ?_
  refine lv_istore (lv' := [(6, .int 0), (5, .int (manN (σ 3) (σ 5) n h c 0 (2 ^ n))), (4, .int (-1)), (3, .int (manN (σ 3) (σ 5) n h c 0 (2 ^ n))), (0, .ref (ad 0)), (1, .int h), (2, .int c)]) hx hb dX9_frog_15 hl (by decide) rfl (fun ls hl => ?_)
  have L17 : ∀ (fu17 : Nat) (i : Nat), (i ≤ n) → n - i < fu17 → ∀ (x6 : Int32) (x5 : Int32) (x4 : Int32) (τ : Nat → Nat → Int32) (H : Heap) (locs : List Loc) (ls : Array Slot), (nI i) = x6 → ((frogN (manN (σ 3) (σ 5) n h c 0 (2 ^ n)) (fun s => manN (σ 3) (σ 5) n h c ((1 : Int32) <<< (nI s &&& 31)) (2 ^ n)) i).2) = x5 → ((frogN (manN (σ 3) (σ 5) n h c 0 (2 ^ n)) (fun s => manN (σ 3) (σ 5) n h c ((1 : Int32) <<< (nI s &&& 31)) (2 ^ n)) i).1) = x4 → σ = τ → va_P D classes (rw_ 19 ad (cfM ad cy) τ) H → va_S A_ s_.heap H locs → lv_has ls 9 [(6, .int x6), (5, .int x5), (4, .int x4), (3, .int (manN (σ 3) (σ 5) n h c 0 (2 ^ n))), (0, .ref (ad 0)), (1, .int h), (2, .int c)] → W p_ l e_ ({ frames := 4, cells := 0, slots := 0, locals := 93 }) s_ m_ args_ bl_ mt_ c_ H locs 0 0 Q_ (F0 m_ 17 ls []) := by
    intro fu17
    induction fu17 with
    | zero => intro i hi hf; exact absurd hf (Nat.not_lt_zero _)
    | succ fu17 ih17 =>
      intro i hi hf17 x6 x5 x4 τ H locs ls ex6 ex5 ex4 eτ hP hS hl
      subst ex6
      subst ex5
      subst ex4
      subst eτ
      refine lv_iload hx hb dX9_frog_17 (lv_at hl 0 rfl) ?_
      refine lv_aload_n hx hb dX9_frog_19 rfl (lv_at hl 4 rfl) ?_
      refine rp_get (C := RX9) (T := TX9) (N := 38) hx hb hts in_X9_frog_X9 hown hK hP 0 (by decide) (kX9 _) rfl 5 (by decide) (by decide +kernel) rfl dX9_frog_20 ?_
      rw [en]
      refine lv_icmp_ge (tgt := 96) hx hb dX9_frog_23 (by decide) (fun c23 => ?_) (fun c23 => ?_)
      · skip
        have ei := cl_ex hi (by omega) c23
        refine lv_iload hx hb dX9_frog_96 (lv_at hl 2 rfl) ?_
        exact hret hP hS dX9_frog_98 rfl ⟨(by rw [ei]), rfl⟩
      · skip
        have hi2 := cl_in (by omega) (by omega) c23
        refine lv_aload_n hx hb dX9_frog_26 rfl (lv_at hl 4 rfl) ?_
        refine lv_iload_n hx hb dX9_frog_27 rfl (lv_at hl 5 rfl) ?_
        refine lv_iload_n hx hb dX9_frog_28 rfl (lv_at hl 6 rfl) ?_
        refine lv_iconst (v := 1) hx hb dX9_frog_29 (by decide) ?_
        refine lv_iload hx hb dX9_frog_30 (lv_at hl 0 rfl) ?_
        refine lv_ishl hx hb dX9_frog_32 ?_
        refine rp_callVI (na := 3) hx hb hml hown hts hK hA hD hP hS hl.1 0 (by decide) (kX9 _) rfl [.int h, .int c, .int ((1 : Int32) <<< ((nI i) &&& 31))] (c_X9_manyWith l D cy ad σ n h c ((1 : Int32) <<< ((nI i) &&& 31)) (by first | assumption | omega) (by first | assumption | rfl)) gX9_frog_X9_manyWith rfl (by decide +kernel) rfl ⟨Nat.le_of_ble_eq_true rfl, Nat.le_of_ble_eq_true rfl⟩ ⟨rfl, rfl⟩ ⟨Nat.zero_le _, Nat.zero_le _⟩ rfl (Nat.le_of_ble_eq_true rfl) dX9_frog_33 (fun v_ τ_ H locs hq hP hS => ?_)
        obtain ⟨rfl, rfl⟩ := hq
        refine lv_istore (lv' := [(7, .int (manN (σ 3) (σ 5) n h c ((1 : Int32) <<< ((nI i) &&& 31)) (2 ^ n))), (6, .int (nI i)), (5, .int ((frogN (manN (σ 3) (σ 5) n h c 0 (2 ^ n)) (fun s => manN (σ 3) (σ 5) n h c ((1 : Int32) <<< (nI s &&& 31)) (2 ^ n)) i).2)), (4, .int ((frogN (manN (σ 3) (σ 5) n h c 0 (2 ^ n)) (fun s => manN (σ 3) (σ 5) n h c ((1 : Int32) <<< (nI s &&& 31)) (2 ^ n)) i).1)), (3, .int (manN (σ 3) (σ 5) n h c 0 (2 ^ n))), (0, .ref (ad 0)), (1, .int h), (2, .int c)]) hx hb dX9_frog_36 hl (by decide) rfl (fun ls hl => ?_)
        refine lv_iload hx hb dX9_frog_38 (lv_at hl 0 rfl) ?_
        refine lv_iload_n hx hb dX9_frog_40 rfl (lv_at hl 4 rfl) ?_
        refine lv_iload hx hb dX9_frog_41 (lv_at hl 0 rfl) ?_
        refine lv_isub hx hb dX9_frog_43 ?_
        refine lv_icmp_le (tgt := 52) hx hb dX9_frog_44 (by decide) (fun c44 => ?_) (fun c44 => ?_)
        · skip
          refine lv_iload_n hx hb dX9_frog_52 rfl (lv_at hl 4 rfl) ?_
          refine lv_iload hx hb dX9_frog_53 (lv_at hl 0 rfl) ?_
          refine lv_isub hx hb dX9_frog_55 ?_
          refine lv_istore (lv' := [(8, .int ((manN (σ 3) (σ 5) n h c 0 (2 ^ n)) - (manN (σ 3) (σ 5) n h c ((1 : Int32) <<< ((nI i) &&& 31)) (2 ^ n)))), (7, .int (manN (σ 3) (σ 5) n h c ((1 : Int32) <<< ((nI i) &&& 31)) (2 ^ n))), (6, .int (nI i)), (5, .int ((frogN (manN (σ 3) (σ 5) n h c 0 (2 ^ n)) (fun s => manN (σ 3) (σ 5) n h c ((1 : Int32) <<< (nI s &&& 31)) (2 ^ n)) i).2)), (4, .int ((frogN (manN (σ 3) (σ 5) n h c 0 (2 ^ n)) (fun s => manN (σ 3) (σ 5) n h c ((1 : Int32) <<< (nI s &&& 31)) (2 ^ n)) i).1)), (3, .int (manN (σ 3) (σ 5) n h c 0 (2 ^ n))), (0, .ref (ad 0)), (1, .int h), (2, .int c)]) hx hb dX9_frog_56 hl (by decide) rfl (fun ls hl => ?_)
          refine lv_iload hx hb dX9_frog_58 (lv_at hl 0 rfl) ?_
          refine lv_iload hx hb dX9_frog_60 (lv_at hl 3 rfl) ?_
          refine lv_icmp_ge (tgt := 70) hx hb dX9_frog_62 (by decide) (fun c62 => ?_) (fun c62 => ?_)
          · skip
            refine lv_iload hx hb dX9_frog_70 (lv_at hl 4 rfl) ?_
            refine lv_istore (lv' := [(4, .int ((frogN (manN (σ 3) (σ 5) n h c 0 (2 ^ n)) (fun s => manN (σ 3) (σ 5) n h c ((1 : Int32) <<< (nI s &&& 31)) (2 ^ n)) i).1)), (8, .int ((manN (σ 3) (σ 5) n h c 0 (2 ^ n)) - (manN (σ 3) (σ 5) n h c ((1 : Int32) <<< ((nI i) &&& 31)) (2 ^ n)))), (7, .int (manN (σ 3) (σ 5) n h c ((1 : Int32) <<< ((nI i) &&& 31)) (2 ^ n))), (6, .int (nI i)), (5, .int ((frogN (manN (σ 3) (σ 5) n h c 0 (2 ^ n)) (fun s => manN (σ 3) (σ 5) n h c ((1 : Int32) <<< (nI s &&& 31)) (2 ^ n)) i).2)), (3, .int (manN (σ 3) (σ 5) n h c 0 (2 ^ n))), (0, .ref (ad 0)), (1, .int h), (2, .int c)]) hx hb dX9_frog_72 hl (by decide) rfl (fun ls hl => ?_)
            refine lv_iload hx hb dX9_frog_74 (lv_at hl 1 rfl) ?_
            refine lv_iload hx hb dX9_frog_76 (lv_at hl 4 rfl) ?_
            refine lv_icmp_ge (tgt := 86) hx hb dX9_frog_78 (by decide) (fun c78 => ?_) (fun c78 => ?_)
            · skip
              refine lv_iload hx hb dX9_frog_86 (lv_at hl 4 rfl) ?_
              refine lv_istore (lv' := [(5, .int ((frogN (manN (σ 3) (σ 5) n h c 0 (2 ^ n)) (fun s => manN (σ 3) (σ 5) n h c ((1 : Int32) <<< (nI s &&& 31)) (2 ^ n)) i).2)), (4, .int ((frogN (manN (σ 3) (σ 5) n h c 0 (2 ^ n)) (fun s => manN (σ 3) (σ 5) n h c ((1 : Int32) <<< (nI s &&& 31)) (2 ^ n)) i).1)), (8, .int ((manN (σ 3) (σ 5) n h c 0 (2 ^ n)) - (manN (σ 3) (σ 5) n h c ((1 : Int32) <<< ((nI i) &&& 31)) (2 ^ n)))), (7, .int (manN (σ 3) (σ 5) n h c ((1 : Int32) <<< ((nI i) &&& 31)) (2 ^ n))), (6, .int (nI i)), (3, .int (manN (σ 3) (σ 5) n h c 0 (2 ^ n))), (0, .ref (ad 0)), (1, .int h), (2, .int c)]) hx hb dX9_frog_88 hl (by decide) rfl (fun ls hl => ?_)
              refine lv_iinc (v := ((nI i) + 1)) (lv' := [(6, .int ((nI i) + 1)), (5, .int ((frogN (manN (σ 3) (σ 5) n h c 0 (2 ^ n)) (fun s => manN (σ 3) (σ 5) n h c ((1 : Int32) <<< (nI s &&& 31)) (2 ^ n)) i).2)), (4, .int ((frogN (manN (σ 3) (σ 5) n h c 0 (2 ^ n)) (fun s => manN (σ 3) (σ 5) n h c ((1 : Int32) <<< (nI s &&& 31)) (2 ^ n)) i).1)), (8, .int ((manN (σ 3) (σ 5) n h c 0 (2 ^ n)) - (manN (σ 3) (σ 5) n h c ((1 : Int32) <<< ((nI i) &&& 31)) (2 ^ n)))), (7, .int (manN (σ 3) (σ 5) n h c ((1 : Int32) <<< ((nI i) &&& 31)) (2 ^ n))), (3, .int (manN (σ 3) (σ 5) n h c 0 (2 ^ n))), (0, .ref (ad 0)), (1, .int h), (2, .int c)]) hx hb dX9_frog_90 hl (k := 4) rfl rfl (by decide) rfl (fun ls hl => ?_)
              refine lv_goto (tgt := 17) hx hb dX9_frog_93 (by decide) ?_
              exact ih17 (i + 1) (by omega) (by omega) _ _ _ _ _ _ _ ((nI_1 i).symm) (frogN_f2 (al := (manN (σ 3) (σ 5) n h c 0 (2 ^ n))) (f := (fun s => manN (σ 3) (σ 5) n h c ((1 : Int32) <<< (nI s &&& 31)) (2 ^ n))) (frog_pf c44 c62)) (frogN_f1 (al := (manN (σ 3) (σ 5) n h c 0 (2 ^ n))) (f := (fun s => manN (σ 3) (σ 5) n h c ((1 : Int32) <<< (nI s &&& 31)) (2 ^ n))) (frog_pf c44 c62)) rfl hP hS (lv_sub hl [0, 1, 2, 5, 6, 7, 8] rfl)
            · skip
              exact absurd c62 c78
          · skip
            refine lv_iload hx hb dX9_frog_65 (lv_at hl 2 rfl) ?_
            refine lv_goto (tgt := 72) hx hb dX9_frog_67 (by decide) ?_
            refine lv_istore (lv' := [(4, .int (nI i)), (8, .int ((manN (σ 3) (σ 5) n h c 0 (2 ^ n)) - (manN (σ 3) (σ 5) n h c ((1 : Int32) <<< ((nI i) &&& 31)) (2 ^ n)))), (7, .int (manN (σ 3) (σ 5) n h c ((1 : Int32) <<< ((nI i) &&& 31)) (2 ^ n))), (6, .int (nI i)), (5, .int ((frogN (manN (σ 3) (σ 5) n h c 0 (2 ^ n)) (fun s => manN (σ 3) (σ 5) n h c ((1 : Int32) <<< (nI s &&& 31)) (2 ^ n)) i).2)), (3, .int (manN (σ 3) (σ 5) n h c 0 (2 ^ n))), (0, .ref (ad 0)), (1, .int h), (2, .int c)]) hx hb dX9_frog_72 hl (by decide) rfl (fun ls hl => ?_)
            refine lv_iload hx hb dX9_frog_74 (lv_at hl 1 rfl) ?_
            refine lv_iload hx hb dX9_frog_76 (lv_at hl 4 rfl) ?_
            refine lv_icmp_ge (tgt := 86) hx hb dX9_frog_78 (by decide) (fun c78 => ?_) (fun c78 => ?_)
            · skip
              exact absurd c78 c62
            · skip
              refine lv_iload hx hb dX9_frog_81 (lv_at hl 1 rfl) ?_
              refine lv_goto (tgt := 88) hx hb dX9_frog_83 (by decide) ?_
              refine lv_istore (lv' := [(5, .int ((manN (σ 3) (σ 5) n h c 0 (2 ^ n)) - (manN (σ 3) (σ 5) n h c ((1 : Int32) <<< ((nI i) &&& 31)) (2 ^ n)))), (4, .int (nI i)), (8, .int ((manN (σ 3) (σ 5) n h c 0 (2 ^ n)) - (manN (σ 3) (σ 5) n h c ((1 : Int32) <<< ((nI i) &&& 31)) (2 ^ n)))), (7, .int (manN (σ 3) (σ 5) n h c ((1 : Int32) <<< ((nI i) &&& 31)) (2 ^ n))), (6, .int (nI i)), (3, .int (manN (σ 3) (σ 5) n h c 0 (2 ^ n))), (0, .ref (ad 0)), (1, .int h), (2, .int c)]) hx hb dX9_frog_88 hl (by decide) rfl (fun ls hl => ?_)
              refine lv_iinc (v := ((nI i) + 1)) (lv' := [(6, .int ((nI i) + 1)), (5, .int ((manN (σ 3) (σ 5) n h c 0 (2 ^ n)) - (manN (σ 3) (σ 5) n h c ((1 : Int32) <<< ((nI i) &&& 31)) (2 ^ n)))), (4, .int (nI i)), (8, .int ((manN (σ 3) (σ 5) n h c 0 (2 ^ n)) - (manN (σ 3) (σ 5) n h c ((1 : Int32) <<< ((nI i) &&& 31)) (2 ^ n)))), (7, .int (manN (σ 3) (σ 5) n h c ((1 : Int32) <<< ((nI i) &&& 31)) (2 ^ n))), (3, .int (manN (σ 3) (σ 5) n h c 0 (2 ^ n))), (0, .ref (ad 0)), (1, .int h), (2, .int c)]) hx hb dX9_frog_90 hl (k := 4) rfl rfl (by decide) rfl (fun ls hl => ?_)
              refine lv_goto (tgt := 17) hx hb dX9_frog_93 (by decide) ?_
              exact ih17 (i + 1) (by omega) (by omega) _ _ _ _ _ _ _ ((nI_1 i).symm) ((frogN_t2 (al := (manN (σ 3) (σ 5) n h c 0 (2 ^ n))) (f := (fun s => manN (σ 3) (σ 5) n h c ((1 : Int32) <<< (nI s &&& 31)) (2 ^ n))) (frog_pt c44 c62)).trans (frog_vp c44)) (frogN_t1 (al := (manN (σ 3) (σ 5) n h c 0 (2 ^ n))) (f := (fun s => manN (σ 3) (σ 5) n h c ((1 : Int32) <<< (nI s &&& 31)) (2 ^ n))) (frog_pt c44 c62)) rfl hP hS (lv_sub hl [0, 1, 2, 5, 6, 7, 8] rfl)
        · skip
          refine lv_iload hx hb dX9_frog_47 (lv_at hl 0 rfl) ?_
          refine lv_goto (tgt := 56) hx hb dX9_frog_49 (by decide) ?_
          refine lv_istore (lv' := [(8, .int (manN (σ 3) (σ 5) n h c ((1 : Int32) <<< ((nI i) &&& 31)) (2 ^ n))), (7, .int (manN (σ 3) (σ 5) n h c ((1 : Int32) <<< ((nI i) &&& 31)) (2 ^ n))), (6, .int (nI i)), (5, .int ((frogN (manN (σ 3) (σ 5) n h c 0 (2 ^ n)) (fun s => manN (σ 3) (σ 5) n h c ((1 : Int32) <<< (nI s &&& 31)) (2 ^ n)) i).2)), (4, .int ((frogN (manN (σ 3) (σ 5) n h c 0 (2 ^ n)) (fun s => manN (σ 3) (σ 5) n h c ((1 : Int32) <<< (nI s &&& 31)) (2 ^ n)) i).1)), (3, .int (manN (σ 3) (σ 5) n h c 0 (2 ^ n))), (0, .ref (ad 0)), (1, .int h), (2, .int c)]) hx hb dX9_frog_56 hl (by decide) rfl (fun ls hl => ?_)
          refine lv_iload hx hb dX9_frog_58 (lv_at hl 0 rfl) ?_
          refine lv_iload hx hb dX9_frog_60 (lv_at hl 3 rfl) ?_
          refine lv_icmp_ge (tgt := 70) hx hb dX9_frog_62 (by decide) (fun c62 => ?_) (fun c62 => ?_)
          · skip
            refine lv_iload hx hb dX9_frog_70 (lv_at hl 4 rfl) ?_
            refine lv_istore (lv' := [(4, .int ((frogN (manN (σ 3) (σ 5) n h c 0 (2 ^ n)) (fun s => manN (σ 3) (σ 5) n h c ((1 : Int32) <<< (nI s &&& 31)) (2 ^ n)) i).1)), (8, .int (manN (σ 3) (σ 5) n h c ((1 : Int32) <<< ((nI i) &&& 31)) (2 ^ n))), (7, .int (manN (σ 3) (σ 5) n h c ((1 : Int32) <<< ((nI i) &&& 31)) (2 ^ n))), (6, .int (nI i)), (5, .int ((frogN (manN (σ 3) (σ 5) n h c 0 (2 ^ n)) (fun s => manN (σ 3) (σ 5) n h c ((1 : Int32) <<< (nI s &&& 31)) (2 ^ n)) i).2)), (3, .int (manN (σ 3) (σ 5) n h c 0 (2 ^ n))), (0, .ref (ad 0)), (1, .int h), (2, .int c)]) hx hb dX9_frog_72 hl (by decide) rfl (fun ls hl => ?_)
            refine lv_iload hx hb dX9_frog_74 (lv_at hl 1 rfl) ?_
            refine lv_iload hx hb dX9_frog_76 (lv_at hl 4 rfl) ?_
            refine lv_icmp_ge (tgt := 86) hx hb dX9_frog_78 (by decide) (fun c78 => ?_) (fun c78 => ?_)
            · skip
              refine lv_iload hx hb dX9_frog_86 (lv_at hl 4 rfl) ?_
              refine lv_istore (lv' := [(5, .int ((frogN (manN (σ 3) (σ 5) n h c 0 (2 ^ n)) (fun s => manN (σ 3) (σ 5) n h c ((1 : Int32) <<< (nI s &&& 31)) (2 ^ n)) i).2)), (4, .int ((frogN (manN (σ 3) (σ 5) n h c 0 (2 ^ n)) (fun s => manN (σ 3) (σ 5) n h c ((1 : Int32) <<< (nI s &&& 31)) (2 ^ n)) i).1)), (8, .int (manN (σ 3) (σ 5) n h c ((1 : Int32) <<< ((nI i) &&& 31)) (2 ^ n))), (7, .int (manN (σ 3) (σ 5) n h c ((1 : Int32) <<< ((nI i) &&& 31)) (2 ^ n))), (6, .int (nI i)), (3, .int (manN (σ 3) (σ 5) n h c 0 (2 ^ n))), (0, .ref (ad 0)), (1, .int h), (2, .int c)]) hx hb dX9_frog_88 hl (by decide) rfl (fun ls hl => ?_)
              refine lv_iinc (v := ((nI i) + 1)) (lv' := [(6, .int ((nI i) + 1)), (5, .int ((frogN (manN (σ 3) (σ 5) n h c 0 (2 ^ n)) (fun s => manN (σ 3) (σ 5) n h c ((1 : Int32) <<< (nI s &&& 31)) (2 ^ n)) i).2)), (4, .int ((frogN (manN (σ 3) (σ 5) n h c 0 (2 ^ n)) (fun s => manN (σ 3) (σ 5) n h c ((1 : Int32) <<< (nI s &&& 31)) (2 ^ n)) i).1)), (8, .int (manN (σ 3) (σ 5) n h c ((1 : Int32) <<< ((nI i) &&& 31)) (2 ^ n))), (7, .int (manN (σ 3) (σ 5) n h c ((1 : Int32) <<< ((nI i) &&& 31)) (2 ^ n))), (3, .int (manN (σ 3) (σ 5) n h c 0 (2 ^ n))), (0, .ref (ad 0)), (1, .int h), (2, .int c)]) hx hb dX9_frog_90 hl (k := 4) rfl rfl (by decide) rfl (fun ls hl => ?_)
              refine lv_goto (tgt := 17) hx hb dX9_frog_93 (by decide) ?_
              exact ih17 (i + 1) (by omega) (by omega) _ _ _ _ _ _ _ ((nI_1 i).symm) (frogN_f2 (al := (manN (σ 3) (σ 5) n h c 0 (2 ^ n))) (f := (fun s => manN (σ 3) (σ 5) n h c ((1 : Int32) <<< (nI s &&& 31)) (2 ^ n))) (frog_nf c44 c62)) (frogN_f1 (al := (manN (σ 3) (σ 5) n h c 0 (2 ^ n))) (f := (fun s => manN (σ 3) (σ 5) n h c ((1 : Int32) <<< (nI s &&& 31)) (2 ^ n))) (frog_nf c44 c62)) rfl hP hS (lv_sub hl [0, 1, 2, 5, 6, 7, 8] rfl)
            · skip
              exact absurd c62 c78
          · skip
            refine lv_iload hx hb dX9_frog_65 (lv_at hl 2 rfl) ?_
            refine lv_goto (tgt := 72) hx hb dX9_frog_67 (by decide) ?_
            refine lv_istore (lv' := [(4, .int (nI i)), (8, .int (manN (σ 3) (σ 5) n h c ((1 : Int32) <<< ((nI i) &&& 31)) (2 ^ n))), (7, .int (manN (σ 3) (σ 5) n h c ((1 : Int32) <<< ((nI i) &&& 31)) (2 ^ n))), (6, .int (nI i)), (5, .int ((frogN (manN (σ 3) (σ 5) n h c 0 (2 ^ n)) (fun s => manN (σ 3) (σ 5) n h c ((1 : Int32) <<< (nI s &&& 31)) (2 ^ n)) i).2)), (3, .int (manN (σ 3) (σ 5) n h c 0 (2 ^ n))), (0, .ref (ad 0)), (1, .int h), (2, .int c)]) hx hb dX9_frog_72 hl (by decide) rfl (fun ls hl => ?_)
            refine lv_iload hx hb dX9_frog_74 (lv_at hl 1 rfl) ?_
            refine lv_iload hx hb dX9_frog_76 (lv_at hl 4 rfl) ?_
            refine lv_icmp_ge (tgt := 86) hx hb dX9_frog_78 (by decide) (fun c78 => ?_) (fun c78 => ?_)
            · skip
              exact absurd c78 c62
            · skip
              refine lv_iload hx hb dX9_frog_81 (lv_at hl 1 rfl) ?_
              refine lv_goto (tgt := 88) hx hb dX9_frog_83 (by decide) ?_
              refine lv_istore (lv' := [(5, .int (manN (σ 3) (σ 5) n h c ((1 : Int32) <<< ((nI i) &&& 31)) (2 ^ n))), (4, .int (nI i)), (8, .int (manN (σ 3) (σ 5) n h c ((1 : Int32) <<< ((nI i) &&& 31)) (2 ^ n))), (7, .int (manN (σ 3) (σ 5) n h c ((1 : Int32) <<< ((nI i) &&& 31)) (2 ^ n))), (6, .int (nI i)), (3, .int (manN (σ 3) (σ 5) n h c 0 (2 ^ n))), (0, .ref (ad 0)), (1, .int h), (2, .int c)]) hx hb dX9_frog_88 hl (by decide) rfl (fun ls hl => ?_)
              refine lv_iinc (v := ((nI i) + 1)) (lv' := [(6, .int ((nI i) + 1)), (5, .int (manN (σ 3) (σ 5) n h c ((1 : Int32) <<< ((nI i) &&& 31)) (2 ^ n))), (4, .int (nI i)), (8, .int (manN (σ 3) (σ 5) n h c ((1 : Int32) <<< ((nI i) &&& 31)) (2 ^ n))), (7, .int (manN (σ 3) (σ 5) n h c ((1 : Int32) <<< ((nI i) &&& 31)) (2 ^ n))), (3, .int (manN (σ 3) (σ 5) n h c 0 (2 ^ n))), (0, .ref (ad 0)), (1, .int h), (2, .int c)]) hx hb dX9_frog_90 hl (k := 4) rfl rfl (by decide) rfl (fun ls hl => ?_)
              refine lv_goto (tgt := 17) hx hb dX9_frog_93 (by decide) ?_
              exact ih17 (i + 1) (by omega) (by omega) _ _ _ _ _ _ _ ((nI_1 i).symm) ((frogN_t2 (al := (manN (σ 3) (σ 5) n h c 0 (2 ^ n))) (f := (fun s => manN (σ 3) (σ 5) n h c ((1 : Int32) <<< (nI s &&& 31)) (2 ^ n))) (frog_nt c44 c62)).trans (frog_vn c44)) (frogN_t1 (al := (manN (σ 3) (σ 5) n h c 0 (2 ^ n))) (f := (fun s => manN (σ 3) (σ 5) n h c ((1 : Int32) <<< (nI s &&& 31)) (2 ^ n))) (frog_nt c44 c62)) rfl hP hS (lv_sub hl [0, 1, 2, 5, 6, 7, 8] rfl)
  exact L17 ((n - 0) + 1) 0 (Nat.zero_le _) (Nat.lt_succ_self _) _ _ _ _ _ _ _ (by first | rfl | simp [*]) (by first | rfl | simp [*]) (by first | rfl | simp [*]) rfl hP hS (lv_sub hl [0, 1, 2, 3, 4, 5, 6] rfl)

def R_X9_wasUnsaid (σ : Nat → Nat → Int32) (n : Nat) (v : Int32) (w : Int32) (x : Int32) : Int32 := (if (0 ≤ v ∧ ¬ nI (2 ^ n) ≤ v) then (if (0 ≤ w ∧ w ≤ 200) then (if (0 ≤ x ∧ x ≤ 2) then (if x = 0 then (manN (σ 3) (σ 5) n v w 0 (2 ^ n)) else (if x = 1 then (eachN (σ 3) (σ 5) n v w (2 ^ n)) else ((frogN (manN (σ 3) (σ 5) n v w 0 (2 ^ n)) (fun s => manN (σ 3) (σ 5) n v w ((1 : Int32) <<< (nI s &&& 31)) (2 ^ n)) n).1))) else (-1000000002)) else (-1000000002)) else (-1000000001))
set_option maxHeartbeats 1000000 in
set_option maxRecDepth 100000 in
theorem c_X9_wasUnsaid (l : Launch) (D : va_G) (cy : Nat → ClassId) (ad : Nat → Nat) (σ : Nat → Nat → Int32) (n : Nat) (v : Int32) (w : Int32) (x : Int32) (hn : n ≤ 10) (en : σ 0 5 = nI n) : MI l D (tysW cy) 19 ad (cfM ad cy) yX9_wasUnsaid wsX9_wasUnsaid ({ frames := 5, cells := 0, slots := 0, locals := 121 }) σ [.ref (ad 0), .int v, .int w, .int x] (fun v_ τ_ => (R_X9_wasUnsaid σ n v w x) = v_ ∧ σ = τ_) := by
  refine MI.go (cc := cX9_wasUnsaid) (maxL := 4) .int (by decide) rfl (Nat.le_of_ble_eq_true rfl) ?_
  intro p_ e_ s_ m_ args_ bl_ mt_ c_ A_ Q_ ls hx hb hml hown hts hK hA hD hP hS hl hret
  have hl : lv_has ls 4 [(0, .ref (ad 0)), (1, .int v), (2, .int w), (3, .int x)] := hl
  refine lv_aload_n hx hb dX9_wasUnsaid_0 rfl (lv_at hl 0 rfl) ?_
  refine lv_iload_n hx hb dX9_wasUnsaid_1 rfl (lv_at hl 1 rfl) ?_
  refine rp_callVI (na := 1) hx hb hml hown hts hK hA hD hP hS hl.1 0 (by decide) (kX9 _) rfl [.int v] (c_X9_isSet l D cy ad σ n v (by first | assumption | omega) (by first | assumption | rfl)) gX9_wasUnsaid_X9_isSet rfl (by decide +kernel) rfl ⟨Nat.le_of_ble_eq_true rfl, Nat.le_of_ble_eq_true rfl⟩ ⟨rfl, rfl⟩ ⟨Nat.zero_le _, Nat.zero_le _⟩ rfl (Nat.le_of_ble_eq_true rfl) dX9_wasUnsaid_2 (fun v_ τ_ H locs hq hP hS => ?_)
  obtain ⟨rfl, rfl⟩ := hq
  refine lv_if_ne (tgt := 11) hx hb dX9_wasUnsaid_5 (by decide) (fun c5 => ?_) (fun c5 => ?_)
  · skip
    have c5 := bi_ne0.mp c5
    refine lv_iload_n hx hb dX9_wasUnsaid_11 rfl (lv_at hl 2 rfl) ?_
    refine lv_i2l (v := (w).toInt64) hx hb dX9_wasUnsaid_12 rfl ?_
    refine lv_lconst (v := 0) hx hb dX9_wasUnsaid_13 (by decide) ?_
    refine lv_ldc2 (v := 200) hx hb hown (hts (.constantLong RX9 297 (200)) (by decide +kernel)) dX9_wasUnsaid_14 ?_
    refine rp_callSI (na := 3) hx hb hml hown hts hK hA hD hP hS hl.1 [.long (w).toInt64, .long 0, .long 200] (c_X9_in l D cy ad σ ((w).toInt64) 0 200 ) gX9_wasUnsaid_X9_in rfl (by decide +kernel) rfl ⟨Nat.le_of_ble_eq_true rfl, Nat.le_of_ble_eq_true rfl⟩ ⟨rfl, rfl⟩ ⟨Nat.zero_le _, Nat.zero_le _⟩ rfl (Nat.le_of_ble_eq_true rfl) dX9_wasUnsaid_17 (fun v_ τ_ H locs hq hP hS => ?_)
    obtain ⟨rfl, rfl⟩ := hq
    rw [in_0_200]
    refine lv_if_eq (tgt := 35) hx hb dX9_wasUnsaid_20 (by decide) (fun c20 => ?_) (fun c20 => ?_)
    · skip
      have c20 := bi_eq0.mp c20
      refine lv_ldc (v := (-1000000002)) hx hb hown (hts (.constant RX9 85 (-1000000002)) (by decide +kernel)) dX9_wasUnsaid_35 ?_
      exact hret hP hS dX9_wasUnsaid_37 rfl ⟨(by unfold R_X9_wasUnsaid <;> rw [if_pos c5, if_neg c20] <;> first | with_reducible rfl), rfl⟩
    · skip
      have c20 := bi_ne0.mp c20
      refine lv_iload_n hx hb dX9_wasUnsaid_23 rfl (lv_at hl 3 rfl) ?_
      refine lv_i2l (v := (x).toInt64) hx hb dX9_wasUnsaid_24 rfl ?_
      refine lv_lconst (v := 0) hx hb dX9_wasUnsaid_25 (by decide) ?_
      refine lv_ldc2 (v := 2) hx hb hown (hts (.constantLong RX9 299 (2)) (by decide +kernel)) dX9_wasUnsaid_26 ?_
      refine rp_callSI (na := 3) hx hb hml hown hts hK hA hD hP hS hl.1 [.long (x).toInt64, .long 0, .long 2] (c_X9_in l D cy ad σ ((x).toInt64) 0 2 ) gX9_wasUnsaid_X9_in rfl (by decide +kernel) rfl ⟨Nat.le_of_ble_eq_true rfl, Nat.le_of_ble_eq_true rfl⟩ ⟨rfl, rfl⟩ ⟨Nat.zero_le _, Nat.zero_le _⟩ rfl (Nat.le_of_ble_eq_true rfl) dX9_wasUnsaid_29 (fun v_ τ_ H locs hq hP hS => ?_)
      obtain ⟨rfl, rfl⟩ := hq
      rw [in_0_2]
      refine lv_if_ne (tgt := 38) hx hb dX9_wasUnsaid_32 (by decide) (fun c32 => ?_) (fun c32 => ?_)
      · skip
        have c32 := bi_ne0.mp c32
        refine lv_iload_n hx hb dX9_wasUnsaid_38 rfl (lv_at hl 3 rfl) ?_
        rcases Decidable.em (x = 0) with k39_0 | k39_0
        · skip
          refine lv_lookup (off := 25) (tgt := 64) hx hb dX9_wasUnsaid_39 (by decide) (by rw [k39_0]; decide) (by decide) ?_
          refine lv_aload_n hx hb dX9_wasUnsaid_64 rfl (lv_at hl 0 rfl) ?_
          refine lv_iload_n hx hb dX9_wasUnsaid_65 rfl (lv_at hl 1 rfl) ?_
          refine lv_iload_n hx hb dX9_wasUnsaid_66 rfl (lv_at hl 2 rfl) ?_
          refine lv_iconst (v := 0) hx hb dX9_wasUnsaid_67 (by decide) ?_
          refine rp_callVI (na := 3) hx hb hml hown hts hK hA hD hP hS hl.1 0 (by decide) (kX9 _) rfl [.int v, .int w, .int 0] (c_X9_manyWith l D cy ad σ n v w 0 (by first | assumption | omega) (by first | assumption | rfl)) gX9_wasUnsaid_X9_manyWith rfl (by decide +kernel) rfl ⟨Nat.le_of_ble_eq_true rfl, Nat.le_of_ble_eq_true rfl⟩ ⟨rfl, rfl⟩ ⟨Nat.zero_le _, Nat.zero_le _⟩ rfl (Nat.le_of_ble_eq_true rfl) dX9_wasUnsaid_68 (fun v_ τ_ H locs hq hP hS => ?_)
          obtain ⟨rfl, rfl⟩ := hq
          exact hret hP hS dX9_wasUnsaid_71 rfl ⟨(by unfold R_X9_wasUnsaid <;> rw [if_pos c5, if_pos c20, if_pos c32, if_pos k39_0] <;> first | with_reducible rfl), rfl⟩
        rcases Decidable.em (x = 1) with k39_1 | k39_1
        · skip
          refine lv_lookup (off := 33) (tgt := 72) hx hb dX9_wasUnsaid_39 (by decide) (by rw [k39_1]; decide) (by decide) ?_
          refine lv_aload_n hx hb dX9_wasUnsaid_72 rfl (lv_at hl 0 rfl) ?_
          refine lv_iload_n hx hb dX9_wasUnsaid_73 rfl (lv_at hl 1 rfl) ?_
          refine lv_iload_n hx hb dX9_wasUnsaid_74 rfl (lv_at hl 2 rfl) ?_
          refine rp_callVI (na := 2) hx hb hml hown hts hK hA hD hP hS hl.1 0 (by decide) (kX9 _) rfl [.int v, .int w] (c_X9_inEach l D cy ad σ n v w (by first | assumption | omega) (by first | assumption | rfl)) gX9_wasUnsaid_X9_inEach rfl (by decide +kernel) rfl ⟨Nat.le_of_ble_eq_true rfl, Nat.le_of_ble_eq_true rfl⟩ ⟨rfl, rfl⟩ ⟨Nat.zero_le _, Nat.zero_le _⟩ rfl (Nat.le_of_ble_eq_true rfl) dX9_wasUnsaid_75 (fun v_ τ_ H locs hq hP hS => ?_)
          obtain ⟨rfl, rfl⟩ := hq
          exact hret hP hS dX9_wasUnsaid_78 rfl ⟨(by unfold R_X9_wasUnsaid <;> rw [if_pos c5, if_pos c20, if_pos c32, if_neg k39_0, if_pos k39_1] <;> first | with_reducible rfl), rfl⟩
        refine lv_lookup (off := 40) (tgt := 79) hx hb dX9_wasUnsaid_39 (by decide) (by show Op.lookupswitch.offset [(0, 25), (1, 33)] _ _ = _; rw [lv_osw k39_0 (by decide)]; rw [lv_osw k39_1 (by decide)]; rfl) (by decide) ?_
        refine lv_aload_n hx hb dX9_wasUnsaid_79 rfl (lv_at hl 0 rfl) ?_
        refine lv_iload_n hx hb dX9_wasUnsaid_80 rfl (lv_at hl 1 rfl) ?_
        refine lv_iload_n hx hb dX9_wasUnsaid_81 rfl (lv_at hl 2 rfl) ?_
        refine rp_callVI (na := 2) hx hb hml hown hts hK hA hD hP hS hl.1 0 (by decide) (kX9 _) rfl [.int v, .int w] (c_X9_frog l D cy ad σ n v w (by first | assumption | omega) (by first | assumption | rfl)) gX9_wasUnsaid_X9_frog rfl (by decide +kernel) rfl ⟨Nat.le_of_ble_eq_true rfl, Nat.le_of_ble_eq_true rfl⟩ ⟨rfl, rfl⟩ ⟨Nat.zero_le _, Nat.zero_le _⟩ rfl (Nat.le_of_ble_eq_true rfl) dX9_wasUnsaid_82 (fun v_ τ_ H locs hq hP hS => ?_)
        obtain ⟨rfl, rfl⟩ := hq
        exact hret hP hS dX9_wasUnsaid_85 rfl ⟨(by unfold R_X9_wasUnsaid <;> rw [if_pos c5, if_pos c20, if_pos c32, if_neg k39_0, if_neg k39_1] <;> first | with_reducible rfl), rfl⟩
      · skip
        have c32 := bi_eq0.mp c32
        refine lv_ldc (v := (-1000000002)) hx hb hown (hts (.constant RX9 85 (-1000000002)) (by decide +kernel)) dX9_wasUnsaid_35 ?_
        exact hret hP hS dX9_wasUnsaid_37 rfl ⟨(by unfold R_X9_wasUnsaid <;> rw [if_pos c5, if_pos c20, if_neg c32] <;> first | with_reducible rfl), rfl⟩
  · skip
    have c5 := bi_eq0.mp c5
    refine lv_ldc (v := (-1000000001)) hx hb hown (hts (.constant RX9 206 (-1000000001)) (by decide +kernel)) dX9_wasUnsaid_8 ?_
    exact hret hP hS dX9_wasUnsaid_10 rfl ⟨(by unfold R_X9_wasUnsaid <;> rw [if_neg c5] <;> first | with_reducible rfl), rfl⟩
