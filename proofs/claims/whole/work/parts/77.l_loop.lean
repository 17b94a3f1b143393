set_option maxHeartbeats 4000000 in
set_option maxRecDepth 100000 in
theorem law_loop {p : Program} {l : Launch} {e : Env} {s : State} {m : MethodId} {below : List Frame} {meth : Method} {c : Code} {b L : Nat} {xs : Nat → Int32} {D : va_G} {cy : Nat → ClassId} {ad ad2 : Nat → Nat} (E : lwE p s m c b L xs D cy ad ad2) (hr : meth.sig.returnType = ret) (hlocks : meth.locks = false) : ∀ (fu j : Nat) (x3 : Int32) (y z : Nat) (σ μ : Nat → Nat → Int32) (H : Heap) (locs : List Loc) (ls : Array Slot), x3 = nI (4 * j) → 4 * j ≤ L → L - 4 * j < fu → Rel y z σ μ → va_P D classes (rw_ 109 ad (cfX ad cy y z) σ) H → va_P D classes (rw_ 19 ad2 (cfM ad2 cy) μ) H → va_S (lA s) s.heap H locs → lv_has ls 4 [(0, .ref b), (1, .ref (ad 0)), (2, .ref (ad2 0)), (3, .int x3)] → W p l e room_1 s m #[Value.ref b] below meth c H locs 128 1954 (lw_Z below #[Value.ref b] s) (F0 m 18 ls []) := by
  intro fu
  induction fu with
  | zero => intro j x3 y z σ μ H locs ls _ _ hf; exact absurd hf (Nat.not_lt_zero _)
  | succ fu ih =>
    intro j x3 y z σ μ H locs ls ex hj hfu hR hPX hPM hS hl
    obtain ⟨hx, hb, hml, hown, hts, hK, hX, hbl, hDX, hDM, hne, hL⟩ := id E
    have hbA : ¬ lA s b := Nat.not_le.mpr hbl
    refine lv_iload_n hx hb dL_law_18 rfl (lv_at hl 3 rfl) ?_
    refine lv_aload_n hx hb dL_law_19 rfl (lv_at hl 0 rfl) ?_
    refine va_slen hx hb hX hbl hbA hS dL_law_20 ?_
    refine lv_iconst (v := 4) hx hb dL_law_21 (by decide) ?_
    refine lv_isub hx hb dL_law_22 ?_
    refine lv_icmp_gt (tgt := 922) hx hb dL_law_23 (by decide) (fun cg => ?_) (fun cg => ?_)
    · refine lv_iconst (v := 1) hx hb dL_law_922 (by decide) ?_
      refine va_forget (fun q hq => hS.2.2 q hq) ?_
      refine W.widen (k := 600000) (n := 7302250) (by omega) (by omega) ?_
      exact lw_ret hx hb hr hlocks dL_law_923
    · have hj4 : 4 * j + 4 ≤ L := i_end hL hj (by rw [← ex]; exact cg)
      have i0 : vp_in x3 L := by rw [ex]; exact vp_in_nI (by omega) (by omega)
      refine lv_aload_n hx hb dL_law_26 rfl (lv_at hl 0 rfl) ?_
      refine lv_iload_n hx hb dL_law_27 rfl (lv_at hl 3 rfl) ?_
      refine va_sld hx hb hX hbl hbA hS i0 dL_law_28 ?_
      refine lv_bipush (v := 31) hx hb dL_law_29 (by decide) ?_
      refine lv_iand hx hb dL_law_31 ?_
      have K : lwK p l e s m b below meth c D cy ad ad2 x3 := by
        intro y z σ μ H locs ls hR hPX hPM hS hl
        refine lv_iinc (v := (x3 + 4)) (lv' := [(3, .int (x3 + 4)), (0, .ref b), (1, .ref (ad 0)), (2, .ref (ad2 0))]) hx hb dL_law_916 hl (k := 3) rfl rfl (by decide) rfl (fun ls hl => ?_)
        refine lv_goto (tgt := 18) hx hb dL_law_919 (by decide) ?_
        exact ih (j + 1) (x3 + 4) y z σ μ H locs ls (by rw [ex, show (4 : Int32) = nI 4 from rfl, nI_add]; rfl) (by omega) (by omega) hR hPX hPM hS (lv_sub hl [1, 2, 3, 0] rfl)
      generalize (xs x3.toNatClampNeg &&& 31) = u
      rcases Decidable.em (u = 0) with k0 | k0
      · refine lv_tableIn (off := 128) (tgt := 160) hx hb dL_law_32 (by rw [k0]; decide) (by rw [k0]; decide) (by rw [k0]; decide) (by decide) ?_
        exact lw_c0 E hj4 ex K hR hPX hPM hS hl
      rcases Decidable.em (u = 1) with k1 | k1
      · refine lv_tableIn (off := 151) (tgt := 183) hx hb dL_law_32 (by rw [k1]; decide) (by rw [k1]; decide) (by rw [k1]; decide) (by decide) ?_
        exact lw_c1 E hj4 ex K hR hPX hPM hS hl
      rcases Decidable.em (u = 2) with k2 | k2
      · refine lv_tableIn (off := 164) (tgt := 196) hx hb dL_law_32 (by rw [k2]; decide) (by rw [k2]; decide) (by rw [k2]; decide) (by decide) ?_
        exact lw_c2 E hj4 ex K hR hPX hPM hS hl
      rcases Decidable.em (u = 3) with k3 | k3
      · refine lv_tableIn (off := 177) (tgt := 209) hx hb dL_law_32 (by rw [k3]; decide) (by rw [k3]; decide) (by rw [k3]; decide) (by decide) ?_
        exact lw_c3 E hj4 ex K hR hPX hPM hS hl
      rcases Decidable.em (u = 4) with k4 | k4
      · refine lv_tableIn (off := 200) (tgt := 232) hx hb dL_law_32 (by rw [k4]; decide) (by rw [k4]; decide) (by rw [k4]; decide) (by decide) ?_
        exact lw_c4 E hj4 ex K hR hPX hPM hS hl
      rcases Decidable.em (u = 5) with k5 | k5
      · refine lv_tableIn (off := 233) (tgt := 265) hx hb dL_law_32 (by rw [k5]; decide) (by rw [k5]; decide) (by rw [k5]; decide) (by decide) ?_
        exact lw_c5 E hj4 ex K hR hPX hPM hS hl
      rcases Decidable.em (u = 6) with k6 | k6
      · refine lv_tableIn (off := 266) (tgt := 298) hx hb dL_law_32 (by rw [k6]; decide) (by rw [k6]; decide) (by rw [k6]; decide) (by decide) ?_
        exact lw_c6 E hj4 ex K hR hPX hPM hS hl
      rcases Decidable.em (u = 7) with k7 | k7
      · refine lv_tableIn (off := 299) (tgt := 331) hx hb dL_law_32 (by rw [k7]; decide) (by rw [k7]; decide) (by rw [k7]; decide) (by decide) ?_
        exact lw_c7 E hj4 ex K hR hPX hPM hS hl
      rcases Decidable.em (u = 8) with k8 | k8
      · refine lv_tableIn (off := 332) (tgt := 364) hx hb dL_law_32 (by rw [k8]; decide) (by rw [k8]; decide) (by rw [k8]; decide) (by decide) ?_
        exact lw_c8 E hj4 ex K hR hPX hPM hS hl
      rcases Decidable.em (u = 9) with k9 | k9
      · refine lv_tableIn (off := 355) (tgt := 387) hx hb dL_law_32 (by rw [k9]; decide) (by rw [k9]; decide) (by rw [k9]; decide) (by decide) ?_
        exact lw_c9 E hj4 ex K hR hPX hPM hS hl
      rcases Decidable.em (u = 10) with k10 | k10
      · refine lv_tableIn (off := 404) (tgt := 436) hx hb dL_law_32 (by rw [k10]; decide) (by rw [k10]; decide) (by rw [k10]; decide) (by decide) ?_
        exact lw_c10 E hj4 ex K hR hPX hPM hS hl
      rcases Decidable.em (u = 11) with k11 | k11
      · refine lv_tableIn (off := 427) (tgt := 459) hx hb dL_law_32 (by rw [k11]; decide) (by rw [k11]; decide) (by rw [k11]; decide) (by decide) ?_
        exact lw_c11 E hj4 ex K hR hPX hPM hS hl
      rcases Decidable.em (u = 12) with k12 | k12
      · refine lv_tableIn (off := 450) (tgt := 482) hx hb dL_law_32 (by rw [k12]; decide) (by rw [k12]; decide) (by rw [k12]; decide) (by decide) ?_
        exact lw_c12 E hj4 ex K hR hPX hPM hS hl
      rcases Decidable.em (u = 13) with k13 | k13
      · refine lv_tableIn (off := 483) (tgt := 515) hx hb dL_law_32 (by rw [k13]; decide) (by rw [k13]; decide) (by rw [k13]; decide) (by decide) ?_
        exact lw_c13 E hj4 ex K hR hPX hPM hS hl
      rcases Decidable.em (u = 14) with k14 | k14
      · refine lv_tableIn (off := 496) (tgt := 528) hx hb dL_law_32 (by rw [k14]; decide) (by rw [k14]; decide) (by rw [k14]; decide) (by decide) ?_
        exact lw_c14 E hj4 ex K hR hPX hPM hS hl
      rcases Decidable.em (u = 15) with k15 | k15
      · refine lv_tableIn (off := 519) (tgt := 551) hx hb dL_law_32 (by rw [k15]; decide) (by rw [k15]; decide) (by rw [k15]; decide) (by decide) ?_
        exact lw_c15 E hj4 ex K hR hPX hPM hS hl
      rcases Decidable.em (u = 16) with k16 | k16
      · refine lv_tableIn (off := 532) (tgt := 564) hx hb dL_law_32 (by rw [k16]; decide) (by rw [k16]; decide) (by rw [k16]; decide) (by decide) ?_
        exact lw_c16 E hj4 ex K hR hPX hPM hS hl
      rcases Decidable.em (u = 17) with k17 | k17
      · refine lv_tableIn (off := 575) (tgt := 607) hx hb dL_law_32 (by rw [k17]; decide) (by rw [k17]; decide) (by rw [k17]; decide) (by decide) ?_
        exact lw_c17 E hj4 ex K hR hPX hPM hS hl
      rcases Decidable.em (u = 18) with k18 | k18
      · refine lv_tableIn (off := 608) (tgt := 640) hx hb dL_law_32 (by rw [k18]; decide) (by rw [k18]; decide) (by rw [k18]; decide) (by decide) ?_
        exact lw_c18 E hj4 ex K hR hPX hPM hS hl
      rcases Decidable.em (u = 19) with k19 | k19
      · refine lv_tableIn (off := 641) (tgt := 673) hx hb dL_law_32 (by rw [k19]; decide) (by rw [k19]; decide) (by rw [k19]; decide) (by decide) ?_
        exact lw_c19 E hj4 ex K hR hPX hPM hS hl
      rcases Decidable.em (u = 20) with k20 | k20
      · refine lv_tableIn (off := 684) (tgt := 716) hx hb dL_law_32 (by rw [k20]; decide) (by rw [k20]; decide) (by rw [k20]; decide) (by decide) ?_
        exact lw_c20 E hj4 ex K hR hPX hPM hS hl
      rcases Decidable.em (u = 21) with k21 | k21
      · refine lv_tableIn (off := 707) (tgt := 739) hx hb dL_law_32 (by rw [k21]; decide) (by rw [k21]; decide) (by rw [k21]; decide) (by decide) ?_
        exact lw_c21 E hj4 ex K hR hPX hPM hS hl
      rcases Decidable.em (u = 22) with k22 | k22
      · refine lv_tableIn (off := 740) (tgt := 772) hx hb dL_law_32 (by rw [k22]; decide) (by rw [k22]; decide) (by rw [k22]; decide) (by decide) ?_
        exact lw_c22 E hj4 ex K hR hPX hPM hS hl
      rcases Decidable.em (u = 23) with k23 | k23
      · refine lv_tableIn (off := 789) (tgt := 821) hx hb dL_law_32 (by rw [k23]; decide) (by rw [k23]; decide) (by rw [k23]; decide) (by decide) ?_
        exact lw_c23 E hj4 ex K hR hPX hPM hS hl
      rcases Decidable.em (u = 24) with k24 | k24
      · refine lv_tableIn (off := 802) (tgt := 834) hx hb dL_law_32 (by rw [k24]; decide) (by rw [k24]; decide) (by rw [k24]; decide) (by decide) ?_
        exact lw_c24 E hj4 ex K hR hPX hPM hS hl
      rcases Decidable.em (u = 25) with k25 | k25
      · refine lv_tableIn (off := 815) (tgt := 847) hx hb dL_law_32 (by rw [k25]; decide) (by rw [k25]; decide) (by rw [k25]; decide) (by decide) ?_
        exact lw_c25 E hj4 ex K hR hPX hPM hS hl
      rcases Decidable.em (u = 26) with k26 | k26
      · refine lv_tableIn (off := 838) (tgt := 870) hx hb dL_law_32 (by rw [k26]; decide) (by rw [k26]; decide) (by rw [k26]; decide) (by decide) ?_
        exact lw_c26 E hj4 ex K hR hPX hPM hS hl
      rcases Decidable.em (u = 27) with k27 | k27
      · refine lv_tableIn (off := 861) (tgt := 893) hx hb dL_law_32 (by rw [k27]; decide) (by rw [k27]; decide) (by rw [k27]; decide) (by decide) ?_
        exact lw_c27 E hj4 ex K hR hPX hPM hS hl
      have ko : u.toInt < 0 ∨ 27 < u.toInt := by
        have j0 : u.toInt ≠ 0 := fun q => k0 (Int32.toInt_inj.mp (q.trans (by decide)))
        have j1 : u.toInt ≠ 1 := fun q => k1 (Int32.toInt_inj.mp (q.trans (by decide)))
        have j2 : u.toInt ≠ 2 := fun q => k2 (Int32.toInt_inj.mp (q.trans (by decide)))
        have j3 : u.toInt ≠ 3 := fun q => k3 (Int32.toInt_inj.mp (q.trans (by decide)))
        have j4 : u.toInt ≠ 4 := fun q => k4 (Int32.toInt_inj.mp (q.trans (by decide)))
        have j5 : u.toInt ≠ 5 := fun q => k5 (Int32.toInt_inj.mp (q.trans (by decide)))
        have j6 : u.toInt ≠ 6 := fun q => k6 (Int32.toInt_inj.mp (q.trans (by decide)))
        have j7 : u.toInt ≠ 7 := fun q => k7 (Int32.toInt_inj.mp (q.trans (by decide)))
        have j8 : u.toInt ≠ 8 := fun q => k8 (Int32.toInt_inj.mp (q.trans (by decide)))
        have j9 : u.toInt ≠ 9 := fun q => k9 (Int32.toInt_inj.mp (q.trans (by decide)))
        have j10 : u.toInt ≠ 10 := fun q => k10 (Int32.toInt_inj.mp (q.trans (by decide)))
        have j11 : u.toInt ≠ 11 := fun q => k11 (Int32.toInt_inj.mp (q.trans (by decide)))
        have j12 : u.toInt ≠ 12 := fun q => k12 (Int32.toInt_inj.mp (q.trans (by decide)))
        have j13 : u.toInt ≠ 13 := fun q => k13 (Int32.toInt_inj.mp (q.trans (by decide)))
        have j14 : u.toInt ≠ 14 := fun q => k14 (Int32.toInt_inj.mp (q.trans (by decide)))
        have j15 : u.toInt ≠ 15 := fun q => k15 (Int32.toInt_inj.mp (q.trans (by decide)))
        have j16 : u.toInt ≠ 16 := fun q => k16 (Int32.toInt_inj.mp (q.trans (by decide)))
        have j17 : u.toInt ≠ 17 := fun q => k17 (Int32.toInt_inj.mp (q.trans (by decide)))
        have j18 : u.toInt ≠ 18 := fun q => k18 (Int32.toInt_inj.mp (q.trans (by decide)))
        have j19 : u.toInt ≠ 19 := fun q => k19 (Int32.toInt_inj.mp (q.trans (by decide)))
        have j20 : u.toInt ≠ 20 := fun q => k20 (Int32.toInt_inj.mp (q.trans (by decide)))
        have j21 : u.toInt ≠ 21 := fun q => k21 (Int32.toInt_inj.mp (q.trans (by decide)))
        have j22 : u.toInt ≠ 22 := fun q => k22 (Int32.toInt_inj.mp (q.trans (by decide)))
        have j23 : u.toInt ≠ 23 := fun q => k23 (Int32.toInt_inj.mp (q.trans (by decide)))
        have j24 : u.toInt ≠ 24 := fun q => k24 (Int32.toInt_inj.mp (q.trans (by decide)))
        have j25 : u.toInt ≠ 25 := fun q => k25 (Int32.toInt_inj.mp (q.trans (by decide)))
        have j26 : u.toInt ≠ 26 := fun q => k26 (Int32.toInt_inj.mp (q.trans (by decide)))
        have j27 : u.toInt ≠ 27 := fun q => k27 (Int32.toInt_inj.mp (q.trans (by decide)))
        omega
      refine lv_tableOut (tgt := 916) hx hb dL_law_32 ko (by decide) ?_
      exact K y z σ μ H locs ls hR hPX hPM hS hl
