theorem up2_in {σ : Nat → Nat → Int32} {q r k : Nat} {v : Int32} {g : Nat → Int32} (h : q ≠ r) : up2 (va_up σ q g) r k v = va_up (up2 σ r k v) q g := by
  funext a
  by_cases h1 : a = q
  · subst h1; simp [up2, va_up, h]
  · by_cases h2 : a = r
    · subst h2; simp [up2, va_up, h1]
    · simp [up2, va_up, h1, h2]
theorem va_in {σ : Nat → Nat → Int32} {q r : Nat} {f g : Nat → Int32} (h : q ≠ r) : va_up (va_up σ q g) r f = va_up (va_up σ r f) q g := by
  funext a
  by_cases h1 : a = q
  · subst h1; simp [va_up, h]
  · by_cases h2 : a = r
    · subst h2; simp [va_up, h1]
    · simp [va_up, h1, h2]
theorem rg_in {x : Int32} {k p : Nat} (hk : k < 2 ^ 31) (hp : p < k) (e : x = nI k) : 0 ≤ nI p ∧ ¬ x ≤ nI p := by
  rw [e]; exact ⟨nI_pos' (by omega), nI_ge hp hk⟩
section RC
variable {p : Program} {l : Launch} {e : Env} {R : Room} {s : State} {m : MethodId} {args : Array Value} {below : List Frame} {meth : Method} {c : Code} {H : Heap} {locs : List Loc} {cells slots : Nat} {Q : State → Prop}
variable {cc : ByteArray} {pc : Nat} {ls : Array Slot} {rest : List Value} {D : va_G} {A : Nat → Prop} {tys : List (ClassId × FieldType)} {H0 : Heap}
variable {n : Nat} {ad : Nat → Nat} {cf : (Nat → Int32) → Nat → va_E} {σ : Nat → Nat → Int32}
theorem rp_copy (hexec : p.tables.exec = Jvm.exec) (hb : c.code = cc) (hml : c.maxLocals = ls.size) {own : String} {index : Nat} (hown : s.vm.findClass own = some m.cls) (hlink : (Cond.methodLink own index arraycopyName).before args s = true) (hnat : (Cond.native arraycopyName).before args s = true) (hstat : (Cond.static arraycopyName).before args s = true) (hini : (Cond.initialized "java/lang/System").before args s = true)
    (hK : va_K D classes tys s) (hP : va_P D classes (rw_ n ad cf σ) H) (hD : ∀ τ, va_D A (rw_ n ad cf τ)) (hS : va_S A H0 H locs) (r0 : Nat) (hr0 : r0 < n) {cA : ClassId} {l0 l1 : Nat} (he0 : ∀ f, cf f r0 = .inl (cA, l0, .inl f)) (r1 : Nat) (hr1 : r1 < n) (he1 : ∀ f, cf f r1 = .inl (cA, l1, .inl f)) (nn : Nat) (ht : tys[0]? = some (cA, .int)) (h4 : nn ≤ l0 ∧ nn ≤ l1) (hlt : nn < 2 ^ 31) {k : Int32} (hk : k = nI nn)
    (hframes : 1 ≤ R.frames) (hlocals : (rest.map fun v => v.category).sum + (nativeFrameWords "java/lang/System" "arraycopy" 5 + 11) ≤ R.locals) (hdg : decode cc pc = .ok (.invokestatic index, 3))
    (kk : ∀ (H1 : Heap) (locs1 : List Loc), va_P D classes (rw_ n ad cf (va_up σ r1 (va_cpy (σ r0) (σ r1) 0 0 nn))) H1 → va_S A H0 H1 locs1 → W p l e R s m args below meth c H1 locs1 cells slots Q (F0 m (pc + 3) ls rest)) : W p l e R s m args below meth c H locs cells slots Q (F0 m pc ls (.int k :: .int 0 :: .ref (ad r1) :: .int 0 :: .ref (ad r0) :: rest)) := by
  subst hk
  have hc := nI_clamp hlt
  refine va_copyi (ty := .int) hexec hb hml hown hlink hnat hstat hini hK hP (hD σ) hS r0 r1 0 0 (rw_get hr0 (he0 _)) (rw_get hr1 (he1 _)) ht ht rfl (by decide) (by decide) (nI_pos hlt) (by rw [hc]; exact (Nat.zero_add nn).symm ▸ h4.1) (by rw [hc]; exact (Nat.zero_add nn).symm ▸ h4.2) (fun _ _ => rfl) hframes hlocals hdg (fun H1 locs1 hP1 _ hS1 => kk H1 locs1 ?_ hS1)
  rw [rw_set hr1 _ (he1 _), hc] at hP1
  exact hP1
theorem rp_aald (hexec : p.tables.exec = Jvm.exec) (hb : c.code = cc) (hK : va_K D classes tys s) (hP : va_P D classes (rw_ n ad cf σ) H) (r : Nat) (hr : r < n) {cA : ClassId} {C : String} {len : Nat} {g : Nat → Option Nat} (he : cf (σ r) r = .inl (cA, len, .inr (.inr (.inr (.inr g))))) (t0 : Nat) (ht : tys[t0]? = some (cA, .object C)) {i : Int32} (j : Nat) (hi : i = nI j) (hj : j < len) (hlen : len < 2 ^ 31) {a : Nat} (ha : g j = some a) (hdg : decode cc pc = .ok (.aaload, 1))
    (kk : W p l e R s m args below meth c H locs cells slots Q (F0 m (pc + 1) ls (.ref a :: rest))) : W p l e R s m args below meth c H locs cells slots Q (F0 m pc ls (.int i :: .ref (ad r) :: rest)) := by
  subst hi
  refine va_aldq hexec hb hK hP r t0 (rw_get hr he) ht (vp_in_nI hj hlen) hdg ?_
  rw [nI_clamp (Nat.lt_trans hj hlen), ha]
  exact kk
end RC
theorem lcg_X {sd : Nat} (h : sd < 2 ^ 31) : ((nI sd).toInt64 * 1103515245 + 12345 &&& 2147483647).toInt32 = nI (lcg sd) := by
  have e : (nI sd).toInt64 * 1103515245 + 12345 = lN (sd * 1103515245 + 12345) := by
    rw [nI_l h, show (1103515245 : Int64) = lN 1103515245 from rfl, show (12345 : Int64) = lN 12345 from rfl, lN_mul, lN_add]
  have m : ∀ k : Nat, k < 2 ^ 63 → lN k &&& 2147483647 = lN (k % 2147483648) := by
    intro k hk
    apply Int64.toBitVec_inj.mp
    apply BitVec.eq_of_toNat_eq
    have e2 : ((2147483647 : Int64).toBitVec).toNat = 2 ^ 31 - 1 := by decide
    have ek : (lN k).toBitVec.toNat = k := by
      show (BitVec.ofNat 64 k).toNat = k
      rw [BitVec.toNat_ofNat]; exact Nat.mod_eq_of_lt (by omega)
    have ek2 : (lN (k % 2147483648)).toBitVec.toNat = k % 2147483648 := by
      show (BitVec.ofNat 64 (k % 2147483648)).toNat = _
      rw [BitVec.toNat_ofNat]; exact Nat.mod_eq_of_lt (by omega)
    rw [Int64.toBitVec_and, BitVec.toNat_and, ek, ek2, e2, Nat.and_two_pow_sub_one_eq_mod]
  rw [e, m _ (by omega), lN_i, lcg_eq]
