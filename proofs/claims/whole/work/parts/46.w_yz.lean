-- the two yards change their places
theorem cfX_ne {ad : Nat → Nat} {cy : Nat → ClassId} {y z y2 z2 : Nat} (f : Nat → Int32) {r : Nat} (h : r ≠ 0) : cfX ad cy y z f r = cfX ad cy y2 z2 f r := by
  unfold cfX; rw [if_neg h, if_neg h]
theorem rw_yz {ad : Nat → Nat} {cy : Nat → ClassId} {y z y2 z2 : Nat} {σ : Nat → Nat → Int32} {e : va_E} (he : cfX ad cy y2 z2 (σ 0) 0 = e) : (rw_ 109 ad (cfX ad cy y z) σ).set 0 (ad 0, e) = rw_ 109 ad (cfX ad cy y2 z2) σ := by
  have hl : ∀ a b, (rw_ 109 ad (cfX ad cy a b) σ).length = 109 := fun a b => by simp [rw_]
  apply List.ext_getElem?
  intro k
  by_cases hk : k < 109
  · by_cases hkr : k = 0
    · subst hkr
      rw [rw_get hk (e := e) he, List.getElem?_set_self (by rw [hl]; exact hk)]
    · rw [List.getElem?_set_ne (fun q => hkr q.symm), rw_get hk rfl, rw_get hk (e := cfX ad cy y z (σ k) k) (cfX_ne _ hkr)]
  · rw [List.getElem?_eq_none (by rw [List.length_set, hl]; omega), List.getElem?_eq_none (by rw [hl]; omega)]
theorem rw_D2 {n : Nat} {ad : Nat → Nat} {cf cf2 : (Nat → Int32) → Nat → va_E} {A : Nat → Prop} {σ : Nat → Nat → Int32} (h : va_D A (rw_ n ad cf σ)) (τ : Nat → Nat → Int32) : va_D A (rw_ n ad cf2 τ) := by
  refine ⟨fun i j p q hi hj e => ?_, fun k q hk => ?_⟩
  · obtain ⟨h1, rfl⟩ := rw_inv hi
    obtain ⟨h2, rfl⟩ := rw_inv hj
    exact h.1 i j _ _ (rw_get h1 rfl) (rw_get h2 rfl) e
  · obtain ⟨h1, rfl⟩ := rw_inv hk
    exact h.2 k (ad k, cf (σ k) k) (rw_get h1 rfl)
section PR
variable {p : Program} {l : Launch} {e : Env} {R : Room} {s : State} {m : MethodId} {args : Array Value} {below : List Frame} {meth : Method} {c : Code} {H : Heap} {locs : List Loc} {cells slots : Nat} {Q : State → Prop}
variable {cc : ByteArray} {pc : Nat} {ls : Array Slot} {rest : List Value} {D : va_G} {A : Nat → Prop} {tys : List (ClassId × FieldType)} {H0 : Heap}
variable {ad : Nat → Nat} {cy : Nat → ClassId} {y z : Nat} {σ : Nat → Nat → Int32}
theorem rp_putP (hexec : p.tables.exec = Jvm.exec) (hb : c.code = cc) {index : Nat} {Ts : List Cond} (hts : ∀ w ∈ Ts, w.before args s = true) (hin : ∀ w ∈ u_ws RX8 TX8 10, w ∈ Ts) (hown : s.vm.findClass RX8 = some m.cls) (hK : va_K D classes tys s) (hP : va_P D classes (rw_ 109 ad (cfX ad cy y z) σ) H) (hD : ∀ τ, va_D A (rw_ 109 ad (cfX ad cy y z) τ)) (hS0 : va_S A H0 H locs) (q : Nat) (hlink : (Cond.fieldLink RX8 index (TX8 1).1 (TX8 1).2.1 (TX8 1).2.2.1) ∈ Ts)
    (hdg : decode cc pc = .ok (.putfield index, 3)) (kk : ∀ (H1 : Heap) (locs1 : List Loc), va_P D classes (rw_ 109 ad (cfX ad cy q z) σ) H1 → va_S A H0 H1 locs1 → W p l e R s m args below meth c H1 locs1 cells slots Q (F0 m (pc + 3) ls rest)) : W p l e R s m args below meth c H locs cells slots Q (F0 m pc ls (.ref (ad q) :: .ref (ad 0) :: rest)) :=
  va_put hexec hb hts hin tyX8 tyX8_ok nmX8 hown hK hP (hD σ) hS0 0 (rw_get (by decide) (kX8 _)) rfl 1 (by decide) (hts _ hlink) (fun _ h => h) rfl (tyX8_ok 1 (by decide)) rfl rfl (Nat.le_of_ble_eq_true rfl) hdg (fun H1 locs1 hP1 _ hS1 => kk H1 locs1 (by rw [← rw_yz (ad := ad) (cy := cy) (y := y) (z := z) (y2 := q) (z2 := z) (σ := σ) rfl]; exact hP1) hS1)
theorem rp_putS (hexec : p.tables.exec = Jvm.exec) (hb : c.code = cc) {index : Nat} {Ts : List Cond} (hts : ∀ w ∈ Ts, w.before args s = true) (hin : ∀ w ∈ u_ws RX8 TX8 10, w ∈ Ts) (hown : s.vm.findClass RX8 = some m.cls) (hK : va_K D classes tys s) (hP : va_P D classes (rw_ 109 ad (cfX ad cy y z) σ) H) (hD : ∀ τ, va_D A (rw_ 109 ad (cfX ad cy y z) τ)) (hS0 : va_S A H0 H locs) (q : Nat) (hlink : (Cond.fieldLink RX8 index (TX8 2).1 (TX8 2).2.1 (TX8 2).2.2.1) ∈ Ts)
    (hdg : decode cc pc = .ok (.putfield index, 3)) (kk : ∀ (H1 : Heap) (locs1 : List Loc), va_P D classes (rw_ 109 ad (cfX ad cy y q) σ) H1 → va_S A H0 H1 locs1 → W p l e R s m args below meth c H1 locs1 cells slots Q (F0 m (pc + 3) ls rest)) : W p l e R s m args below meth c H locs cells slots Q (F0 m pc ls (.ref (ad q) :: .ref (ad 0) :: rest)) :=
  va_put hexec hb hts hin tyX8 tyX8_ok nmX8 hown hK hP (hD σ) hS0 0 (rw_get (by decide) (kX8 _)) rfl 2 (by decide) (hts _ hlink) (fun _ h => h) rfl (tyX8_ok 2 (by decide)) rfl rfl (Nat.le_of_ble_eq_true rfl) hdg (fun H1 locs1 hP1 _ hS1 => kk H1 locs1 (by rw [← rw_yz (ad := ad) (cy := cy) (y := y) (z := z) (y2 := y) (z2 := q) (σ := σ) rfl]; exact hP1) hS1)
end PR
/-- a method that answers an int and may change the yards' places -/
def MIy (l : Launch) (D : va_G) (cy : Nat → ClassId) (ad : Nat → Nat) (y z : Nat) (yn : MethodName) (ws : List Cond) (rm : Room) (σ : Nat → Nat → Int32) (vs : List Value) (post : Int32 → Bool → (Nat → Nat → Int32) → Prop) : Prop :=
  ∀ sz : Nat, Met l yn ws rm (va_Pc vs (PreW D (tysW cy) 109 ad (cfX ad cy y z) σ sz)) (va_Qi (fun v (u : Bool × (Nat → Nat → Int32)) => post v u.1 u.2) (fun u t => va_P D classes (rw_ 109 ad (cfX ad cy (if u.1 then z else y) (if u.1 then y else z)) u.2) t.heap) (va_A (rw_ 109 ad (cfX ad cy y z) σ) sz)) 0 0 (va_A (rw_ 109 ad (cfX ad cy y z) σ) sz)
theorem MIy.go {l : Launch} {D : va_G} {cy : Nat → ClassId} {ad : Nat → Nat} {y z : Nat} {yn : MethodName} {ws ws' : List Cond} {rm : Room} {σ : Nat → Nat → Int32} {vs : List Value} {cc : ByteArray} {maxL : Nat} {post : Int32 → Bool → (Nat → Nat → Int32) → Prop} (ty : FieldType) (hy : plainName yn.cls = true) (hw : ws = Cond.code yn cc maxL (some ty) :: ws') (hv : (lg_sl vs).length ≤ maxL)
    (body : ∀ (p : Program) (e : Env) (s : State) (m : MethodId) (args : Array Value) (below : List Frame) (meth : Method) (c : Code) (A : Nat → Prop) (Q : State → Prop) (ls : Array Slot), p.tables.exec = Jvm.exec → c.code = cc → c.maxLocals = maxL → s.vm.findClass yn.cls = some m.cls → (∀ w ∈ ws, w.before args s = true) → va_K D classes (tysW cy) s → (∀ q : Nat, s.heap.size ≤ q → A q) → (∀ τ, va_D A (rw_ 109 ad (cfX ad cy y z) τ)) → va_P D classes (rw_ 109 ad (cfX ad cy y z) σ) s.heap → va_S A s.heap s.heap [] → lv_has ls maxL (lv_args 0 vs) →
      (∀ (b : Bool) {H : Heap} {locs : List Loc} {pc : Nat} {ls : Array Slot} {v : Int32} {τ : Nat → Nat → Int32}, va_P D classes (rw_ 109 ad (cfX ad cy (if b then z else y) (if b then y else z)) τ) H → va_S A s.heap H locs → decode cc pc = .ok (.ireturn, 1) → narrow ty (.int v) = .int v → post v b τ → W p l e rm s m args below meth c H locs 0 0 Q (F0 m pc ls [.int v])) →
      W p l e rm s m args below meth c s.heap [] 0 0 Q (F0 m 0 ls [])) : MIy l D cy ad y z yn ws rm σ vs post := by
  intro sz
  refine Met.ofW (cc := cc) (maxL := maxL) (ret := some ty) hy hw ?_
  intro p e s m args below meth c s₁ B hml hv0
  obtain ⟨rfl, hsz, hP, hK, hD0⟩ := hv0
  subst hsz
  have hD := hD0.self (sz := s.heap.size)
  have hl := lv_entry vs (n := maxL) hv
  rw [lg_entry_eq]
  refine body p e s m vs.toArray below meth c (va_A (rw_ 109 ad (cfX ad cy y z) σ) s.heap.size) _ _ B.exec B.bytes hml (findClass_of_methodNamed B.named) (atoms_spec (ws := ws) B.pre) hK (fun q h => Or.inr h) (fun τ => rw_D hD τ) hP va_S.rf hl ?_
  intro b H locs pc ls v τ hP hS hdg hn hpost
  have hlocks := B.notSynchronized
  exact W.zret B.exec B.bytes B.returns hn (fun t ht hW => ⟨⟨v, (b, τ), rfl, hpost, by show va_P D classes (rw_ 109 ad (cfX ad cy (if b then z else y) (if b then y else z)) τ) t.heap; rw [ht]; exact hP⟩, hS.F ht⟩) hS.2.2 hdg
