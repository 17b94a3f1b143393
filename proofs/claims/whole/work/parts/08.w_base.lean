-- the classes whose objects the worlds hold
abbrev classes : List vw_C := [(RX0, TX0, 3), (RX1, TX1, 1), (RX2, TX2, 3), (RX3, TX3, 3), (RX4, TX4, 6), (RX5, TX5, 3), (RX6, TX6, 10), (RX7, TX7, 12), (RX8, TX8, 10), (RX9, TX9, 38)]
/-- a world by roles: role r lies at ad r, and holds what cf makes of the ints of that role -/
def rw_ (n : Nat) (ad : Nat → Nat) (cf : (Nat → Int32) → Nat → va_E) (σ : Nat → Nat → Int32) : va_W := (List.range n).map (fun r => (ad r, cf (σ r) r))
def up2 (σ : Nat → Nat → Int32) (r k : Nat) (v : Int32) : Nat → Nat → Int32 := va_up σ r (upd (σ r) k v)
section RW
variable {n : Nat} {ad : Nat → Nat} {cf : (Nat → Int32) → Nat → va_E} {σ : Nat → Nat → Int32} {r : Nat}
theorem rw_get (h : r < n) {e : va_E} (he : cf (σ r) r = e) : (rw_ n ad cf σ)[r]? = some (ad r, e) := by
  rw [← he]; simp [rw_, h]
theorem rw_inv {k : Nat} {q : Nat × va_E} (h : (rw_ n ad cf σ)[k]? = some q) : k < n ∧ q = (ad k, cf (σ k) k) := by
  by_cases hk : k < n
  · rw [rw_get hk rfl] at h
    exact ⟨hk, (Option.some.inj h).symm⟩
  · have hl : (rw_ n ad cf σ).length = n := by simp [rw_]
    rw [List.getElem?_eq_none (by rw [hl]; omega)] at h
    cases h
theorem rw_set (h : r < n) {e : va_E} (f : Nat → Int32) (he : cf f r = e) : (rw_ n ad cf σ).set r (ad r, e) = rw_ n ad cf (va_up σ r f) := by
  have hl : ∀ τ, (rw_ n ad cf τ).length = n := fun τ => by simp [rw_]
  apply List.ext_getElem?
  intro k
  by_cases hk : k < n
  · by_cases hkr : k = r
    · subst hkr
      rw [rw_get h (e := e) (by rw [va_up_self]; exact he), List.getElem?_set_self (by rw [hl]; exact h)]
    · rw [List.getElem?_set_ne (fun q => hkr q.symm), rw_get hk rfl, rw_get hk (e := cf (σ k) k) (by rw [va_up_ne _ _ hkr])]
  · rw [List.getElem?_eq_none (by rw [List.length_set, hl]; omega), List.getElem?_eq_none (by rw [hl]; omega)]
theorem rw_D {A : Nat → Prop} (h : va_D A (rw_ n ad cf σ)) (τ : Nat → Nat → Int32) : va_D A (rw_ n ad cf τ) := by
  refine ⟨fun i j p q hi hj e => ?_, fun k q hk => ?_⟩
  · obtain ⟨h1, rfl⟩ := rw_inv hi
    obtain ⟨h2, rfl⟩ := rw_inv hj
    exact h.1 i j _ _ (rw_get h1 rfl) (rw_get h2 rfl) e
  · obtain ⟨h1, rfl⟩ := rw_inv hk
    exact h.2 k (ad k, cf (σ k) k) (rw_get h1 rfl)
theorem rw_A {sz : Nat} (τ : Nat → Nat → Int32) {q : Nat} (h : va_A (rw_ n ad cf σ) sz q) : va_A (rw_ n ad cf τ) sz q := by
  rcases h with ⟨k, e, h⟩ | h
  · obtain ⟨h1, h2⟩ := rw_inv h
    exact Or.inl ⟨k, _, (rw_get h1 rfl).trans (congrArg some (Prod.ext (congrArg (fun z => z.1) h2).symm rfl))⟩
  · exact Or.inr h
theorem rw_free {A : Nat → Prop} {H0 H : Heap} {locs : List Loc} (hD : ∀ τ, va_D A (rw_ n ad cf τ)) (hS : va_S A H0 H locs) (hA : ∀ q : Nat, H0.size ≤ q → A q) : ∀ q, va_A (rw_ n ad cf σ) H.size q → A q := by
  intro q h
  rcases h with ⟨k, e, h⟩ | h
  · exact (hD σ).2 k _ h
  · exact hA q (Nat.le_trans hS.1 h)
end RW
def PreW (D : va_G) (tys : List (ClassId × FieldType)) (n : Nat) (ad : Nat → Nat) (cf : (Nat → Int32) → Nat → va_E) (σ : Nat → Nat → Int32) (sz : Nat) (U : State) : Prop := U.heap.size = sz ∧ va_P D classes (rw_ n ad cf σ) U.heap ∧ va_K D classes tys U ∧ va_D (fun _ => True) (rw_ n ad cf σ)
def wB (D : va_G) (n : Nat) (ad : Nat → Nat) (cf : (Nat → Int32) → Nat → va_E) (σ : Nat → Nat → Int32) (t : State) : Prop := va_P D classes (rw_ n ad cf σ) t.heap
/-- a method that answers an int -/
def MI (l : Launch) (D : va_G) (tys : List (ClassId × FieldType)) (n : Nat) (ad : Nat → Nat) (cf : (Nat → Int32) → Nat → va_E) (y : MethodName) (ws : List Cond) (rm : Room) (σ : Nat → Nat → Int32) (vs : List Value) (post : Int32 → (Nat → Nat → Int32) → Prop) : Prop :=
  ∀ sz : Nat, Met l y ws rm (va_Pc vs (PreW D tys n ad cf σ sz)) (va_Qi post (wB D n ad cf) (va_A (rw_ n ad cf σ) sz)) 0 0 (va_A (rw_ n ad cf σ) sz)
/-- a method that answers nothing -/
def MV (l : Launch) (D : va_G) (tys : List (ClassId × FieldType)) (n : Nat) (ad : Nat → Nat) (cf : (Nat → Int32) → Nat → va_E) (y : MethodName) (ws : List Cond) (rm : Room) (σ : Nat → Nat → Int32) (vs : List Value) (post : (Nat → Nat → Int32) → Prop) : Prop :=
  ∀ sz : Nat, Met l y ws rm (va_Pc vs (PreW D tys n ad cf σ sz)) (va_Qv post (wB D n ad cf) (va_A (rw_ n ad cf σ) sz)) 0 0 (va_A (rw_ n ad cf σ) sz)
section GO
variable {l : Launch} {D : va_G} {tys : List (ClassId × FieldType)} {n : Nat} {ad : Nat → Nat} {cf : (Nat → Int32) → Nat → va_E} {y : MethodName} {ws ws' : List Cond} {rm : Room} {σ : Nat → Nat → Int32} {vs : List Value} {cc : ByteArray} {maxL : Nat}
theorem MI.go {post : Int32 → (Nat → Nat → Int32) → Prop} (ty : FieldType) (hy : plainName y.cls = true) (hw : ws = Cond.code y cc maxL (some ty) :: ws') (hv : (lg_sl vs).length ≤ maxL)
    (body : ∀ (p : Program) (e : Env) (s : State) (m : MethodId) (args : Array Value) (below : List Frame) (meth : Method) (c : Code) (A : Nat → Prop) (Q : State → Prop) (ls : Array Slot), p.tables.exec = Jvm.exec → c.code = cc → c.maxLocals = maxL → s.vm.findClass y.cls = some m.cls → (∀ w ∈ ws, w.before args s = true) → va_K D classes tys s → (∀ q : Nat, s.heap.size ≤ q → A q) → (∀ τ, va_D A (rw_ n ad cf τ)) → va_P D classes (rw_ n ad cf σ) s.heap → va_S A s.heap s.heap [] → lv_has ls maxL (lv_args 0 vs) →
      (∀ {H : Heap} {locs : List Loc} {pc : Nat} {ls : Array Slot} {v : Int32} {τ : Nat → Nat → Int32}, va_P D classes (rw_ n ad cf τ) H → va_S A s.heap H locs → decode cc pc = .ok (.ireturn, 1) → narrow ty (.int v) = .int v → post v τ → W p l e rm s m args below meth c H locs 0 0 Q (F0 m pc ls [.int v])) →
      W p l e rm s m args below meth c s.heap [] 0 0 Q (F0 m 0 ls [])) : MI l D tys n ad cf y ws rm σ vs post := by
  intro sz
  refine Met.ofW (cc := cc) (maxL := maxL) (ret := some ty) hy hw ?_
  intro p e s m args below meth c s₁ B hml hv0
  obtain ⟨rfl, hsz, hP, hK, hD0⟩ := hv0
  subst hsz
  have hD := hD0.self (sz := s.heap.size)
  have hl := lv_entry vs (n := maxL) hv
  rw [lg_entry_eq]
  refine body p e s m vs.toArray below meth c (va_A (rw_ n ad cf σ) s.heap.size) _ _ B.exec B.bytes hml (findClass_of_methodNamed B.named) (atoms_spec (ws := ws) B.pre) hK (fun q h => Or.inr h) (fun τ => rw_D hD τ) hP va_S.rf hl ?_
  intro H locs pc ls v τ hP hS hdg hn hpost
  have hlocks := B.notSynchronized
  exact W.zret B.exec B.bytes B.returns hn (fun t ht hW => ⟨⟨v, τ, rfl, hpost, by show va_P D classes (rw_ n ad cf τ) t.heap; rw [ht]; exact hP⟩, hS.F ht⟩) hS.2.2 hdg
theorem MV.go {post : (Nat → Nat → Int32) → Prop} (hy : plainName y.cls = true) (hw : ws = Cond.code y cc maxL none :: ws') (hv : (lg_sl vs).length ≤ maxL)
    (body : ∀ (p : Program) (e : Env) (s : State) (m : MethodId) (args : Array Value) (below : List Frame) (meth : Method) (c : Code) (A : Nat → Prop) (Q : State → Prop) (ls : Array Slot), p.tables.exec = Jvm.exec → c.code = cc → c.maxLocals = maxL → s.vm.findClass y.cls = some m.cls → (∀ w ∈ ws, w.before args s = true) → va_K D classes tys s → (∀ q : Nat, s.heap.size ≤ q → A q) → (∀ τ, va_D A (rw_ n ad cf τ)) → va_P D classes (rw_ n ad cf σ) s.heap → va_S A s.heap s.heap [] → lv_has ls maxL (lv_args 0 vs) →
      (∀ {H : Heap} {locs : List Loc} {pc : Nat} {ls : Array Slot} {τ : Nat → Nat → Int32}, va_P D classes (rw_ n ad cf τ) H → va_S A s.heap H locs → decode cc pc = .ok (.return_, 1) → post τ → W p l e rm s m args below meth c H locs 0 0 Q (F0 m pc ls [])) →
      W p l e rm s m args below meth c s.heap [] 0 0 Q (F0 m 0 ls [])) : MV l D tys n ad cf y ws rm σ vs post := by
  intro sz
  refine Met.ofW (cc := cc) (maxL := maxL) (ret := none) hy hw ?_
  intro p e s m args below meth c s₁ B hml hv0
  obtain ⟨rfl, hsz, hP, hK, hD0⟩ := hv0
  subst hsz
  have hD := hD0.self (sz := s.heap.size)
  have hl := lv_entry vs (n := maxL) hv
  rw [lg_entry_eq]
  refine body p e s m vs.toArray below meth c (va_A (rw_ n ad cf σ) s.heap.size) _ _ B.exec B.bytes hml (findClass_of_methodNamed B.named) (atoms_spec (ws := ws) B.pre) hK (fun q h => Or.inr h) (fun τ => rw_D hD τ) hP va_S.rf hl ?_
  intro H locs pc ls τ hP hS hdg hpost
  have hlocks := B.notSynchronized
  exact W.vret B.exec B.bytes B.returns (fun t ht hW => ⟨⟨τ, rfl, hpost, by show va_P D classes (rw_ n ad cf τ) t.heap; rw [ht]; exact hP⟩, hS.F ht⟩) hS.2.2 hdg
end GO
section RP
variable {p : Program} {l : Launch} {e : Env} {R : Room} {s : State} {m : MethodId} {args : Array Value} {below : List Frame} {meth : Method} {c : Code} {H : Heap} {locs : List Loc} {cells slots : Nat} {Q : State → Prop}
variable {cc : ByteArray} {pc : Nat} {ls : Array Slot} {rest : List Value} {D : va_G} {A : Nat → Prop} {tys : List (ClassId × FieldType)} {H0 : Heap}
variable {n : Nat} {ad : Nat → Nat} {cf : (Nat → Int32) → Nat → va_E} {σ : Nat → Nat → Int32}
theorem rp_get (hexec : p.tables.exec = Jvm.exec) (hb : c.code = cc) {own C : String} {T : u_T} {N ci index : Nat} {Ts : List Cond} (hts : ∀ w ∈ Ts, w.before args s = true) (hin : ∀ w ∈ u_ws C T N, w ∈ Ts) (hown : s.vm.findClass own = some m.cls) (hK : va_K D classes tys s) (hP : va_P D classes (rw_ n ad cf σ) H) (r : Nat) (hr : r < n) {fs : List Value} (he : cf (σ r) r = .inr (ci, fs)) (hc : classes[ci]? = some (C, T, N)) (k : Nat) (hk : k < N) (hlink : (Cond.fieldLink own index (T k).1 (T k).2.1 (T k).2.2.1) ∈ Ts) {v : Value} (hv : fs[k]? = some v) (hdg : decode cc pc = .ok (.getfield index, 3))
    (kk : W p l e R s m args below meth c H locs cells slots Q (F0 m (pc + 3) ls (v :: rest))) : W p l e R s m args below meth c H locs cells slots Q (F0 m pc ls (.ref (ad r) :: rest)) :=
  va_get hexec hb hts hin hown hK hP r (rw_get hr he) hc k hk (hts _ hlink) (fun _ h => h) hv hdg kk
theorem rp_put (hexec : p.tables.exec = Jvm.exec) (hb : c.code = cc) {own C : String} {T : u_T} {N ci index : Nat} {Ts : List Cond} (hts : ∀ w ∈ Ts, w.before args s = true) (hin : ∀ w ∈ u_ws C T N, w ∈ Ts) (ty0 : Nat → FieldType) (hty : ∀ k, k < N → parseFieldDescriptor (T k).2.2.1 = some (ty0 k)) (hnm : ∀ a, a < N → ∀ b, b < N → a ≠ b → (T a).2.1 ≠ (T b).2.1) (hown : s.vm.findClass own = some m.cls) (hK : va_K D classes tys s) (hP : va_P D classes (rw_ n ad cf σ) H) (hD : ∀ τ, va_D A (rw_ n ad cf τ)) (hS0 : va_S A H0 H locs) (r : Nat) (hr : r < n) {fs : List Value} (he : cf (σ r) r = .inr (ci, fs)) (hc : classes[ci]? = some (C, T, N)) (k : Nat) (hk : k < N) (hlink : (Cond.fieldLink own index (T k).1 (T k).2.1 (T k).2.2.1) ∈ Ts) (hfin : (T k).2.2.2 = false) {v : Int32} (hn : narrow (ty0 k) (.int v) = .int v) (hfit : fits (ty0 k) (.int v) = true) (hl : k < fs.length) (he2 : cf (upd (σ r) k v) r = .inr (ci, fs.set k (.int v)))
    (hdg : decode cc pc = .ok (.putfield index, 3)) (kk : ∀ (H1 : Heap) (locs1 : List Loc), va_P D classes (rw_ n ad cf (up2 σ r k v)) H1 → va_S A H0 H1 locs1 → W p l e R s m args below meth c H1 locs1 cells slots Q (F0 m (pc + 3) ls rest)) : W p l e R s m args below meth c H locs cells slots Q (F0 m pc ls (.int v :: .ref (ad r) :: rest)) :=
  va_put hexec hb hts hin ty0 hty hnm hown hK hP (hD σ) hS0 r (rw_get hr he) hc k hk (hts _ hlink) (fun _ h => h) hfin (hty k hk) hn hfit hl hdg (fun H1 locs1 hP1 _ hS1 => kk H1 locs1 (by rw [rw_set hr (upd (σ r) k v) he2] at hP1; exact hP1) hS1)
theorem rp_iald (hexec : p.tables.exec = Jvm.exec) (hb : c.code = cc) (hK : va_K D classes tys s) (hP : va_P D classes (rw_ n ad cf σ) H) (r : Nat) (hr : r < n) {cA : ClassId} {len : Nat} (he : cf (σ r) r = .inl (cA, len, .inl (σ r))) (t0 : Nat) (ht : tys[t0]? = some (cA, .int)) {i : Int32} (j : Nat) (hi : i = nI j) (hj : j < len) (hlen : len < 2 ^ 31) (hdg : decode cc pc = .ok (.iaload, 1))
    (kk : W p l e R s m args below meth c H locs cells slots Q (F0 m (pc + 1) ls (.int (σ r j) :: rest))) : W p l e R s m args below meth c H locs cells slots Q (F0 m pc ls (.int i :: .ref (ad r) :: rest)) := by
  subst hi
  refine va_iald hexec hb hK hP r t0 (rw_get hr he) ht (vp_in_nI hj hlen) hdg ?_
  rw [nI_clamp (Nat.lt_trans hj hlen)]
  exact kk
theorem rp_zald (hexec : p.tables.exec = Jvm.exec) (hb : c.code = cc) (hK : va_K D classes tys s) (hP : va_P D classes (rw_ n ad cf σ) H) (r : Nat) (hr : r < n) {cA : ClassId} {len : Nat} (he : cf (σ r) r = .inl (cA, len, .inl (σ r))) (t0 : Nat) (ht : tys[t0]? = some (cA, .boolean)) {i : Int32} (j : Nat) (hi : i = nI j) (hj : j < len) (hlen : len < 2 ^ 31) (hdg : decode cc pc = .ok (.baload, 1))
    (kk : W p l e R s m args below meth c H locs cells slots Q (F0 m (pc + 1) ls (.int (σ r j) :: rest))) : W p l e R s m args below meth c H locs cells slots Q (F0 m pc ls (.int i :: .ref (ad r) :: rest)) := by
  subst hi
  refine va_zald hexec hb hK hP r t0 (rw_get hr he) ht (vp_in_nI hj hlen) hdg ?_
  rw [nI_clamp (Nat.lt_trans hj hlen)]
  exact kk
theorem rp_iast (hexec : p.tables.exec = Jvm.exec) (hb : c.code = cc) (hK : va_K D classes tys s) (hP : va_P D classes (rw_ n ad cf σ) H) (hD : ∀ τ, va_D A (rw_ n ad cf τ)) (hS0 : va_S A H0 H locs) (r : Nat) (hr : r < n) {cA : ClassId} {len : Nat} (he : ∀ f, cf f r = .inl (cA, len, .inl f)) (t0 : Nat) (ht : tys[t0]? = some (cA, .int)) {i x : Int32} (j : Nat) (hi : i = nI j) (hj : j < len) (hlen : len < 2 ^ 31) (hdg : decode cc pc = .ok (.iastore, 1))
    (kk : ∀ (H1 : Heap) (locs1 : List Loc), va_P D classes (rw_ n ad cf (up2 σ r j x)) H1 → va_S A H0 H1 locs1 → W p l e R s m args below meth c H1 locs1 cells slots Q (F0 m (pc + 1) ls rest)) : W p l e R s m args below meth c H locs cells slots Q (F0 m pc ls (.int x :: .int i :: .ref (ad r) :: rest)) := by
  subst hi
  refine va_iast hexec hb hK hP (hD σ) hS0 r t0 (rw_get hr (he _)) ht (vp_in_nI hj hlen) hdg (fun H1 locs1 hP1 _ hS1 => kk H1 locs1 ?_ hS1)
  rw [nI_clamp (Nat.lt_trans hj hlen), rw_set hr (upd (σ r) j x) (he _)] at hP1
  exact hP1
theorem rp_zast (hexec : p.tables.exec = Jvm.exec) (hb : c.code = cc) (hK : va_K D classes tys s) (hP : va_P D classes (rw_ n ad cf σ) H) (hD : ∀ τ, va_D A (rw_ n ad cf τ)) (hS0 : va_S A H0 H locs) (r : Nat) (hr : r < n) {cA : ClassId} {len : Nat} (he : ∀ f, cf f r = .inl (cA, len, .inl f)) (t0 : Nat) (ht : tys[t0]? = some (cA, .boolean)) {i x : Int32} (j : Nat) (hi : i = nI j) (hj : j < len) (hlen : len < 2 ^ 31) (hx : vp_nar .boolean x = x) (hdg : decode cc pc = .ok (.bastore, 1))
    (kk : ∀ (H1 : Heap) (locs1 : List Loc), va_P D classes (rw_ n ad cf (up2 σ r j x)) H1 → va_S A H0 H1 locs1 → W p l e R s m args below meth c H1 locs1 cells slots Q (F0 m (pc + 1) ls rest)) : W p l e R s m args below meth c H locs cells slots Q (F0 m pc ls (.int x :: .int i :: .ref (ad r) :: rest)) := by
  subst hi
  refine va_zast hexec hb hK hP (hD σ) hS0 r t0 (rw_get hr (he _)) ht (vp_in_nI hj hlen) hdg (fun H1 locs1 hP1 _ hS1 => kk H1 locs1 ?_ hS1)
  rw [hx, nI_clamp (Nat.lt_trans hj hlen), rw_set hr (upd (σ r) j x) (he _)] at hP1
  exact hP1
theorem PreW.blind {vs : List Value} {sz : Nat} : FrameBlind (va_Pc vs (PreW D tys n ad cf σ sz)) := by
  intro a U g mk q
  obtain ⟨q0, q1, qP, qK, qD⟩ := q
  exact ⟨q0, q1, qP, va_K.moved (u := U) (U := U.calling g mk a) (Vm.Alike.refl U.vm) qK, qD⟩
theorem PreW.at {vs : List Value} (hK : va_K D classes tys s) (hP : va_P D classes (rw_ n ad cf σ) H) (hD : ∀ τ, va_D A (rw_ n ad cf τ)) : ∀ U : State, U.heap = H → s.WarmedH U.vm → va_Pc vs (PreW D tys n ad cf σ H.size) vs.toArray U := fun U hU hW => ⟨rfl, by rw [hU], by rw [hU]; exact hP, va_K.moved hW.alike hK, (hD σ).weaken (fun _ _ _ _ => trivial)⟩
variable {Ts ws ws' : List Cond} {nL maxL index na : Nat} {own C : String} {y : MethodName} {bytes : ByteArray} {ty : FieldType} {rm : Room}
/-- a call by the receiver's class that answers an int -/
theorem rp_callVI {post : Int32 → (Nat → Nat → Int32) → Prop} (hx : p.tables.exec = Jvm.exec) (hb : c.code = cc) (hml : c.maxLocals = nL) (hown : s.vm.findClass own = some m.cls) (hts : ∀ w ∈ Ts, w.before args s = true) (hK : va_K D classes tys s) (hA : ∀ q : Nat, s.heap.size ≤ q → A q) (hD : ∀ τ, va_D A (rw_ n ad cf τ)) (hP : va_P D classes (rw_ n ad cf σ) H) (hS : va_S A s.heap H locs) (hls : ls.size = nL)
    (r : Nat) (hr : r < n) {ci : Nat} {fs : List Value} (he : cf (σ r) r = .inr (ci, fs)) {T : u_T} {N : Nat} (hc : classes[ci]? = some (C, T, N)) (As : List Value) (hM : MI l D tys n ad cf y ws rm σ (.ref (ad r) :: As) post)
    (hG : GoodIn Ts (wsV own index C y ws)) (hw : ws = Cond.code y bytes maxL (some ty) :: ws') (hd : y.cls = C ∧ y.cls ≠ "java/lang/invoke/MethodHandle" ∧ y.cls ≠ "java/lang/invoke/VarHandle" ∧ (parseMethodDescriptor y.desc).map (fun d => d.parameters.length) = some na) (hlen : As.length = na) (hR : rm.frames + 1 ≤ R.frames ∧ 8 + (maxL + 11) + rm.locals ≤ R.locals) (hz : rm.cells = 0 ∧ rm.slots = 0) (hcs : cells ≤ R.cells ∧ slots ≤ R.slots)
    {st0 : List Value} (hst : st0 = As.reverse ++ .ref (ad r) :: rest) (hW : (rest.map fun v => v.category).sum ≤ 8) (hdg : decode cc pc = .ok (.invokevirtual index, 3))
    (kk : ∀ (v : Int32) (τ : Nat → Nat → Int32) (H1 : Heap) (locs1 : List Loc), post v τ → va_P D classes (rw_ n ad cf τ) H1 → va_S A s.heap H1 locs1 → W p l e R s m args below meth c H1 locs1 cells slots Q (F0 m (pc + 3) ls (.int v :: rest))) : W p l e R s m args below meth c H locs cells slots Q (F0 m pc ls st0) := by
  have hF := rw_free (σ := σ) hD hS hA
  refine va_calli (va_runV (b := ad r) (As := As) (rest := rest) ⟨hx, hb, hml, hown, hts⟩ (hM H.size) (cwV na hts hG hw hz.1 hz.2 hd hR) ⟨PreW.blind, va_recv hK hP hc (rw_get hr he), PreW.at hK hP hD⟩ rfl hlen hls hst (lv_room hW) hdg hcs) hS (fun q _ h => hF q h) hF (fun v τ t H1 locs1 ht hvm hw hB hz1 hk1 hS1 => ?_)
  exact kk v τ H1 locs1 hw (by rw [← ht]; exact hB) hS1
/-- .. that answers nothing -/
theorem rp_callVV {post : (Nat → Nat → Int32) → Prop} (hx : p.tables.exec = Jvm.exec) (hb : c.code = cc) (hml : c.maxLocals = nL) (hown : s.vm.findClass own = some m.cls) (hts : ∀ w ∈ Ts, w.before args s = true) (hK : va_K D classes tys s) (hA : ∀ q : Nat, s.heap.size ≤ q → A q) (hD : ∀ τ, va_D A (rw_ n ad cf τ)) (hP : va_P D classes (rw_ n ad cf σ) H) (hS : va_S A s.heap H locs) (hls : ls.size = nL)
    (r : Nat) (hr : r < n) {ci : Nat} {fs : List Value} (he : cf (σ r) r = .inr (ci, fs)) {T : u_T} {N : Nat} (hc : classes[ci]? = some (C, T, N)) (As : List Value) (hM : MV l D tys n ad cf y ws rm σ (.ref (ad r) :: As) post)
    (hG : GoodIn Ts (wsV own index C y ws)) (hw : ws = Cond.code y bytes maxL none :: ws') (hd : y.cls = C ∧ y.cls ≠ "java/lang/invoke/MethodHandle" ∧ y.cls ≠ "java/lang/invoke/VarHandle" ∧ (parseMethodDescriptor y.desc).map (fun d => d.parameters.length) = some na) (hlen : As.length = na) (hR : rm.frames + 1 ≤ R.frames ∧ 8 + (maxL + 11) + rm.locals ≤ R.locals) (hz : rm.cells = 0 ∧ rm.slots = 0) (hcs : cells ≤ R.cells ∧ slots ≤ R.slots)
    {st0 : List Value} (hst : st0 = As.reverse ++ .ref (ad r) :: rest) (hW : (rest.map fun v => v.category).sum ≤ 8) (hdg : decode cc pc = .ok (.invokevirtual index, 3))
    (kk : ∀ (τ : Nat → Nat → Int32) (H1 : Heap) (locs1 : List Loc), post τ → va_P D classes (rw_ n ad cf τ) H1 → va_S A s.heap H1 locs1 → W p l e R s m args below meth c H1 locs1 cells slots Q (F0 m (pc + 3) ls rest)) : W p l e R s m args below meth c H locs cells slots Q (F0 m pc ls st0) := by
  have hF := rw_free (σ := σ) hD hS hA
  refine va_callv (va_runV (b := ad r) (As := As) (rest := rest) ⟨hx, hb, hml, hown, hts⟩ (hM H.size) (cwV na hts hG hw hz.1 hz.2 hd hR) ⟨PreW.blind, va_recv hK hP hc (rw_get hr he), PreW.at hK hP hD⟩ rfl hlen hls hst (lv_room hW) hdg hcs) hS (fun q _ h => hF q h) hF (fun τ t H1 locs1 ht hvm hw hB hz1 hk1 hS1 => ?_)
  exact kk τ H1 locs1 hw (by rw [← ht]; exact hB) hS1
/-- a static method that answers an int -/
theorem rp_callSI {post : Int32 → (Nat → Nat → Int32) → Prop} (hx : p.tables.exec = Jvm.exec) (hb : c.code = cc) (hml : c.maxLocals = nL) (hown : s.vm.findClass own = some m.cls) (hts : ∀ w ∈ Ts, w.before args s = true) (hK : va_K D classes tys s) (hA : ∀ q : Nat, s.heap.size ≤ q → A q) (hD : ∀ τ, va_D A (rw_ n ad cf τ)) (hP : va_P D classes (rw_ n ad cf σ) H) (hS : va_S A s.heap H locs) (hls : ls.size = nL)
    (As : List Value) (hM : MI l D tys n ad cf y ws rm σ As post)
    (hG : GoodIn Ts (va_wsS own index y ws)) (hw : ws = Cond.code y bytes maxL (some ty) :: ws') (hd : y.cls ≠ "java/lang/invoke/MethodHandle" ∧ y.cls ≠ "java/lang/invoke/VarHandle" ∧ (parseMethodDescriptor y.desc).map (fun d => d.parameters.length) = some na) (hlen : As.length = na) (hR : rm.frames + 1 ≤ R.frames ∧ 8 + (maxL + 11) + rm.locals ≤ R.locals) (hz : rm.cells = 0 ∧ rm.slots = 0) (hcs : cells ≤ R.cells ∧ slots ≤ R.slots)
    {st0 : List Value} (hst : st0 = As.reverse ++ rest) (hW : (rest.map fun v => v.category).sum ≤ 8) (hdg : decode cc pc = .ok (.invokestatic index, 3))
    (kk : ∀ (v : Int32) (τ : Nat → Nat → Int32) (H1 : Heap) (locs1 : List Loc), post v τ → va_P D classes (rw_ n ad cf τ) H1 → va_S A s.heap H1 locs1 → W p l e R s m args below meth c H1 locs1 cells slots Q (F0 m (pc + 3) ls (.int v :: rest))) : W p l e R s m args below meth c H locs cells slots Q (F0 m pc ls st0) := by
  have hF := rw_free (σ := σ) hD hS hA
  refine va_calli (va_runS (As := As) (rest := rest) ⟨hx, hb, hml, hown, hts⟩ (hM H.size) (va_cwS na hts hG hw hz.1 hz.2 hd hR) ⟨PreW.blind, PreW.at hK hP hD⟩ rfl hlen hls hst (lv_room hW) hdg hcs) hS (fun q _ h => hF q h) hF (fun v τ t H1 locs1 ht hvm hw hB hz1 hk1 hS1 => ?_)
  exact kk v τ H1 locs1 hw (by rw [← ht]; exact hB) hS1
/-- a static method that answers nothing -/
theorem rp_callSV {post : (Nat → Nat → Int32) → Prop} (hx : p.tables.exec = Jvm.exec) (hb : c.code = cc) (hml : c.maxLocals = nL) (hown : s.vm.findClass own = some m.cls) (hts : ∀ w ∈ Ts, w.before args s = true) (hK : va_K D classes tys s) (hA : ∀ q : Nat, s.heap.size ≤ q → A q) (hD : ∀ τ, va_D A (rw_ n ad cf τ)) (hP : va_P D classes (rw_ n ad cf σ) H) (hS : va_S A s.heap H locs) (hls : ls.size = nL)
    (As : List Value) (hM : MV l D tys n ad cf y ws rm σ As post)
    (hG : GoodIn Ts (va_wsS own index y ws)) (hw : ws = Cond.code y bytes maxL none :: ws') (hd : y.cls ≠ "java/lang/invoke/MethodHandle" ∧ y.cls ≠ "java/lang/invoke/VarHandle" ∧ (parseMethodDescriptor y.desc).map (fun d => d.parameters.length) = some na) (hlen : As.length = na) (hR : rm.frames + 1 ≤ R.frames ∧ 8 + (maxL + 11) + rm.locals ≤ R.locals) (hz : rm.cells = 0 ∧ rm.slots = 0) (hcs : cells ≤ R.cells ∧ slots ≤ R.slots)
    {st0 : List Value} (hst : st0 = As.reverse ++ rest) (hW : (rest.map fun v => v.category).sum ≤ 8) (hdg : decode cc pc = .ok (.invokestatic index, 3))
    (kk : ∀ (τ : Nat → Nat → Int32) (H1 : Heap) (locs1 : List Loc), post τ → va_P D classes (rw_ n ad cf τ) H1 → va_S A s.heap H1 locs1 → W p l e R s m args below meth c H1 locs1 cells slots Q (F0 m (pc + 3) ls rest)) : W p l e R s m args below meth c H locs cells slots Q (F0 m pc ls st0) := by
  have hF := rw_free (σ := σ) hD hS hA
  refine va_callv (va_runS (As := As) (rest := rest) ⟨hx, hb, hml, hown, hts⟩ (hM H.size) (va_cwS na hts hG hw hz.1 hz.2 hd hR) ⟨PreW.blind, PreW.at hK hP hD⟩ rfl hlen hls hst (lv_room hW) hdg hcs) hS (fun q _ h => hF q h) hF (fun τ t H1 locs1 ht hvm hw hB hz1 hk1 hS1 => ?_)
  exact kk τ H1 locs1 hw (by rw [← ht]; exact hB) hS1
end RP
