/-! THE CLAIM OUT OF ONE WALK OF THE LAW'S BODY. Your part is whole_start (and what it stands on); all else here is the same for every law, but numbers. -/
def R_law : String := "UnsaidWellLaw"
def lw_P (b : Addr) (xs : List Int32) (args : Array Value) (s : State) : Prop := args = #[.ref b] ∧ s.IntsAt b xs ∧ xs.length ≤ 256 ∧ (Jvm.Cond.and given_1 narrow_1).before args s = true
def lw_Q (_ : Array Value) (s : State) (o : Outcome) (t : State) : Prop := o = .returned (some (.int 1)) ∧ Framed s o t [] 600000 7302250
def lw_Z (below : List Frame) (a : Array Value) (s : State) : State → Prop := fun t => ∃ o, t.status = .running ∧ Ended t below o ∧ lw_Q a s o t
/-- the law's own end, with 1 on the stack, nothing written that was there before, its room as the claim has it -/
theorem lw_ret {p : Program} {l : Launch} {e : Env} {s : State} {m : MethodId} {below : List Frame} {meth : Method} {c : Code} {b : Nat} (hx : p.tables.exec = Jvm.exec) (hb : c.code = code) (hr : meth.sig.returnType = ret) (hlocks : meth.locks = false) {pc : Nat} {H : Heap} {ls : Array Slot} (hdg : decode code pc = .ok (.ireturn, 1)) : W p l e room_1 s m #[Value.ref b] below meth c H [] 600000 7302250 (lw_Z below #[Value.ref b] s) (F0 m pc ls [.int 1]) := by
  intro T hT X
  obtain ⟨fs, hret, hrun, hended, hW, hframe⟩ := X.leave (v := some (.int 1)) (hlocks := hlocks) (fun h => by rw [hr] at h; cases h)
  have hmeth' : T.vm.method? m = some meth := X.method'
  refine ⟨T.setFrames fs, ?_, .returned (some (.int 1)), hrun, hended, rfl, ⟨_, rfl⟩, hW, hframe⟩
  jvm_step X.here [X.here.top, hx, hb, hdg, hmeth', hr, ret, narrow_b1]
  (try refine ⟨rfl, ?_⟩); (try refine ⟨rfl, ?_⟩)
  first | (intro acts; rw [hret _ acts rfl rfl rfl]) | rw [hret _ _ rfl rfl rfl]
  exact Steps.refl _
/-- what holds at the law's entry: the machine, the code, the tables' words (any of lw_tbl by 'hts w (by decide +kernel)'), the script of L ints xs at the cell b, what the Statement gives of the start (any of its parts by flat_of_before) -/
def lw_At (p : Program) (s : State) (m : MethodId) (meth : Method) (c : Code) (b L : Nat) (xs : Nat → Int32) : Prop :=
  p.tables.exec = Jvm.exec ∧ c.code = code ∧ meth.sig.returnType = ret ∧ c.maxLocals = 4 ∧ s.vm.findClass R_law = some m.cls ∧ (∀ w ∈ lw_tbl, w.before #[Value.ref b] s = true) ∧ va_X b L xs s s.heap ∧ b < s.heap.size ∧ meth.locks = false ∧ (Jvm.Cond.and given_1 narrow_1).before #[Value.ref b] s = true

section RA
variable {y z k n nx ct len t sd : Nat} {σ μ : Nat → Nat → Int32}
theorem Rl.zz (h : Rl y z k n nx ct len t sd σ μ) : z = 3 ∨ z = 10 := by rcases h.1 with q | q <;> omega
theorem Rl.ek (h : Rl y z k n nx ct len t sd σ μ) : σ y 3 = nI k := h.2.1.2.1.1
theorem Rl.en (h : Rl y z k n nx ct len t sd σ μ) : σ y 5 = nI n := h.2.1.2.1.2.1
theorem Rl.mk (h : Rl y z k n nx ct len t sd σ μ) : μ 0 3 = nI k := h.2.1.2.1.2.2.2.2.2.1
theorem Rl.mn (h : Rl y z k n nx ct len t sd σ μ) : μ 0 5 = nI n := h.2.1.2.1.2.2.2.2.2.2.1
theorem Rl.hnx (h : Rl y z k n nx ct len t sd σ μ) : nx < 16 := h.2.2.2.2.1.1
theorem Rl.hct (h : Rl y z k n nx ct len t sd σ μ) : ct ≤ 16 := h.2.2.2.2.1.2.1
theorem Rl.enx (h : Rl y z k n nx ct len t sd σ μ) : σ 17 1 = nI nx := h.2.2.2.2.1.2.2.1
theorem Rl.ect (h : Rl y z k n nx ct len t sd σ μ) : σ 17 2 = nI ct := h.2.2.2.2.1.2.2.2.1
theorem Rl.mct (h : Rl y z k n nx ct len t sd σ μ) : μ 0 31 = nI ct := h.2.2.2.2.1.2.2.2.2.1
theorem Rl.hlen (h : Rl y z k n nx ct len t sd σ μ) : len ≤ 240 := h.2.2.1.1
theorem Rl.elen (h : Rl y z k n nx ct len t sd σ μ) : σ 1 1 = nI len := h.2.2.1.2.1
theorem Rl.mlen (h : Rl y z k n nx ct len t sd σ μ) : μ 0 14 = nI len := h.2.2.1.2.2.1
theorem Rl.m7 (h : Rl y z k n nx ct len t sd σ μ) : μ 7 = σ 2 := h.2.2.1.2.2.2.2.1
theorem Rl.htx (h : Rl y z k n nx ct len t sd σ μ) : ∀ j, j < len → 0 ≤ μ 7 j := by rw [h.m7]; exact h.2.2.1.2.2.2.2.2
theorem Rl.ht (h : Rl y z k n nx ct len t sd σ μ) : t ≤ 15 := h.2.2.2.2.2.1.1
theorem Rl.et (h : Rl y z k n nx ct len t sd σ μ) : σ 19 0 = nI t := h.2.2.2.2.2.1.2.1
theorem Rl.mt (h : Rl y z k n nx ct len t sd σ μ) : μ 0 33 = nI t := h.2.2.2.2.2.1.2.2.1
theorem Rl.tq (h : Rl y z k n nx ct len t sd σ μ) : ∃ q p s, q ≤ 6 ∧ σ (29 + 4 * 0) 7 = nI q ∧ μ 6 16 = nI q ∧ (0 < q → σ (29 + 4 * 0 + 2) 0 = nI p ∧ σ (29 + 4 * 0 + 3) 0 = nI s ∧ p < k ∧ s < n) ∧ (0 < q → μ 6 17 = nI (10 * p + s)) := by
  obtain ⟨q, hq, e7, hQ⟩ := h.w0.2.2.2.2
  have e16 : μ 6 16 = nI q := by rw [← h.w0.2.1.2.2.2.2.2.2]; exact e7
  by_cases q0 : 0 < q
  · obtain ⟨p, s, g1, g2, g3, g4, g5⟩ := hQ 0 q0
    exact ⟨q, p, s, hq, e7, e16, fun _ => ⟨g3, g4, g1, g2⟩, fun _ => g5⟩
  · exact ⟨q, 0, 0, hq, e7, e16, fun z => absurd z q0, fun z => absurd z q0⟩
theorem Rl.arm (h : Rl y z k n nx ct len t sd σ μ) : ∀ p, p < k → iN 1 9 (μ 1 p) := fun p hp => by
  rw [h.2.1.2.2.1 p hp]; exact h.2.1.1.2.1 p hp
theorem Rl.wet (h : Rl y z k n nx ct len t sd σ μ) : ∀ s, s < n → ∃ e w, e < w ∧ w ≤ 20 ∧ μ 6 s = nI e ∧ μ 3 s = nI w := fun s hs => by
  have hn := h.hn
  obtain ⟨e, w, g1, g2, g3, g4⟩ := h.w0.2.2.2.1 s hs
  exact ⟨e, w, g1, g2, by rw [← h.w0.1 s (by omega)]; exact g3, by rw [(h.2.1.2.2.2 s hs).2.1]; exact g4⟩
theorem Rl.lev (h : Rl y z k n nx ct len t sd σ μ) : iN 0 99 (μ 6 12) := by rw [← h.w0.2.1.2.2.1]; exact h.w0.2.2.1.1
theorem Rl.rn (h : Rl y z k n nx ct len t sd σ μ) : iN 0 99 (μ 6 13) := by rw [← h.w0.2.1.2.2.2.1]; exact h.w0.2.2.1.2
theorem Rl.spr (h : Rl y z k n nx ct len t sd σ μ) : iN 0 20 (μ 0 2) := by rw [h.2.1.2.1.2.2.2.2.1]; exact h.2.1.1.1.2.2.2
end RA
theorem sM0_n {r : Nat} (h : r ≠ 0) : sM0 r = fun _ => 0 := by funext k; unfold sM0; rw [if_neg (fun q => h q.1)]
/-- both when they have just been made -/
theorem Rel0 : Rel 3 10 sX0 sM0 := by
  refine ⟨0, 0, 0, 0, 0, 0, 0, Or.inl ⟨rfl, rfl⟩, ⟨⟨⟨by omega, by omega, ⟨0, by omega, by omega, rfl⟩, ⟨0, by omega, by omega, rfl⟩⟩, fun j hj => absurd hj (by omega), fun j hj => absurd hj (by omega)⟩, ⟨rfl, rfl, Or.inl rfl, rfl, rfl, rfl, rfl, rfl⟩, fun j hj => absurd hj (by omega), fun j hj => absurd hj (by omega)⟩, ⟨by omega, rfl, rfl, rfl, ?_, fun j hj => absurd hj (by omega)⟩, ?_, ⟨by omega, by omega, rfl, rfl, rfl, fun j hj => absurd hj (by omega)⟩, ⟨by omega, rfl, rfl, fun j hj => absurd hj (by omega)⟩, ⟨by decide, rfl, rfl⟩, ?_⟩
  · rw [sM0_n (by decide), sX0_n (by decide)]
  · unfold WRs
    rw [sM0_n (show (6 : Nat) ≠ 0 by decide), sX0_n (show (29 + 4 * 0 : Nat) ≠ 1 by decide), sX0_n (show (29 + 4 * 0 + 1 : Nat) ≠ 1 by decide)]
    exact ⟨fun _ _ => rfl, ⟨rfl, rfl, rfl, rfl, rfl, rfl, rfl⟩, ⟨⟨0, by omega, by omega, rfl⟩, ⟨0, by omega, by omega, rfl⟩⟩, fun j hj => absurd hj (by omega), 0, by omega, rfl, fun i hi => absurd hi (by omega)⟩
  · intro i hi
    rw [sM0_n (show (18 : Nat) ≠ 0 by decide), sX0_n (show (26 : Nat) ≠ 1 by decide)]
    exact ⟨rfl, fun q => absurd rfl q⟩
section LC
variable {p : Program} {l : Launch} {e : Env} {R : Room} {s : State} {m : MethodId} {args : Array Value} {below : List Frame} {meth : Method} {c : Code} {H : Heap} {locs : List Loc} {cells slots : Nat} {Q : State → Prop}
variable {cc : ByteArray} {pc : Nat} {ls : Array Slot} {rest : List Value} {D : va_G} {A : Nat → Prop} {tys : List (ClassId × FieldType)}
variable {n n2 : Nat} {ad ad2 : Nat → Nat} {cf cf2 : (Nat → Int32) → Nat → va_E} {σ σ2 : Nat → Nat → Int32} {cy : Nat → ClassId} {y z : Nat}
variable {Ts ws ws' : List Cond} {nL maxL index na : Nat} {own C : String} {yn : MethodName} {bytes : ByteArray} {ty : FieldType} {rm : Room}
theorem lc_o {H1 : Heap} (hO : va_P D classes (rw_ n2 ad2 cf2 σ2) H) (hne : ∀ r r2, r < n → r2 < n2 → ad r ≠ ad2 r2) (hk : ∀ q : Nat, q < H.size → ¬ va_A (rw_ n ad cf σ) H.size q → H1[q]? = H[q]?) : va_P D classes (rw_ n2 ad2 cf2 σ2) H1 := by
  refine hO.kept (fun k q hq => ?_)
  have hlt := (hO k q hq).lt
  obtain ⟨h1, rfl⟩ := rw_inv hq
  refine hk _ hlt (fun h => ?_)
  rcases h with ⟨k2, e, h⟩ | h
  · obtain ⟨h2, h3⟩ := rw_inv h
    exact hne k2 k h2 h1 (congrArg (fun w => w.1) h3).symm
  · exact absurd hlt (Nat.not_lt.mpr h)
/-- the law calls one of the two: the other stays -/
theorem lc_I {post : Int32 → (Nat → Nat → Int32) → Prop} (hx : p.tables.exec = Jvm.exec) (hb : c.code = cc) (hml : c.maxLocals = nL) (hown : s.vm.findClass own = some m.cls) (hts : ∀ w ∈ Ts, w.before args s = true) (hK : va_K D classes tys s) (hA : ∀ q : Nat, s.heap.size ≤ q → A q) (hD : ∀ τ, va_D A (rw_ n ad cf τ)) (hP : va_P D classes (rw_ n ad cf σ) H) (hO : va_P D classes (rw_ n2 ad2 cf2 σ2) H) (hne : ∀ r r2, r < n → r2 < n2 → ad r ≠ ad2 r2) (hS : va_S A s.heap H locs) (hls : ls.size = nL)
    (r : Nat) (hr : r < n) {ci : Nat} {fs : List Value} (he : cf (σ r) r = .inr (ci, fs)) {T : u_T} {N : Nat} (hc : classes[ci]? = some (C, T, N)) (As : List Value) (hM : MI l D tys n ad cf yn ws rm σ (.ref (ad r) :: As) post)
    (hG : GoodIn Ts (wsV own index C yn ws)) (hw : ws = Cond.code yn bytes maxL (some ty) :: ws') (hd : yn.cls = C ∧ yn.cls ≠ "java/lang/invoke/MethodHandle" ∧ yn.cls ≠ "java/lang/invoke/VarHandle" ∧ (parseMethodDescriptor yn.desc).map (fun d => d.parameters.length) = some na) (hlen : As.length = na) (hR : rm.frames + 1 ≤ R.frames ∧ 8 + (maxL + 11) + rm.locals ≤ R.locals) (hz : rm.cells = 0 ∧ rm.slots = 0) (hcs : cells ≤ R.cells ∧ slots ≤ R.slots)
    {st0 : List Value} (hst : st0 = As.reverse ++ .ref (ad r) :: rest) (hW : (rest.map fun v => v.category).sum ≤ 8) (hdg : decode cc pc = .ok (.invokevirtual index, 3))
    (kk : ∀ (v : Int32) (τ : Nat → Nat → Int32) (H1 : Heap) (locs1 : List Loc), post v τ → va_P D classes (rw_ n ad cf τ) H1 → va_P D classes (rw_ n2 ad2 cf2 σ2) H1 → va_S A s.heap H1 locs1 → W p l e R s m args below meth c H1 locs1 cells slots Q (F0 m (pc + 3) ls (.int v :: rest))) : W p l e R s m args below meth c H locs cells slots Q (F0 m pc ls st0) := by
  have hF := rw_free (σ := σ) hD hS hA
  refine va_calli (va_runV (b := ad r) (As := As) (rest := rest) ⟨hx, hb, hml, hown, hts⟩ (hM H.size) (cwV na hts hG hw hz.1 hz.2 hd hR) ⟨PreW.blind, va_recv hK hP hc (rw_get hr he), PreW.at hK hP hD⟩ rfl hlen hls hst (lv_room hW) hdg hcs) hS (fun q _ h => hF q h) hF (fun v τ t H1 locs1 ht hvm hw hB hz1 hk1 hS1 => ?_)
  exact kk v τ H1 locs1 hw (by rw [← ht]; exact hB) (lc_o hO hne hk1) hS1
theorem lc_Y {post : Int32 → Bool → (Nat → Nat → Int32) → Prop} (hx : p.tables.exec = Jvm.exec) (hb : c.code = cc) (hml : c.maxLocals = nL) (hown : s.vm.findClass own = some m.cls) (hts : ∀ w ∈ Ts, w.before args s = true) (hK : va_K D classes (tysW cy) s) (hA : ∀ q : Nat, s.heap.size ≤ q → A q) (hD : ∀ τ, va_D A (rw_ 109 ad (cfX ad cy y z) τ)) (hP : va_P D classes (rw_ 109 ad (cfX ad cy y z) σ) H) (hO : va_P D classes (rw_ n2 ad2 cf2 σ2) H) (hne : ∀ r r2, r < 109 → r2 < n2 → ad r ≠ ad2 r2) (hS : va_S A s.heap H locs) (hls : ls.size = nL)
    (As : List Value) (hM : MIy l D cy ad y z yn ws rm σ (.ref (ad 0) :: As) post)
    (hG : GoodIn Ts (wsV own index RX8 yn ws)) (hw : ws = Cond.code yn bytes maxL (some ty) :: ws') (hd : yn.cls = RX8 ∧ yn.cls ≠ "java/lang/invoke/MethodHandle" ∧ yn.cls ≠ "java/lang/invoke/VarHandle" ∧ (parseMethodDescriptor yn.desc).map (fun d => d.parameters.length) = some na) (hlen : As.length = na) (hR : rm.frames + 1 ≤ R.frames ∧ 8 + (maxL + 11) + rm.locals ≤ R.locals) (hz : rm.cells = 0 ∧ rm.slots = 0) (hcs : cells ≤ R.cells ∧ slots ≤ R.slots)
    {st0 : List Value} (hst : st0 = As.reverse ++ .ref (ad 0) :: rest) (hW : (rest.map fun v => v.category).sum ≤ 8) (hdg : decode cc pc = .ok (.invokevirtual index, 3))
    (kk : ∀ (v : Int32) (b : Bool) (τ : Nat → Nat → Int32) (H1 : Heap) (locs1 : List Loc), post v b τ → va_P D classes (rw_ 109 ad (cfX ad cy (if b then z else y) (if b then y else z)) τ) H1 → va_P D classes (rw_ n2 ad2 cf2 σ2) H1 → va_S A s.heap H1 locs1 → W p l e R s m args below meth c H1 locs1 cells slots Q (F0 m (pc + 3) ls (.int v :: rest))) : W p l e R s m args below meth c H locs cells slots Q (F0 m pc ls st0) := by
  have hF := rw_free (σ := σ) hD hS hA
  refine va_calli (va_runV (b := ad 0) (As := As) (rest := rest) ⟨hx, hb, hml, hown, hts⟩ (hM H.size) (cwV na hts hG hw hz.1 hz.2 hd hR) ⟨PreW.blind, va_recv hK hP (ci := 8) rfl (rw_get (by decide) (kX8 _)), PreW.at hK hP hD⟩ rfl hlen hls hst (lv_room hW) hdg hcs) hS (fun q _ h => hF q h) hF (fun v u t H1 locs1 ht hvm hw hB hz1 hk1 hS1 => ?_)
  exact kk v u.1 u.2 H1 locs1 hw (by rw [← ht]; exact hB) (lc_o hO hne hk1) hS1
end LC
abbrev lA (s : State) : Nat → Prop := fun q => s.heap.size ≤ q
def lwE (p : Program) (s : State) (m : MethodId) (c : Code) (b L : Nat) (xs : Nat → Int32) (D : va_G) (cy : Nat → ClassId) (ad ad2 : Nat → Nat) : Prop :=
  p.tables.exec = Jvm.exec ∧ c.code = cL_law ∧ c.maxLocals = 4 ∧ s.vm.findClass RL = some m.cls ∧ (∀ w ∈ wsL_law, w.before #[Value.ref b] s = true) ∧ va_K D classes (tysW cy) s ∧ va_X b L xs s s.heap ∧ b < s.heap.size ∧ (∀ (y z : Nat) (τ : Nat → Nat → Int32), va_D (lA s) (rw_ 109 ad (cfX ad cy y z) τ)) ∧ (∀ τ : Nat → Nat → Int32, va_D (lA s) (rw_ 19 ad2 (cfM ad2 cy) τ)) ∧ (∀ r r2, r < 109 → r2 < 19 → ad r ≠ ad2 r2) ∧ L ≤ 256
def lwK (p : Program) (l : Launch) (e : Env) (s : State) (m : MethodId) (b : Nat) (below : List Frame) (meth : Method) (c : Code) (D : va_G) (cy : Nat → ClassId) (ad ad2 : Nat → Nat) (x3 : Int32) : Prop :=
  ∀ (y z : Nat) (σ μ : Nat → Nat → Int32) (H : Heap) (locs : List Loc) (ls : Array Slot), Rel y z σ μ → va_P D classes (rw_ 109 ad (cfX ad cy y z) σ) H → va_P D classes (rw_ 19 ad2 (cfM ad2 cy) μ) H → va_S (lA s) s.heap H locs → lv_has ls 4 [(0, .ref b), (1, .ref (ad 0)), (2, .ref (ad2 0)), (3, .int x3)] → W p l e room_1 s m #[Value.ref b] below meth c H locs 128 1954 (lw_Z below #[Value.ref b] s) (F0 m 916 ls [])
theorem i_in {L j : Nat} {x3 : Int32} (d : Nat) (hd : d < 4) (hL : L ≤ 256) (hj : 4 * j + 4 ≤ L) (ex : x3 = nI (4 * j)) : vp_in (x3 + nI d) L := by
  rw [ex, nI_add]; exact vp_in_nI (by omega) (by omega)
theorem i_end {L j : Nat} (hL : L ≤ 256) (hj : 4 * j ≤ L) (h : ¬ nI L - 4 < nI (4 * j)) : 4 * j + 4 ≤ L := by
  rw [Int32.lt_iff_toInt_lt, show (4 : Int32) = nI 4 from rfl, pk_sub_toInt (by omega) (by omega), nI_toInt (by omega)] at h
  omega
