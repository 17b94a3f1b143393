-- worlds side by side, and what a constructor makes
section SB
variable {D : va_G} {cl : List vw_C} {A : Nat → Prop} {wa wb w1 : va_W} {H H1 : Heap}
theorem sb_al {i : Nat} {p : Nat × va_E} (hi : wa[i]? = some p) : (wa ++ wb)[i]? = some p := by
  rw [List.getElem?_append_left (List.getElem?_eq_some_iff.mp hi).1]; exact hi
theorem sb_ar {i : Nat} {p : Nat × va_E} (hi : wb[i]? = some p) : (wa ++ wb)[wa.length + i]? = some p := by
  rw [List.getElem?_append_right (by omega), Nat.add_sub_cancel_left]; exact hi
theorem sb_l (h : va_P D cl (wa ++ wb) H) : va_P D cl wa H := fun k q hk => h k q (sb_al hk)
theorem sb_r (h : va_P D cl (wa ++ wb) H) : va_P D cl wb H := fun k q hk => h (wa.length + k) q (sb_ar hk)
theorem sd_l (h : va_D A (wa ++ wb)) : va_D A wa := ⟨fun i j p q hi hj e => h.1 i j p q (sb_al hi) (sb_al hj) e, fun k q hk => h.2 k q (sb_al hk)⟩
theorem sd_r (h : va_D A (wa ++ wb)) : va_D A wb := ⟨fun i j p q hi hj e => by
  have := h.1 (wa.length + i) (wa.length + j) p q (sb_ar hi) (sb_ar hj) e
  omega, fun k q hk => h.2 (wa.length + k) q (sb_ar hk)⟩
theorem sd_x (h : va_D A (wa ++ wb)) {i j : Nat} {p q : Nat × va_E} (hi : wa[i]? = some p) (hj : wb[j]? = some q) : p.1 ≠ q.1 := fun e => by
  have h1 := h.1 i (wa.length + j) p q (sb_al hi) (sb_ar hj) e
  have h2 := (List.getElem?_eq_some_iff.mp hi).1
  omega
theorem sb_f {H0 : Heap} {locs : List Loc} (hD : va_D A (wa ++ wb)) (hS : va_S A H0 H locs) (hA : ∀ q : Nat, H0.size ≤ q → A q) : ∀ q, va_A wb H.size q → A q := fun q h => by
  rcases h with ⟨k, e, h⟩ | h
  · exact (sd_r hD).2 k (q, e) h
  · exact hA q (Nat.le_trans hS.1 h)
theorem sb_j (hP : va_P D cl (wa ++ wb) H) (hD : va_D A (wa ++ wb)) (hk : ∀ q : Nat, q < H.size → ¬ va_A wb H.size q → H1[q]? = H[q]?) (hF : ∀ q, va_A wb H.size q → A q) (hP1 : va_P D cl w1 H1) (hD1 : va_D (va_A wb H.size) w1) : va_P D cl (wa ++ w1) H1 ∧ va_D A (wa ++ w1) := by
  have ap : ∀ (k : Nat) (q : Nat × va_E), wa[k]? = some q → q.1 < H.size ∧ ¬ va_A wb H.size q.1 := by
    intro k q hq
    have hl := (sb_l hP k q hq).lt
    refine ⟨hl, fun h => ?_⟩
    rcases h with ⟨k2, e, h⟩ | h
    · exact sd_x hD hq h rfl
    · omega
  exact ⟨((sb_l hP).kept (fun k q hq => hk q.1 (ap k q hq).1 (ap k q hq).2)).app hP1, (sd_l hD).app (hD1.weaken (fun k q _ h => hF q.1 h)) (fun i j p q hp hq e => (ap i p hp).2 (by rw [e]; exact hD1.2 j q hq))⟩
end SB
/-- what the tables say beside the words: arrays of wells, constructors of nest mates -/
def NB (U : State) : Prop := va_AO "UnsaidWell$Well" U ∧ va_Nw (.methodLinkNest RX8 9 yX4_init RX8) U ∧ va_Nw (.methodLinkNest RX8 18 yX7_init RX8) U ∧ va_Nw (.methodLinkNest RX8 28 yX6_init RX8) U ∧ va_Nw (.methodLinkNest RX3 17 yX6_init RX8) U ∧ va_Nw (.methodLinkNest RX8 45 yX0_init RX8) U ∧ va_Nw (.methodLinkNest RX8 52 yX1_init RX8) U ∧ va_Nw (.methodLinkNest RX2 25 yX6_init RX8) U ∧ va_Nw (.methodLinkNest RX8 66 yX5_init RX8) U
theorem NB.warm {s U : State} (hW : s.WarmedH U.vm) (h : NB s) : NB U := by
  obtain ⟨h0, h1, h2, h3, h4, h5, h6, h7, h8⟩ := h
  exact ⟨va_AO.moved hW.alike h0, va_Nw.warmM hW h1, va_Nw.warmM hW h2, va_Nw.warmM hW h3, va_Nw.warmM hW h4, va_Nw.warmM hW h5, va_Nw.warmM hW h6, va_Nw.warmM hW h7, va_Nw.warmM hW h8⟩
theorem NB.same {s U : State} (hv : s.vm = U.vm) (h : NB s) : NB U := by
  obtain ⟨h0, h1, h2, h3, h4, h5, h6, h7, h8⟩ := h
  exact ⟨va_AO.moved (by rw [hv]; exact Vm.Alike.refl _) h0, va_Nw.same rfl hv h1, va_Nw.same rfl hv h2, va_Nw.same rfl hv h3, va_Nw.same rfl hv h4, va_Nw.same rfl hv h5, va_Nw.same rfl hv h6, va_Nw.same rfl hv h7, va_Nw.same rfl hv h8⟩
def PreC (D : va_G) (cy : Nat → ClassId) (ws : va_W) (sz : Nat) (U : State) : Prop := U.heap.size = sz ∧ va_P D classes ws U.heap ∧ va_K D classes (tysW cy) U ∧ va_D (fun _ => True) ws ∧ NB U
/-- a constructor -/
def MC (l : Launch) (D : va_G) (cy : Nat → ClassId) (y : MethodName) (ws : List Cond) (rm : Room) (h0 : Nat) (e0 : va_E) (mc ms : Nat) (post : va_W → Prop) : Prop :=
  ∀ sz : Nat, Met l y ws rm (va_Pc [.ref h0] (PreC D cy [(h0, e0)] sz)) (va_Qv post (fun (u : va_W) t => va_P D classes u t.heap ∧ va_D (va_A [(h0, e0)] sz) u) (va_A [(h0, e0)] sz)) mc ms (va_A [(h0, e0)] sz)
theorem MC.go {l : Launch} {D : va_G} {cy : Nat → ClassId} {y : MethodName} {ws ws' : List Cond} {rm : Room} {h0 : Nat} {e0 : va_E} {mc ms : Nat} {post : va_W → Prop} {cc : ByteArray} {maxL : Nat} (hy : plainName y.cls = true) (hyn : y.name = "<init>") (hw : ws = Cond.code y cc maxL none :: ws') (hv : (lg_sl [Value.ref h0]).length ≤ maxL)
    (body : ∀ (p : Program) (e : Env) (s : State) (m : MethodId) (args : Array Value) (below : List Frame) (meth : Method) (c : Code) (A : Nat → Prop) (Q : State → Prop) (ls : Array Slot), p.tables.exec = Jvm.exec → c.code = cc → c.maxLocals = maxL → meth.name = "<init>" → s.vm.findClass y.cls = some m.cls → (∀ w ∈ ws, w.before args s = true) → va_K D classes (tysW cy) s → NB s → (∀ q : Nat, s.heap.size ≤ q → A q) → va_D A [(h0, e0)] → va_P D classes [(h0, e0)] s.heap → va_S A s.heap s.heap [] → lv_has ls maxL [(0, .ref h0)] →
      (∀ {H : Heap} {locs : List Loc} {pc : Nat} {ls : Array Slot} {u : va_W}, va_P D classes u H → va_D A u → va_S A s.heap H locs → decode cc pc = .ok (.return_, 1) → post u → W p l e rm s m args below meth c H locs mc ms Q (F0 m pc ls [])) →
      W p l e rm s m args below meth c s.heap [] 0 0 Q (F0 m 0 ls [])) : MC l D cy y ws rm h0 e0 mc ms post := by
  intro sz
  refine Met.ofW (cc := cc) (maxL := maxL) (ret := none) hy hw ?_
  intro p e s m args below meth c s₁ B hml hv0
  obtain ⟨rfl, hsz, hP, hK, hD0, hN⟩ := hv0
  subst hsz
  have hD := hD0.self (sz := s.heap.size)
  have hl := lv_entry [Value.ref h0] (n := maxL) hv
  rw [lg_entry_eq]
  have hin : meth.name = "<init>" := by rw [← hyn]; exact (name_of_methodNamed B.named B.method).1
  refine body p e s m [Value.ref h0].toArray below meth c (va_A [(h0, e0)] s.heap.size) _ _ B.exec B.bytes hml hin (findClass_of_methodNamed B.named) (atoms_spec (ws := ws) B.pre) hK hN (fun q h => Or.inr h) hD hP va_S.rf hl ?_
  intro H locs pc ls u hP hD hS hdg hpost
  have hlocks := B.notSynchronized
  exact W.vret B.exec B.bytes B.returns (fun t ht hW => ⟨⟨u, rfl, hpost, by rw [ht]; exact hP, hD⟩, hS.F ht⟩) hS.2.2 hdg
section CC
variable {p : Program} {l : Launch} {e : Env} {R : Room} {s : State} {m : MethodId} {args : Array Value} {below : List Frame} {meth : Method} {c : Code} {H : Heap} {locs : List Loc} {cells slots : Nat} {Q : State → Prop}
variable {cc : ByteArray} {pc : Nat} {ls : Array Slot} {rest : List Value} {D : va_G} {A : Nat → Prop} {cy : Nat → ClassId}
variable {Ts ws ws' : List Cond} {nL maxL index mc ms h1 : Nat} {own : String} {y : MethodName} {bytes : ByteArray} {rm : Room} {wr w : va_W} {e1 : va_E} {H0 : Heap}
theorem PreC.blind {vs : List Value} {sz : Nat} : FrameBlind (va_Pc vs (PreC D cy w sz)) := by
  intro a U g mk q
  obtain ⟨q0, q1, qP, qK, qD, qN⟩ := q
  exact ⟨q0, q1, qP, va_K.moved (u := U) (U := U.calling g mk a) (Vm.Alike.refl U.vm) qK, qD, NB.same (s := U) (U := U.calling g mk a) rfl qN⟩
theorem PreC.at {vs : List Value} (hK : va_K D classes (tysW cy) s) (hP : va_P D classes w H) (hD : va_D A w) (hN : NB s) : ∀ U : State, U.heap = H → s.WarmedH U.vm → va_Pc vs (PreC D cy w H.size) vs.toArray U := fun U hU hW => ⟨rfl, by rw [hU], by rw [hU]; exact hP, va_K.moved hW.alike hK, hD.weaken (fun _ _ _ _ => trivial), hN.warm hW⟩
/-- a call of a constructor on what was just made -/
theorem rp_callC {post : va_W → Prop} (hx : p.tables.exec = Jvm.exec) (hb : c.code = cc) (hml : c.maxLocals = nL) (hown : s.vm.findClass own = some m.cls) (hts : ∀ w ∈ Ts, w.before args s = true) (hK : va_K D classes (tysW cy) s) (hN : NB s) (hA : ∀ q : Nat, s.heap.size ≤ q → A q) (hD : va_D A (wr ++ [(h1, e1)])) (hP : va_P D classes (wr ++ [(h1, e1)]) H) (hS : va_S A s.heap H locs) (hls : ls.size = nL)
    (hM : MC l D cy y ws rm h1 e1 mc ms post) (hG : GoodIn Ts ws) (hw : ws = Cond.code y bytes maxL none :: ws') (hrc : rm.cells = mc ∧ rm.slots = ms) (hini : Cond.initialized y.cls ∈ Ts) (hl : Cond.methodLink own index y ∈ Ts) (hin : Cond.instanceMethod y ∈ Ts) (hy1 : y.name = "<init>") (hd : y.cls ≠ "java/lang/invoke/MethodHandle" ∧ y.cls ≠ "java/lang/invoke/VarHandle" ∧ (parseMethodDescriptor y.desc).map (fun d => d.parameters.length) = some 0) (hR : rm.frames + 1 ≤ R.frames ∧ 8 + (maxL + 11) + rm.locals ≤ R.locals) (hcs : cells + mc ≤ R.cells ∧ slots + ms ≤ R.slots)
    (hW : (rest.map fun v => v.category).sum ≤ 8) (hdg : decode cc pc = .ok (.invokespecial index, 3))
    (kk : ∀ (u : va_W) (H1 : Heap) (locs1 : List Loc), post u → va_P D classes (wr ++ u) H1 → va_D A (wr ++ u) → va_S A s.heap H1 locs1 → W p l e R s m args below meth c H1 locs1 (cells + mc) (slots + ms) Q (F0 m (pc + 3) ls rest)) : W p l e R s m args below meth c H locs cells slots Q (F0 m pc ls (.ref h1 :: rest)) := by
  have hF := sb_f hD hS hA
  refine va_callv (va_runI (b := h1) (As := []) (rest := rest) ⟨hx, hb, hml, hown, hts⟩ (hM H.size) (cwI 0 hts hG hw hrc.1 hrc.2 (hts _ hini) (hts _ hl) (hts _ hin) hy1 hd hR) ⟨PreC.blind, PreC.at hK (sb_r hP) (sd_r hD) hN⟩ rfl rfl hls rfl (lv_room hW) hdg hcs) hS (fun q _ h => hF q h) hF (fun u t H1 locs1 ht hvm hw hB hz1 hk1 hS1 => ?_)
  obtain ⟨hP1, hD1⟩ := hB
  rw [ht] at hP1
  obtain ⟨hP2, hD2⟩ := sb_j hP hD hk1 hF hP1 hD1
  exact kk u H1 locs1 hw hP2 hD2 hS1
/-- .. of a nest mate -/
theorem rp_callN {post : va_W → Prop} (hx : p.tables.exec = Jvm.exec) (hb : c.code = cc) (hml : c.maxLocals = nL) (hown : s.vm.findClass own = some m.cls) (hts : ∀ w ∈ Ts, w.before args s = true) (hK : va_K D classes (tysW cy) s) (hN : NB s) (hA : ∀ q : Nat, s.heap.size ≤ q → A q) (hD : va_D A (wr ++ [(h1, e1)])) (hP : va_P D classes (wr ++ [(h1, e1)]) H) (hS : va_S A s.heap H locs) (hls : ls.size = nL)
    (hM : MC l D cy y ws rm h1 e1 mc ms post) (hG : GoodIn Ts ws) (hw : ws = Cond.code y bytes maxL none :: ws') (hrc : rm.cells = mc ∧ rm.slots = ms) (hini : Cond.initialized y.cls ∈ Ts) (hl : va_Nw (.methodLinkNest own index y RX8) s) (hin : Cond.instanceMethod y ∈ Ts) (hy1 : y.name = "<init>") (hd : y.cls ≠ "java/lang/invoke/MethodHandle" ∧ y.cls ≠ "java/lang/invoke/VarHandle" ∧ (parseMethodDescriptor y.desc).map (fun d => d.parameters.length) = some 0) (hR : rm.frames + 1 ≤ R.frames ∧ 8 + (maxL + 11) + rm.locals ≤ R.locals) (hcs : cells + mc ≤ R.cells ∧ slots + ms ≤ R.slots)
    (hW : (rest.map fun v => v.category).sum ≤ 8) (hdg : decode cc pc = .ok (.invokespecial index, 3))
    (kk : ∀ (u : va_W) (H1 : Heap) (locs1 : List Loc), post u → va_P D classes (wr ++ u) H1 → va_D A (wr ++ u) → va_S A s.heap H1 locs1 → W p l e R s m args below meth c H1 locs1 (cells + mc) (slots + ms) Q (F0 m (pc + 3) ls rest)) : W p l e R s m args below meth c H locs cells slots Q (F0 m pc ls (.ref h1 :: rest)) := by
  have hF := sb_f hD hS hA
  refine va_callv (va_runIN (host := RX8) (b := h1) (As := []) (rest := rest) ⟨hx, hb, hml, hown, hts⟩ (hM H.size) ⟨va_cnB 0 hts hG hw hrc.1 hrc.2 hl (hts _ hini) hd hR, hy1, hts _ hin⟩ ⟨PreC.blind, PreC.at hK (sb_r hP) (sd_r hD) hN⟩ rfl rfl hls rfl (lv_room hW) hdg hcs) hS (fun q _ h => hF q h) hF (fun u t H1 locs1 ht hvm hw hB hz1 hk1 hS1 => ?_)
  obtain ⟨hP1, hD1⟩ := hB
  rw [ht] at hP1
  obtain ⟨hP2, hD2⟩ := sb_j hP hD hk1 hF hP1 hD1
  exact kk u H1 locs1 hw hP2 hD2 hS1
theorem cy_i {cA : ClassId} (hK : va_K D classes (tysW cy) s) (h2 : va_K D classes (tysW cy ++ [(cA, .int)]) s) : cA = cy 0 := by
  have a : s.vm.findClass ("[" ++ FieldType.int.toString) = some (cy 0) := (hK.2 0 (cy 0, .int) rfl).2
  have b : s.vm.findClass ("[" ++ FieldType.int.toString) = some cA := (h2.2 3 (cA, .int) rfl).2
  exact Option.some.inj (b.symm.trans a)
theorem cy_z {cA : ClassId} (hK : va_K D classes (tysW cy) s) (h2 : va_K D classes (tysW cy ++ [(cA, .boolean)]) s) : cA = cy 1 := by
  have a : s.vm.findClass ("[" ++ FieldType.boolean.toString) = some (cy 1) := (hK.2 1 (cy 1, .boolean) rfl).2
  have b : s.vm.findClass ("[" ++ FieldType.boolean.toString) = some cA := (h2.2 3 (cA, .boolean) rfl).2
  exact Option.some.inj (b.symm.trans a)
theorem cy_q {cA : ClassId} (hK : va_K D classes (tysW cy) s) (h2 : va_K D classes (tysW cy ++ [(cA, .object "UnsaidWell$Well")]) s) : cA = cy 2 := by
  obtain ⟨_, _, _, _, _, a⟩ := (hK.2 2 (cy 2, .object "UnsaidWell$Well") rfl).2
  obtain ⟨_, _, _, _, _, b⟩ := (h2.2 3 (cA, .object "UnsaidWell$Well") rfl).2
  exact Option.some.inj (b.symm.trans a)
theorem rp_newI (hx : p.tables.exec = Jvm.exec) (hb : c.code = cc) (harr : (Cond.arrayClass .int).before args s = true) (hK : va_K D classes (tysW cy) s) (hP : va_P D classes w H) (hD : va_D A w) (hS : va_S A H0 H locs) (hA : ∀ q : Nat, H0.size ≤ q → A q) {n : Int32} {N' : Nat} (hn : ¬ n < 0) (hN : n.toNatClampNeg = N') (hbytes : N' * componentBytes .int ≤ 536870912) (hcells : cells + 1 ≤ R.cells) (hslots : slots + N' ≤ R.slots) (hdg : decode cc pc = .ok (.newarray .int, 2))
    (kk : ∀ (q : Nat) (H1 : Heap), va_P D classes (w ++ [(q, .inl (cy 0, N', .inl (fun _ => 0)))]) H1 → va_D A (w ++ [(q, .inl (cy 0, N', .inl (fun _ => 0)))]) → va_S A H0 H1 locs → W p l e R s m args below meth c H1 locs (cells + 1) (slots + N') Q (F0 m (pc + 2) ls (.ref q :: rest))) : W p l e R s m args below meth c H locs cells slots Q (F0 m pc ls (.int n :: rest)) := by
  refine va_newa (atype := .int) (ty := .int) (a0 := (N', .inl (fun _ => 0))) hx hb harr rfl hK hP hD hS hA (fun cA => rfl) hn hN hbytes hcells hslots hdg (fun q cA H1 hK2 hP1 hD1 hS1 => ?_)
  have e0 := cy_i hK hK2
  subst e0
  exact kk q H1 hP1 hD1 hS1
theorem rp_newZ (hx : p.tables.exec = Jvm.exec) (hb : c.code = cc) (harr : (Cond.arrayClass .boolean).before args s = true) (hK : va_K D classes (tysW cy) s) (hP : va_P D classes w H) (hD : va_D A w) (hS : va_S A H0 H locs) (hA : ∀ q : Nat, H0.size ≤ q → A q) {n : Int32} {N' : Nat} (hn : ¬ n < 0) (hN : n.toNatClampNeg = N') (hbytes : N' * componentBytes .boolean ≤ 536870912) (hcells : cells + 1 ≤ R.cells) (hslots : slots + N' ≤ R.slots) (hdg : decode cc pc = .ok (.newarray .boolean, 2))
    (kk : ∀ (q : Nat) (H1 : Heap), va_P D classes (w ++ [(q, .inl (cy 1, N', .inl (fun _ => 0)))]) H1 → va_D A (w ++ [(q, .inl (cy 1, N', .inl (fun _ => 0)))]) → va_S A H0 H1 locs → W p l e R s m args below meth c H1 locs (cells + 1) (slots + N') Q (F0 m (pc + 2) ls (.ref q :: rest))) : W p l e R s m args below meth c H locs cells slots Q (F0 m pc ls (.int n :: rest)) := by
  refine va_newa (atype := .boolean) (ty := .boolean) (a0 := (N', .inl (fun _ => 0))) hx hb harr rfl hK hP hD hS hA (fun cA => rfl) hn hN hbytes hcells hslots hdg (fun q cA H1 hK2 hP1 hD1 hS1 => ?_)
  have e0 := cy_z hK hK2
  subst e0
  exact kk q H1 hP1 hD1 hS1
theorem rp_newQ (hx : p.tables.exec = Jvm.exec) (hb : c.code = cc) (hown : s.vm.findClass own = some m.cls) (hcl : (Cond.classLink own index "UnsaidWell$Well").before args s = true) (hN : NB s) (hK : va_K D classes (tysW cy) s) (hP : va_P D classes w H) (hD : va_D A w) (hS : va_S A H0 H locs) (hA : ∀ q : Nat, H0.size ≤ q → A q) {n : Int32} {N' : Nat} (hn : ¬ n < 0) (hN' : n.toNatClampNeg = N') (hbytes : N' * 4 ≤ 536870912) (hcells : cells + 1 ≤ R.cells) (hslots : slots + N' ≤ R.slots) (hdg : decode cc pc = .ok (.anewarray index, 3))
    (kk : ∀ (q : Nat) (H1 : Heap), va_P D classes (w ++ [(q, .inl (cy 2, N', .inr (.inr (.inr (.inr (fun _ => none))))))]) H1 → va_D A (w ++ [(q, .inl (cy 2, N', .inr (.inr (.inr (.inr (fun _ => none))))))]) → va_S A H0 H1 locs → W p l e R s m args below meth c H1 locs (cells + 1) (slots + N') Q (F0 m (pc + 3) ls (.ref q :: rest))) : W p l e R s m args below meth c H locs cells slots Q (F0 m pc ls (.int n :: rest)) := by
  refine va_newq hx hb hown hcl hN.1 hK hP hD hS hA hn hN' hbytes hcells hslots hdg (fun q cA H1 hK2 hP1 hD1 hS1 => ?_)
  have e0 := cy_q hK hK2
  subst e0
  exact kk q H1 hP1 hD1 hS1
end CC
