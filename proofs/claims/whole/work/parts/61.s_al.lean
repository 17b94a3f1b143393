-- alone
section AL
/-- what is wet, and the level, when nothing more can be drawn -/
def alE (b w a : Nat) : Nat → Nat → Nat → Nat
  | 0, e, _ => e
  | f + 1, e, lv => if dwN b w e a lv = 0 then e else alE b w a f (e + dwN b w e a lv / b) (lv - dwN b w e a lv)
def alL (b w a : Nat) : Nat → Nat → Nat → Nat
  | 0, _, lv => lv
  | f + 1, e, lv => if dwN b w e a lv = 0 then lv else alL b w a f (e + dwN b w e a lv / b) (lv - dwN b w e a lv)
theorem alE_z {b w a f e lv : Nat} (h : dwN b w e a lv = 0) : alE b w a f e lv = e := by
  cases f with
  | zero => rfl
  | succ f => rw [alE, if_pos h]
theorem alL_z {b w a f e lv : Nat} (h : dwN b w e a lv = 0) : alL b w a f e lv = lv := by
  cases f with
  | zero => rfl
  | succ f => rw [alL, if_pos h]
theorem alE_s {b w a f e lv : Nat} (h : 0 < dwN b w e a lv) : alE b w a (f + 1) e lv = alE b w a f (e + dwN b w e a lv / b) (lv - dwN b w e a lv) := by rw [alE, if_neg (by omega)]
theorem alL_s {b w a f e lv : Nat} (h : 0 < dwN b w e a lv) : alL b w a (f + 1) e lv = alL b w a f (e + dwN b w e a lv / b) (lv - dwN b w e a lv) := by rw [alL, if_neg (by omega)]
/-- nights, from the j-th on -/
def anN (b w a sp : Nat) : Nat → Nat → Nat → Nat → Nat → Int32
  | 0, _, _, _, _ => -1
  | g + 1, j, e, lv, rn => if alE b w a 20 e lv = w then nI j else anN b w a sp g (j + 1) (alE b w a 20 e lv) (min (alL b w a 20 e lv + sp + rn) 99) (rn / 2)
def aloneN (ow wt ar N : Nat → Int32) (sp : Int32) (p s : Nat) : Int32 := anN (byN (ow s) p) (wt s).toNatClampNeg (ar p).toNatClampNeg sp.toNatClampNeg 61 0 (N s).toNatClampNeg (N 12).toNatClampNeg (N 13).toNatClampNeg
theorem aloneN_e {ow wt ar N : Nat → Int32} {sp : Int32} {p s w a sp1 e lv rn : Nat} (h1 : wt s = nI w) (h2 : ar p = nI a) (h3 : sp = nI sp1) (h4 : N s = nI e) (h5 : N 12 = nI lv) (h6 : N 13 = nI rn) (b1 : w < 1000) (b2 : a < 1000) (b3 : sp1 < 1000) (b4 : e < 1000) (b5 : lv < 1000) (b6 : rn < 1000) : aloneN ow wt ar N sp (nI p).toNatClampNeg (nI s).toNatClampNeg = anN (byN (ow (nI s).toNatClampNeg) (nI p).toNatClampNeg) w a sp1 61 0 e lv rn ∨ ¬ (p < 1000 ∧ s < 1000) := by
  by_cases q : p < 1000 ∧ s < 1000
  · left
    unfold aloneN
    rw [nI_clamp (n := p) (by omega), nI_clamp (n := s) (by omega), h1, h2, h3, h4, h5, h6, nI_clamp (by omega), nI_clamp (by omega), nI_clamp (by omega), nI_clamp (by omega), nI_clamp (by omega), nI_clamp (by omega)]
  · exact Or.inr q
theorem aloneN_f {ow wt ar N : Nat → Int32} {sp : Int32} {p s w a sp1 e lv rn : Nat} (hp : p < 1000) (hs : s < 1000) (h1 : wt s = nI w) (h2 : ar p = nI a) (h3 : sp = nI sp1) (h4 : N s = nI e) (h5 : N 12 = nI lv) (h6 : N 13 = nI rn) (b1 : w < 1000) (b2 : a < 1000) (b3 : sp1 < 1000) (b4 : e < 1000) (b5 : lv < 1000) (b6 : rn < 1000) : aloneN ow wt ar N sp (nI p).toNatClampNeg (nI s).toNatClampNeg = anN (byN (ow s) p) w a sp1 61 0 e lv rn := by
  unfold aloneN
  rw [nI_clamp (n := p) (by omega), nI_clamp (n := s) (by omega), h1, h2, h3, h4, h5, h6, nI_clamp (by omega), nI_clamp (by omega), nI_clamp (by omega), nI_clamp (by omega), nI_clamp (by omega), nI_clamp (by omega)]
/-- the class's pouring again and again, its rows -/
def naO (ar ow wt : Nat → Int32) (p s : Nat) : Nat → (Nat → Int32) → (Nat → Int32) → Nat → Int32
  | 0, O, _ => O
  | f + 1, O, V => if R_X6_drawable ar ow wt O V p s ≤ 0 then O else naO ar ow wt p s f (T_X6_pourOn_O ar ow wt O V p s) (T_X6_pourOn_V ar ow wt O V p s)
def naV (ar ow wt : Nat → Int32) (p s : Nat) : Nat → (Nat → Int32) → (Nat → Int32) → Nat → Int32
  | 0, _, V => V
  | f + 1, O, V => if R_X6_drawable ar ow wt O V p s ≤ 0 then V else naV ar ow wt p s f (T_X6_pourOn_O ar ow wt O V p s) (T_X6_pourOn_V ar ow wt O V p s)
def naR (ar ow wt : Nat → Int32) (sp : Int32) (p s : Nat) : Nat → Nat → (Nat → Int32) → (Nat → Int32) → Int32
  | 0, _, _, _ => -1
  | g + 1, j, O, V => if hasB (naO ar ow wt p s 20 O V 4) (nI s) then nI j else naR ar ow wt sp p s g (j + 1) (T_X6_passNight_O (naO ar ow wt p s 20 O V) sp) (naV ar ow wt p s 20 O V)
def naA (ar ow wt : Nat → Int32) (sp : Int32) (p s : Nat) : Nat → Nat → (Nat → Int32) → (Nat → Int32) → Nat → Int32
  | 0, _, O, _ => O
  | g + 1, j, O, V => if hasB (naO ar ow wt p s 20 O V 4) (nI s) then naO ar ow wt p s 20 O V else naA ar ow wt sp p s g (j + 1) (T_X6_passNight_O (naO ar ow wt p s 20 O V) sp) (naV ar ow wt p s 20 O V)
def naB (ar ow wt : Nat → Int32) (sp : Int32) (p s : Nat) : Nat → Nat → (Nat → Int32) → (Nat → Int32) → Nat → Int32
  | 0, _, _, V => V
  | g + 1, j, O, V => if hasB (naO ar ow wt p s 20 O V 4) (nI s) then naV ar ow wt p s 20 O V else naB ar ow wt sp p s g (j + 1) (T_X6_passNight_O (naO ar ow wt p s 20 O V) sp) (naV ar ow wt p s 20 O V)
def nfR (ar ow wt O V : Nat → Int32) (sp : Int32) (p s : Nat) : Int32 := if hasB (O 4) (nI s) then (-1) else naR ar ow wt sp p s 61 0 O V
def nfO (ar ow wt O V : Nat → Int32) (sp : Int32) (p s : Nat) : Nat → Int32 := if hasB (O 4) (nI s) then O else naA ar ow wt sp p s 61 0 O V
def nfV (ar ow wt O V : Nat → Int32) (sp : Int32) (p s : Nat) : Nat → Int32 := if hasB (O 4) (nI s) then V else naB ar ow wt sp p s 61 0 O V
variable {ar ow wt O V : Nat → Int32} {sp : Int32} {p s f g j : Nat}
theorem naO_t (h : R_X6_drawable ar ow wt O V p s ≤ 0) : naO ar ow wt p s f O V = O := by
  cases f with
  | zero => rfl
  | succ f => rw [naO, if_pos h]
theorem naV_t (h : R_X6_drawable ar ow wt O V p s ≤ 0) : naV ar ow wt p s f O V = V := by
  cases f with
  | zero => rfl
  | succ f => rw [naV, if_pos h]
theorem naO_s (h : ¬ R_X6_drawable ar ow wt O V p s ≤ 0) : naO ar ow wt p s (f + 1) O V = naO ar ow wt p s f (T_X6_pourOn_O ar ow wt O V p s) (T_X6_pourOn_V ar ow wt O V p s) := by rw [naO, if_neg h]
theorem naV_s (h : ¬ R_X6_drawable ar ow wt O V p s ≤ 0) : naV ar ow wt p s (f + 1) O V = naV ar ow wt p s f (T_X6_pourOn_O ar ow wt O V p s) (T_X6_pourOn_V ar ow wt O V p s) := by rw [naV, if_neg h]
theorem le0 {d : Nat} (hd : d < 1000) (h : nI d ≤ 0) : d = 0 := by
  rcases Nat.eq_zero_or_pos d with q | q
  · exact q
  · exact absurd h (nI_nle q (by omega))
theorem hasB_or {x y : Int32} (hs : s < 32) : hasB (x ||| y) (nI s) ↔ hasB x (nI s) ∨ hasB y (nI s) := by
  rw [hasB_bt hs, hasB_bt hs, hasB_bt hs, b_or, Bool.or_eq_true]
theorem hasB_set (x : Int32) (hs : s < 32) : hasB (x ||| ((1 : Int32) <<< (nI s &&& 31))) (nI s) := by
  rw [hasB_or hs]; right
  rw [hasB_bt hs, b_one hs hs]; simp
section IN
variable {w a : Nat} (ha : ar p = nI a) (hw : wt s = nI w) (ha9 : a ≤ 9) (hw20 : w ≤ 20) (hs : s < 10)
/-- one pouring, in numbers -/
theorem po_num {e lv d : Nat} (h0 : O 0 = nI lv) (hV : V s = nI e) (hew : e < w) (hlv : lv ≤ 99) (hd : R_X6_drawable ar ow wt O V p s = nI d) (ed : d = dwN (byN (ow s) p) w e a lv) (d0 : 0 < d) (hw : wt s = nI w) (hw20 : w ≤ 20) :
    (e + d / byN (ow s) p < w → T_X6_pourOn_O ar ow wt O V p s = upd (upd O 0 (nI (lv - d))) 2 (O 2 + nI d) ∧ T_X6_pourOn_V ar ow wt O V p s = upd V s (nI (e + d / byN (ow s) p))) ∧ (¬ e + d / byN (ow s) p < w → T_X6_pourOn_O ar ow wt O V p s = upd (upd (upd O 0 (nI (lv - d))) 2 (O 2 + nI d)) 4 (O 4 ||| ((1 : Int32) <<< ((nI s) &&& 31)))) := by
  have hdl : d ≤ lv := by rw [ed]; exact dwN_lv _ _ _ _ _
  have q1 : ¬ R_X6_drawable ar ow wt O V p s = 0 := by rw [hd]; exact nI_ne0 d0 (by omega)
  unfold T_X6_pourOn_O T_X6_pourOn_V byN
  rw [if_neg q1, if_neg q1]
  by_cases c : ow s = nI p
  · rw [if_pos c, if_pos c, if_pos c, hd, hV, hw, h0, pk_sub hdl, nI_add, Nat.div_one]
    refine ⟨fun h => ?_, fun h => ?_⟩
    · rw [if_pos (nI_lt h (by omega)), if_pos (nI_lt h (by omega))]; exact ⟨rfl, rfl⟩
    · rw [if_neg (nI_nlt (by omega) (by omega))]
  · rw [if_neg c, if_neg c, if_neg c, hd, hV, hw, h0, pk_sub hdl, nI_d2 (by omega), nI_add]
    refine ⟨fun h => ?_, fun h => ?_⟩
    · rw [if_pos (nI_lt h (by omega)), if_pos (nI_lt h (by omega))]; exact ⟨rfl, rfl⟩
    · rw [if_neg (nI_nlt (by omega) (by omega))]
theorem na_in (ha : ar p = nI a) (hw : wt s = nI w) (ha9 : a ≤ 9) (hw20 : w ≤ 20) (hs : s < 10) : ∀ (f e lv : Nat) (O V : Nat → Int32), O 0 = nI lv → V s = nI e → e < w → lv ≤ 99 → ¬ hasB (O 4 ||| O 5) (nI s) → w ≤ e + f →
    (naO ar ow wt p s f O V 1 = O 1 ∧ naO ar ow wt p s f O V 5 = O 5) ∧ ((alE (byN (ow s) p) w a f e lv = w ∧ hasB (naO ar ow wt p s f O V 4) (nI s)) ∨ (alE (byN (ow s) p) w a f e lv < w ∧ ¬ hasB (naO ar ow wt p s f O V 4 ||| naO ar ow wt p s f O V 5) (nI s) ∧ naV ar ow wt p s f O V s = nI (alE (byN (ow s) p) w a f e lv) ∧ naO ar ow wt p s f O V 0 = nI (alL (byN (ow s) p) w a f e lv) ∧ alL (byN (ow s) p) w a f e lv ≤ 99)) := by
  intro f
  induction f with
  | zero => intro e lv O V _ _ h1 _ _ h2; omega
  | succ f ih =>
    intro e lv O V h0 hV hew hlv hB hf
    have hd := drw_X (ow := ow) ha hw hV h0 hB ha9 hw20 (by omega) hlv
    have hb := byN_12 (ow s) p
    have hd1 := dwN_lv (byN (ow s) p) w e a lv
    have hd2 := dwN_e (b := byN (ow s) p) (w := w) (e := e) (a := a) (lv := lv) hb
    have hd3 := @dwN_p (byN (ow s) p) w e a lv hb
    by_cases d0 : dwN (byN (ow s) p) w e a lv = 0
    · have z : R_X6_drawable ar ow wt O V p s ≤ 0 := by rw [hd, d0]; decide
      rw [naO_t z, naV_t z, alE_z d0, alL_z d0]
      exact ⟨⟨rfl, rfl⟩, Or.inr ⟨hew, hB, hV, h0, hlv⟩⟩
    · have dp : 0 < dwN (byN (ow s) p) w e a lv := by omega
      have z : ¬ R_X6_drawable ar ow wt O V p s ≤ 0 := by rw [hd]; exact nI_nle dp (by omega)
      have h1 := hd3 dp
      obtain ⟨P1, P2⟩ := po_num h0 hV hew hlv hd rfl dp hw hw20
      rw [naO_s z, naV_s z, alE_s dp, alL_s dp]
      generalize dwN (byN (ow s) p) w e a lv = d at *
      by_cases full : e + d / byN (ow s) p < w
      · obtain ⟨e1, e2⟩ := P1 full
        rw [e1, e2]
        obtain ⟨⟨r1, r2⟩, r3⟩ := ih (e + d / byN (ow s) p) (lv - d) (upd (upd O 0 (nI (lv - d))) 2 (O 2 + nI d)) (upd V s (nI (e + d / byN (ow s) p))) rfl (upd_eq _ _ _) full (by omega) hB (by omega)
        exact ⟨⟨r1, r2⟩, r3⟩
      · have e1 := P2 full
        have ew : e + d / byN (ow s) p = w := by omega
        have hz : hasB (T_X6_pourOn_O ar ow wt O V p s 4) (nI s) := by rw [e1]; exact hasB_set (O 4) (by omega)
        have z2 : R_X6_drawable ar ow wt (T_X6_pourOn_O ar ow wt O V p s) (T_X6_pourOn_V ar ow wt O V p s) p s ≤ 0 := by
          unfold R_X6_drawable; rw [if_pos ((hasB_or (by omega)).mpr (Or.inl hz))]; decide
        rw [naO_t z2, naV_t z2, ew]
        have w0 : dwN (byN (ow s) p) w w a (lv - d) = 0 := by unfold dwN; rw [Nat.sub_self, Nat.mul_zero]; simp
        rw [alE_z w0, alL_z w0]
        refine ⟨⟨?_, ?_⟩, Or.inl ⟨rfl, hz⟩⟩
        · rw [e1]; rfl
        · rw [e1]; rfl
theorem na_out {sp1 : Nat} (ha : ar p = nI a) (hw : wt s = nI w) (ha9 : a ≤ 9) (hw20 : w ≤ 20) (hs : s < 10) (hsp : sp = nI sp1) (hsp20 : sp1 ≤ 20) : ∀ (g j e lv rn : Nat) (O V : Nat → Int32), O 0 = nI lv → O 1 = nI rn → V s = nI e → e < w → lv ≤ 99 → rn ≤ 99 → ¬ hasB (O 4 ||| O 5) (nI s) → naR ar ow wt sp p s g j O V = anN (byN (ow s) p) w a sp1 g j e lv rn := by
  intro g
  induction g with
  | zero => intro j e lv rn O V _ _ _ _ _ _ _; rfl
  | succ g ih =>
    intro j e lv rn O V h0 h1 hV hew hlv hrn hB
    obtain ⟨⟨r1, r2⟩, r3⟩ := na_in (ow := ow) ha hw ha9 hw20 hs 20 e lv O V h0 hV hew hlv hB (by omega)
    unfold naR anN
    rcases r3 with ⟨q1, q2⟩ | ⟨q1, q2, q3, q4, q5⟩
    · rw [if_pos q2, if_pos q1]
    · rw [if_neg (fun q => q2 ((hasB_or (by omega)).mpr (Or.inl q))), if_neg (by omega)]
      refine ih (j + 1) _ _ (rn / 2) _ _ ?_ ?_ q3 q1 (by omega) (by omega) ?_
      · show (if 99 < (((naO ar ow wt p s 20 O V 0) + sp) + (naO ar ow wt p s 20 O V 1)) then 99 else (((naO ar ow wt p s 20 O V 0) + sp) + (naO ar ow wt p s 20 O V 1))) = _
        rw [q4, r1, h1, hsp, nI_add, nI_add]
        exact (fill_e (by omega)).1
      · show naO ar ow wt p s 20 O V 1 / 2 = _
        rw [r1, h1]; exact nI_d2 (by omega)
      · exact q2
theorem na_vow (hs : s < 10) : ∀ (g j : Nat) (O V : Nat → Int32), hasB (O 5) (nI s) → ¬ hasB (O 4) (nI s) → naR ar ow wt sp p s g j O V = -1 := by
  intro g
  induction g with
  | zero => intro j O V _ _; rfl
  | succ g ih =>
    intro j O V h5 h4
    have z : R_X6_drawable ar ow wt O V p s ≤ 0 := by
      unfold R_X6_drawable; rw [if_pos ((hasB_or (by omega)).mpr (Or.inr h5))]; decide
    unfold naR
    rw [naO_t z, if_neg h4]
    exact ih (j + 1) _ _ h5 h4
end IN
end AL
