/-! ===== the pictures: the law's graph, new; the class' object beside it ===== -/
section PWS
variable {F : Launch × (State → Prop)} {sz : Nat} {D : va_G} {cA : KA} {lit : Nat → Nat} {E : Nat → va_E}
abbrev gWo (F : Launch × (State → Prop)) (sz : Nat) (D : va_G) (cA : KA) (lit : Nat → Nat) : KG := (F, sz, D, cA, ad1 sz lit)
theorem EW_0 (G : KG) : EW G E 0 = .inr (15, oX12 G 1) := bld_o
theorem EW_A {G : KG} {i : Nat} {e : va_E} (h : (nX12 G 1)[i]? = some e) : EW G E (1 + i) = e := bld_at (by decide) h
/-- what a key of the law's graph tells -/
def entw (cA : KA) (ad : Nat → Nat) (k : Nat) : Option va_E := (shp k).map (entS cA ad (I0w, J0w) k)
theorem ew_0 : entw cA (ad1 sz lit) 1000 = some (EW (gWo F sz D cA lit) E 0) := (show entw cA (ad1 sz lit) 1000 = some (.inr (15, oX12 (gWo F sz D cA lit) 1)) from rfl).trans (congrArg some (EW_0 _).symm)
theorem ew_1 : entw cA (ad1 sz lit) 1001 = some (EW (gWo F sz D cA lit) E 1) := (show entw cA (ad1 sz lit) 1001 = some (rwE (gWo F sz D cA lit) 14) from rfl).trans (congrArg some (EW_A (i := 0) rfl).symm)
theorem ew_2 : entw cA (ad1 sz lit) 1002 = some (EW (gWo F sz D cA lit) E 2) := (show entw cA (ad1 sz lit) 1002 = some (rwE (gWo F sz D cA lit) 14) from rfl).trans (congrArg some (EW_A (i := 1) rfl).symm)
theorem ew_3 : entw cA (ad1 sz lit) 1003 = some (EW (gWo F sz D cA lit) E 3) := (show entw cA (ad1 sz lit) 1003 = some (rwE (gWo F sz D cA lit) 40) from rfl).trans (congrArg some (EW_A (i := 2) rfl).symm)
theorem ew_4 : entw cA (ad1 sz lit) 1004 = some (EW (gWo F sz D cA lit) E 4) := (show entw cA (ad1 sz lit) 1004 = some (rwE (gWo F sz D cA lit) 40) from rfl).trans (congrArg some (EW_A (i := 3) rfl).symm)
theorem ew_6 : entw cA (ad1 sz lit) 1006 = some (EW (gWo F sz D cA lit) E 6) := (show entw cA (ad1 sz lit) 1006 = some (rwE (gWo F sz D cA lit) 14) from rfl).trans (congrArg some (EW_A (i := 5) rfl).symm)
theorem ew_7 : entw cA (ad1 sz lit) 1007 = some (EW (gWo F sz D cA lit) E 7) := (show entw cA (ad1 sz lit) 1007 = some (rwE (gWo F sz D cA lit) 14) from rfl).trans (congrArg some (EW_A (i := 6) rfl).symm)
theorem ew_8 : entw cA (ad1 sz lit) 1008 = some (EW (gWo F sz D cA lit) E 8) := (show entw cA (ad1 sz lit) 1008 = some (rwE (gWo F sz D cA lit) 14) from rfl).trans (congrArg some (EW_A (i := 7) rfl).symm)
theorem ew_9 : entw cA (ad1 sz lit) 1009 = some (EW (gWo F sz D cA lit) E 9) := (show entw cA (ad1 sz lit) 1009 = some (rwE (gWo F sz D cA lit) 14) from rfl).trans (congrArg some (EW_A (i := 8) rfl).symm)
theorem ew_10 : entw cA (ad1 sz lit) 1010 = some (EW (gWo F sz D cA lit) E 10) := (show entw cA (ad1 sz lit) 1010 = some (rwE (gWo F sz D cA lit) 14) from rfl).trans (congrArg some (EW_A (i := 9) rfl).symm)
theorem ew_11 : entw cA (ad1 sz lit) 1011 = some (EW (gWo F sz D cA lit) E 11) := (show entw cA (ad1 sz lit) 1011 = some (rwE (gWo F sz D cA lit) 14) from rfl).trans (congrArg some (EW_A (i := 10) rfl).symm)
theorem ew_12 : entw cA (ad1 sz lit) 1012 = some (EW (gWo F sz D cA lit) E 12) := (show entw cA (ad1 sz lit) 1012 = some (rwE (gWo F sz D cA lit) 14) from rfl).trans (congrArg some (EW_A (i := 11) rfl).symm)
theorem ew_13 : entw cA (ad1 sz lit) 1013 = some (EW (gWo F sz D cA lit) E 13) := (show entw cA (ad1 sz lit) 1013 = some (rwE (gWo F sz D cA lit) 14) from rfl).trans (congrArg some (EW_A (i := 12) rfl).symm)
theorem ew_14 : entw cA (ad1 sz lit) 1014 = some (EW (gWo F sz D cA lit) E 14) := (show entw cA (ad1 sz lit) 1014 = some (rwE (gWo F sz D cA lit) 14) from rfl).trans (congrArg some (EW_A (i := 13) rfl).symm)
theorem ew_15 : entw cA (ad1 sz lit) 1015 = some (EW (gWo F sz D cA lit) E 15) := (show entw cA (ad1 sz lit) 1015 = some (rwE (gWo F sz D cA lit) 14) from rfl).trans (congrArg some (EW_A (i := 14) rfl).symm)
theorem ew_16 : entw cA (ad1 sz lit) 1016 = some (EW (gWo F sz D cA lit) E 16) := (show entw cA (ad1 sz lit) 1016 = some (rwE (gWo F sz D cA lit) 14) from rfl).trans (congrArg some (EW_A (i := 15) rfl).symm)
theorem ew_17 : entw cA (ad1 sz lit) 1017 = some (EW (gWo F sz D cA lit) E 17) := (show entw cA (ad1 sz lit) 1017 = some (rwE (gWo F sz D cA lit) 14) from rfl).trans (congrArg some (EW_A (i := 16) rfl).symm)
theorem ew_18 : entw cA (ad1 sz lit) 1018 = some (EW (gWo F sz D cA lit) E 18) := (show entw cA (ad1 sz lit) 1018 = some (rwE (gWo F sz D cA lit) 14) from rfl).trans (congrArg some (EW_A (i := 17) rfl).symm)
theorem ew_19 : entw cA (ad1 sz lit) 1019 = some (EW (gWo F sz D cA lit) E 19) := (show entw cA (ad1 sz lit) 1019 = some (rwE (gWo F sz D cA lit) 14) from rfl).trans (congrArg some (EW_A (i := 18) rfl).symm)
theorem ew_20 : entw cA (ad1 sz lit) 1020 = some (EW (gWo F sz D cA lit) E 20) := (show entw cA (ad1 sz lit) 1020 = some (.inr (2, oAL (gWo F sz D cA lit))) from rfl).trans (congrArg some (EW_A (i := 19) rfl).symm)
theorem ew_21 : entw cA (ad1 sz lit) 1021 = some (EW (gWo F sz D cA lit) E 21) := (show entw cA (ad1 sz lit) 1021 = some (.inr (2, oAL (gWo F sz D cA lit))) from rfl).trans (congrArg some (EW_A (i := 20) rfl).symm)
theorem ew_5 : EW (gWo F sz D cA lit) E 5 = .inl (cA.2.2.2.2.2, (14, .inr (.inr (.inr (.inr (fun i => if i < 14 then some (sz + (1 + 4 + 1 + i)) else none)))))) := EW_A (i := 4) rfl
theorem ew_all : ∀ p, p < 22 → p ≠ 5 → entw cA (ad1 sz lit) (1000 + p) = some (EW (gWo F sz D cA lit) E p) := fun p hp hn => match p, hp, hn with
  | 0, _, _ => ew_0
  | 1, _, _ => ew_1
  | 2, _, _ => ew_2
  | 3, _, _ => ew_3
  | 4, _, _ => ew_4
  | 5, _, h => absurd rfl h
  | 6, _, _ => ew_6
  | 7, _, _ => ew_7
  | 8, _, _ => ew_8
  | 9, _, _ => ew_9
  | 10, _, _ => ew_10
  | 11, _, _ => ew_11
  | 12, _, _ => ew_12
  | 13, _, _ => ew_13
  | 14, _, _ => ew_14
  | 15, _, _ => ew_15
  | 16, _, _ => ew_16
  | 17, _, _ => ew_17
  | 18, _, _ => ew_18
  | 19, _, _ => ew_19
  | 20, _, _ => ew_20
  | 21, _, _ => ew_21
  | _ + 22, h, _ => absurd h (by omega)
theorem ad1_k {k : Nat} (h : 1000 ≤ k) : ad1 sz lit k = sz + (k - 1000) := by
  unfold ad1
  rw [if_neg (by omega), if_neg (by omega)]
theorem ad2_k {n k : Nat} (h : 1000 ≤ k) : ad2 sz n lit k = sz + (k - 1000) := by
  unfold ad2
  rw [if_neg (by omega), if_neg (by omega), if_neg (by omega), if_neg (by omega)]
theorem ad_lit {n k : Nat} (h : 900 ≤ k) (h2 : k < 1000) : ad1 sz lit k = lit k ∧ ad2 sz n lit k = lit k := by
  unfold ad1 ad2
  rw [if_neg (by omega), if_pos h2, if_neg (by omega), if_neg (by omega), if_neg (by omega)]
  exact ⟨rfl, rfl⟩
theorem ad_hi {n k : Nat} (h : 900 ≤ k) : ad2 sz n lit k = ad1 sz lit k := by
  by_cases c : k < 1000
  · rw [(ad_lit (n := n) h c).1, (ad_lit (n := n) h c).2]
  · rw [ad1_k (by omega), ad2_k (by omega)]
theorem arr1005 (c : ClassId) : vp_cell c (14, .inr (.inr (.inr (.inr (fun i => some (ad1 sz lit (1006 + i))))))) = vp_cell c (14, .inr (.inr (.inr (.inr (fun i => if i < 14 then some (sz + (1 + 4 + 1 + i)) else none))))) := by
  rw [vp_cell_q, vp_cell_q]
  refine congrArg (fun f => ({ cls := c, slots := Array.ofFn (n := 14) f, vm := .none } : Cell)) (funext fun j : Fin 14 => ?_)
  dsimp only
  rw [if_pos j.isLt, ad1_k (by omega)]
  exact congrArg (fun z => va_rf (some (sz + z))) (by omega)
/-- each cell of the law's graph tells its key -/
theorem ew_at {H : Heap} {k : Nat} {sh : ShE} (h : BH (gWo F sz D cA lit) 22 (EW (gWo F sz D cA lit) E) H) (h1 : 1000 ≤ k) (h2 : k < 1022) (hs : shp k = some sh) : va_at D vwCl (ad1 sz lit k, entS cA (ad1 sz lit) (I0w, J0w) k sh) H := by
  obtain ⟨p, rfl⟩ : ∃ p, k = 1000 + p := ⟨k - 1000, by omega⟩
  have g1 := h.2 p (by omega)
  rw [show va_at D vwCl (ad1 sz lit (1000 + p), entS cA (ad1 sz lit) (I0w, J0w) (1000 + p) sh) H = va_at D vwCl (sz + p, entS cA (ad1 sz lit) (I0w, J0w) (1000 + p) sh) H by rw [ad1_k (by omega), show 1000 + p - 1000 = p by omega]]
  by_cases c : p = 5
  · subst c
    have hs : some (.inr (6, 14)) = some sh := hs
    cases hs
    rw [ew_5] at g1
    show H[sz + 5]? = some (vp_cell cA.2.2.2.2.2 (14, .inr (.inr (.inr (.inr (fun i => some (ad1 sz lit (1006 + i))))))))
    rw [arr1005]
    exact g1
  · have g2 := ew_all (F := F) (sz := sz) (D := D) (cA := cA) (lit := lit) (E := E) p (by omega) c
    unfold entw at g2
    rw [hs] at g2
    have g3 : entS cA (ad1 sz lit) (I0w, J0w) (1000 + p) sh = EW (gWo F sz D cA lit) E p := Option.some.inj g2
    rw [g3]
    exact g1
theorem I0w_s {k : Nat} (h : k < 900 ∨ 934 ≤ k) (h2 : k < 900000) : I0w (1000000 + k) 0 = 0 := by
  unfold I0w
  rw [if_neg (by omega), if_neg (by omega), if_neg (by omega), if_neg (by omega), if_neg (by omega), if_neg (by omega), if_neg (by omega)]
theorem I0w_s2 {k : Nat} (h : 934 ≤ k) : I0w (1000000 + k) 0 = 0 := by
  unfold I0w
  rw [if_neg (by omega), if_neg (by omega), if_neg (by omega), if_neg (by omega), if_neg (by omega), if_neg (by omega), if_neg (by omega)]
theorem LTP_0 : LTP I0w := by
  intro k k1 k2
  have e1 : ∀ i, I0w k i = lval k i := fun i => by unfold I0w; rw [if_neg (by omega), if_pos k2]
  have e2 : ∀ i, I0w (1000000 + k) i = if i = 0 then lsort (1000000 + k - 1000000) else if i = 1 then llen (1000000 + k - 1000000) else 0 := fun i => by
    unfold I0w
    rw [if_neg (by omega), if_neg (by omega), if_neg (by omega), if_neg (by omega), if_neg (by omega), if_neg (by omega), if_pos (by omega)]
  refine ⟨?_, ?_, fun h3 h4 => ⟨e1 0, ?_⟩, fun i _ => e1 i⟩
  · rw [e2, if_pos rfl, show 1000000 + k - 1000000 = k by omega]
  · rw [e2, if_neg (by decide), if_pos rfl, show 1000000 + k - 1000000 = k by omega]
  · rw [e1]
    unfold lval
    rw [if_pos h3, if_pos h4, if_neg (by decide)]
/-- the picture of the law's graph, new -/
theorem Pic_w : ∀ H, BH (gWo F sz D cA lit) 22 (EW (gWo F sz D cA lit) E) H → Pic (gWo F sz D cA lit) (I0w, J0w) H := fun H h => by
  have h0 : (gWo F sz D cA lit).2.2.2.2 0 ≠ 1 := by
    show ad1 sz lit 0 ≠ 1
    unfold ad1
    rw [if_pos (by decide)]
    split <;> omega
  refine ⟨?_, ⟨fun k h1 h2 => absurd (I0w_s2 (by omega)) h2, fun k h1 h2 => I0w_s h2 (by omega), fun z => absurd z h0, by decide, by decide⟩, LTP_0, fun k sh hs => ?_⟩
  · show (H.size : Int) + 1000 = (sz : Int) + I0w 999 0
    rw [h.1]
    show (((sz + 22 : Nat)) : Int) + 1000 = (sz : Int) + 1022
    omega
  · have hs : shG (ad1 sz lit) I0w k = some sh := hs
    unfold shG at hs
    by_cases c1 : k < 900
    · rw [if_pos c1, if_neg h0] at hs; cases hs
    rw [if_neg c1] at hs
    by_cases c2 : k < 1000
    · rw [if_pos c2] at hs; cases hs
    rw [if_neg c2] at hs
    by_cases c3 : k < 1022
    · rw [if_pos c3] at hs
      exact ew_at h (by omega) c3 hs
    · rw [if_neg c3] at hs
      unfold dsh at hs
      rw [I0w_s2 (by omega)] at hs
      cases hs
end PWS
/-! what is told by numbers below 900 where a key is meant, told anew -/
def zzK (sz : Nat) : Nat := if sz = 1 then 1001 else 1000
def fxZ (sz : Nat) (z : Int) : Int := if 0 ≤ z ∧ z < 900 then (zzK sz : Int) else z
def fixR (sz : Nat) (I : Ii) : Ii := fun k i => if (1022 ≤ k ∧ k < 1000000) ∧ (dS I k = 3 ∨ dS I k = 4 ∨ ((dS I k = 5 ∨ dS I k = 6) ∧ i = 0)) then fxZ sz (I k i) else I k i
/-- the stores where the class' object is there -/
def I2w (sz : Nat) (I : Ii) : Ii := up2 (fixR sz I) 999 0 (I 999 0 + 96)
section FXS
variable {sz : Nat} {I : Ii}
theorem I2w_o {k : Nat} (h : k < 1022 ∨ 1000000 ≤ k) (h9 : k ≠ 999) : I2w sz I k = I k := by
  funext i
  unfold I2w
  rw [up2_key h9]
  unfold fixR
  rw [if_neg (fun z => by omega)]
theorem I2w_9 : I2w sz I 999 0 = I 999 0 + 96 := up2_self _ _ _ _
theorem I2w_s {k : Nat} : dS (I2w sz I) k = dS I k ∧ dL (I2w sz I) k = dL I k := by
  have := I2w_o (sz := sz) (I := I) (k := 1000000 + k) (Or.inr (by omega)) (by omega)
  exact ⟨congrFun this 0, congrFun this 1⟩
/-- what no key is meant in stays -/
theorem I2w_i {k i : Nat} (h9 : k ≠ 999) (h : ¬ (dS I k = 3 ∨ dS I k = 4 ∨ ((dS I k = 5 ∨ dS I k = 6) ∧ i = 0)) ∨ ¬ (0 ≤ I k i ∧ I k i < 900)) : I2w sz I k i = I k i := by
  unfold I2w
  rw [up2_key h9]
  unfold fixR
  by_cases c : (1022 ≤ k ∧ k < 1000000) ∧ (dS I k = 3 ∨ dS I k = 4 ∨ ((dS I k = 5 ∨ dS I k = 6) ∧ i = 0))
  · rw [if_pos c]
    unfold fxZ
    rw [if_neg (fun z => by
      rcases h with h | h
      · exact h c.2
      · exact h z)]
  · rw [if_neg c]
theorem I2w_r {k i : Nat} (h1 : 1022 ≤ k ∧ k < 1000000) (h : dS I k = 3 ∨ dS I k = 4 ∨ ((dS I k = 5 ∨ dS I k = 6) ∧ i = 0)) : I2w sz I k i = fxZ sz (I k i) := by
  unfold I2w
  rw [up2_key (by omega)]
  unfold fixR
  rw [if_pos ⟨h1, h⟩]
theorem ref_fx {n : Nat} {lit : Nat → Nat} (z : Int) : refQ (ad2 sz n lit) (fxZ sz z) = refQ (ad1 sz lit) z ∧ refZ (ad2 sz n lit) (fxZ sz z) = refZ (ad1 sz lit) z := by
  have key : ∀ z : Int, (fxZ sz z < 0 ↔ z < 0) ∧ (¬ z < 0 → ad2 sz n lit (fxZ sz z).toNat = ad1 sz lit z.toNat) := fun z => by
    unfold fxZ
    by_cases c : 0 ≤ z ∧ z < 900
    · rw [if_pos c]
      refine ⟨by omega, fun _ => ?_⟩
      rw [Int.toNat_natCast]
      unfold zzK
      have e1 : ad1 sz lit z.toNat = if sz = 1 then 2 else sz := by unfold ad1; rw [if_pos (by omega)]
      rw [e1]
      by_cases d : sz = 1
      · rw [if_pos d, if_pos d, ad2_k (by omega), d]
      · rw [if_neg d, if_neg d, ad2_k (by omega)]
        omega
    · rw [if_neg c]
      exact ⟨Iff.rfl, fun d => ad_hi (by omega)⟩
  unfold refQ refZ
  by_cases c : z < 0
  · rw [if_pos c, if_pos ((key z).1.mpr c), if_pos c, if_pos ((key z).1.mpr c)]
    exact ⟨rfl, rfl⟩
  · rw [if_neg c, if_neg (fun w => c ((key z).1.mp w)), if_neg c, if_neg (fun w => c ((key z).1.mp w)), (key z).2 c]
    exact ⟨rfl, rfl⟩
theorem ref_hi {n : Nat} {lit : Nat → Nat} {z : Int} (h : 900 ≤ z) : refZ (ad2 sz n lit) z = refZ (ad1 sz lit) z := by
  unfold refZ
  rw [if_neg (by omega), if_neg (by omega), ad_hi (by omega)]
end FXS
section PCS
variable {F : Launch × (State → Prop)} {sz n : Nat} {D : va_G} {cA : KA} {lit : Nat → Nat} {I : Ii} {J : Jj}
/-- what a call made tells the same -/
theorem ent_d {k : Nat} {sh : ShE} (h1 : 1022 ≤ k ∧ k < 1000000) (hs : dsh I k = some sh) : entS cA (ad2 sz n lit) (I2w sz I, J) k sh = entS cA (ad1 sz lit) (I, J) k sh := by
  have ds : I (1000000 + k) 0 = dS I k := rfl
  unfold dsh at hs
  rw [ds] at hs
  by_cases c1 : dS I k = 1
  · rw [if_pos c1] at hs
    cases hs
    exact congrArg Sum.inl (congrArg (fun f => (cA.1, (I (1000000 + k) 1).toNat, (Sum.inl f : (Nat → Int32) ⊕ _))) (funext fun i => congrArg iZ (I2w_i (by omega) (Or.inl (by omega)))))
  rw [if_neg c1] at hs
  by_cases c2 : dS I k = 2
  · rw [if_pos c2] at hs
    cases hs
    exact congrArg Sum.inl (congrArg (fun f => (cA.2.2.2.1, (I (1000000 + k) 1).toNat, (Sum.inl f : (Nat → Int32) ⊕ _))) (funext fun i => congrArg iZ (I2w_i (by omega) (Or.inl (by omega)))))
  rw [if_neg c2] at hs
  by_cases c3 : dS I k = 3
  · rw [if_pos c3] at hs
    cases hs
    have e : (fun i => refQ (ad2 sz n lit) (I2w sz I k i)) = fun i => refQ (ad1 sz lit) (I k i) := funext fun i => by rw [I2w_r h1 (Or.inl c3)]; exact (ref_fx _).1
    show Sum.inl (cA.2.2.2.2.1, (I (1000000 + k) 1).toNat, Sum.inr (Sum.inr (Sum.inr (Sum.inr (fun i => refQ (ad2 sz n lit) (I2w sz I k i)))))) = _
    rw [e]
    rfl
  rw [if_neg c3] at hs
  by_cases c4 : dS I k = 4
  · rw [if_pos c4] at hs
    cases hs
    have e : (fun i => refQ (ad2 sz n lit) (I2w sz I k i)) = fun i => refQ (ad1 sz lit) (I k i) := funext fun i => by rw [I2w_r h1 (Or.inr (Or.inl c4))]; exact (ref_fx _).1
    show Sum.inl (cA.2.2.2.2.2, (I (1000000 + k) 1).toNat, Sum.inr (Sum.inr (Sum.inr (Sum.inr (fun i => refQ (ad2 sz n lit) (I2w sz I k i)))))) = _
    rw [e]
    rfl
  rw [if_neg c4] at hs
  have fin : ∀ ci : Nat, (dS I k = 5 ∨ dS I k = 6) → entS cA (ad2 sz n lit) (I2w sz I, J) k (.inl (ci, [5000, 0, 0, 0])) = entS cA (ad1 sz lit) (I, J) k (.inl (ci, [5000, 0, 0, 0])) := fun ci c => by
    show Sum.inr (ci, [refZ (ad2 sz n lit) (I2w sz I k 0), .int (iZ (I2w sz I k 1)), .int (iZ (I2w sz I k 2)), .int (iZ (I2w sz I k 3))]) = Sum.inr (ci, [refZ (ad1 sz lit) (I k 0), .int (iZ (I k 1)), .int (iZ (I k 2)), .int (iZ (I k 3))])
    rw [I2w_r h1 (Or.inr (Or.inr ⟨c, rfl⟩)), (ref_fx _).2, I2w_i (k := k) (i := 1) (by omega) (Or.inl (by omega)), I2w_i (k := k) (i := 2) (by omega) (Or.inl (by omega)), I2w_i (k := k) (i := 3) (by omega) (Or.inl (by omega))]
  by_cases c5 : dS I k = 5
  · rw [if_pos c5] at hs
    cases hs
    exact fin 0 (Or.inl c5)
  rw [if_neg c5] at hs
  by_cases c6 : dS I k = 6
  · rw [if_pos c6] at hs
    cases hs
    exact fin 1 (Or.inr c6)
  rw [if_neg c6] at hs
  cases hs
theorem dsh_2w {k : Nat} : dsh (I2w sz I) k = dsh I k := by
  unfold dsh
  rw [I2w_o (k := 1000000 + k) (Or.inr (by omega)) (by omega)]
/-- the law's graph tells the same -/
theorem ent_w {k : Nat} {sh : ShE} (h1 : 1000 ≤ k) (h2 : k < 1022) (hs : shp k = some sh) (h12 : 900 ≤ I 1000 12) (h20 : 900 ≤ I 1020 1) (h21 : 900 ≤ I 1021 1) : entS cA (ad2 sz n lit) (I2w sz I, J) k sh = entS cA (ad1 sz lit) (I, J) k sh := by
  rw [entS_other (S := (I, J)) (S' := (I2w sz I, J)) (I2w_o (Or.inl h2) (by omega)) rfl]
  have row : ∀ N : Nat, entS cA (ad2 sz n lit) (I, J) k (.inr (0, N)) = entS cA (ad1 sz lit) (I, J) k (.inr (0, N)) := fun _ => rfl
  have sw : shp k = shWorld (k - 1000) := by
    unfold shp
    rw [if_neg (by omega), if_neg (by omega), if_neg (by omega), if_neg (by omega), if_neg (by omega), if_neg (by omega)]
  rw [sw] at hs
  unfold shWorld at hs
  by_cases c0 : k - 1000 = 0
  · have e : k = 1000 := by omega
    subst e
    rw [if_pos rfl] at hs
    cases hs
    show Sum.inr (15, [Value.int (iZ (I 1000 0)), .int (iZ (I 1000 1)), .int (iZ (I 1000 2)), .int (iZ (I 1000 3)), .int (iZ (I 1000 4)), .ref (ad2 sz n lit 1001), .ref (ad2 sz n lit 1002), .ref (ad2 sz n lit 1003), .ref (ad2 sz n lit 1004), .ref (ad2 sz n lit 1005), .ref (ad2 sz n lit 1020), .ref (ad2 sz n lit 1021), refZ (ad2 sz n lit) (I 1000 12)]) = Sum.inr (15, [Value.int (iZ (I 1000 0)), .int (iZ (I 1000 1)), .int (iZ (I 1000 2)), .int (iZ (I 1000 3)), .int (iZ (I 1000 4)), .ref (ad1 sz lit 1001), .ref (ad1 sz lit 1002), .ref (ad1 sz lit 1003), .ref (ad1 sz lit 1004), .ref (ad1 sz lit 1005), .ref (ad1 sz lit 1020), .ref (ad1 sz lit 1021), refZ (ad1 sz lit) (I 1000 12)])
    rw [ref_hi h12]
    rfl
  rw [if_neg c0] at hs
  by_cases c3 : k - 1000 < 3
  · rw [if_pos c3] at hs; cases hs; exact row _
  rw [if_neg c3] at hs
  by_cases c5 : k - 1000 < 5
  · rw [if_pos c5] at hs; cases hs; exact row _
  rw [if_neg c5] at hs
  by_cases c6 : k - 1000 = 5
  · rw [if_pos c6] at hs
    cases hs
    have e : (fun i => some (ad2 sz n lit (1006 + i))) = fun i => some (ad1 sz lit (1006 + i)) := funext fun i => by rw [ad_hi (by omega)]
    show Sum.inl (cA.2.2.2.2.2, 14, Sum.inr (Sum.inr (Sum.inr (Sum.inr (fun i => some (ad2 sz n lit (1006 + i))))))) = _
    rw [e]
    rfl
  rw [if_neg c6] at hs
  by_cases c20 : k - 1000 < 20
  · rw [if_pos c20] at hs; cases hs; exact row _
  rw [if_neg c20] at hs
  by_cases c22 : k - 1000 < 22
  · rw [if_pos c22] at hs
    cases hs
    have hk : 900 ≤ I k 1 := by
      have : k = 1020 ∨ k = 1021 := by omega
      rcases this with rfl | rfl
      · exact h20
      · exact h21
    show Sum.inr (2, [Value.int (iZ (I k 0)), refZ (ad2 sz n lit) (I k 1), .int (iZ (I k 2))]) = Sum.inr (2, [Value.int (iZ (I k 0)), refZ (ad1 sz lit) (I k 1), .int (iZ (I k 2))])
    rw [ref_hi hk]
  · rw [if_neg c22] at hs; cases hs
/-- the picture where the class' object has come -/
theorem Pic_c (hn : I 999 0 = 1000 + (n : Int)) (hN : I 999 0 ≤ 800000) (h12 : 900 ≤ I 1000 12) (h20 : 900 ≤ I 1020 1) (h21 : 900 ≤ I 1021 1) (hX : ∀ k, k < 900 → I k = I0w k) {H H2 : Heap} (hP : Pic (gWo F sz D cA lit) (I, J0w) H) (hz : H2.size = H.size + 96) (hq : ∀ q : Nat, q < H.size → H2[q]? = H[q]?) (hB : BH (gC F sz n D cA lit) 96 (EC (gC F sz n D cA lit)) H2) : Pic (gAd (gWo F sz D cA lit) 0 (ad2 sz n lit)) (I2w sz I, J0w) H2 := by
  obtain ⟨p1, p2, p3, p4⟩ := hP
  have p1 : (H.size : Int) + 1000 = (sz : Int) + I 999 0 := p1
  obtain ⟨q1, q2, q3, q4, q5⟩ := p2
  have q4 : 1022 ≤ I 999 0 := q4
  refine ⟨?_, ⟨fun k h1 h2 => ?_, fun k h1 h2 => ?_, fun _ => ?_, ?_, ?_⟩, ?_, fun k sh hs => ?_⟩
  · show (H2.size : Int) + 1000 = ((sz + 0 : Nat) : Int) + I2w sz I 999 0
    rw [I2w_9, hz]
    omega
  · have h2 : I2w sz I (1000000 + k) 0 ≠ 0 := h2
    rw [I2w_o (Or.inr (by omega)) (by omega)] at h2
    obtain ⟨g1, g2, g3⟩ := q1 k h1 h2
    have g1 : (k : Int) < I 999 0 := g1
    show (k : Int) < I2w sz I 999 0 ∧ (ad2 sz n lit 0 = 1 → k < 1000 + ad2 sz n lit 1 ∨ 1096 + ad2 sz n lit 1 ≤ k) ∧ 0 ≤ I2w sz I (1000000 + k) 1 ∧ I2w sz I (1000000 + k) 1 ≤ 100000
    rw [I2w_9, I2w_o (k := 1000000 + k) (Or.inr (by omega)) (by omega)]
    refine ⟨by omega, fun _ => Or.inl ?_, g3⟩
    show k < 1000 + n
    omega
  · show I2w sz I (1000000 + k) 0 = 0
    rw [I2w_o (Or.inr (by omega)) (by omega)]
    exact q2 k h1 h2
  · show ((1096 + n : Nat) : Int) ≤ I2w sz I 999 0
    rw [I2w_9]
    omega
  · show 1022 ≤ I2w sz I 999 0
    rw [I2w_9]; omega
  · show I2w sz I 999 0 ≤ 900000
    rw [I2w_9]; omega
  · intro k k1 k2
    have e1 := I2w_o (sz := sz) (I := I) (k := k) (Or.inl (by omega)) (by omega)
    have e2 := I2w_o (sz := sz) (I := I) (k := 1000000 + k) (Or.inr (by omega)) (by omega)
    show I2w sz I (1000000 + k) 0 = lsort k ∧ I2w sz I (1000000 + k) 1 = llen k ∧ (k < 930 → k % 2 = 0 → I2w sz I k 0 = lval k 0 ∧ I2w sz I k 1 = 0) ∧ ∀ i : Nat, (i : Int) < llen k → I2w sz I k i = lval k i
    rw [e1, e2]
    exact p3 k k1 k2
  · have hs : shG (ad2 sz n lit) (I2w sz I) k = some sh := hs
    show va_at D vwCl (ad2 sz n lit k, entS cA (ad2 sz n lit) (I2w sz I, J0w) k sh) H2
    unfold shG at hs
    by_cases c1 : k < 900
    · rw [if_pos c1, if_pos (show ad2 sz n lit 0 = 1 from rfl)] at hs
      rw [entS_other (S := (I0w, J0w)) (S' := (I2w sz I, J0w)) (by show I2w sz I k = I0w k; rw [I2w_o (Or.inl (by omega)) (by omega)]; exact hX k c1) rfl]
      exact ec_at hB c1 hs
    rw [if_neg c1] at hs
    by_cases c2 : k < 1000
    · rw [if_pos c2] at hs; cases hs
    rw [if_neg c2] at hs
    have old : ∀ sh', shG (ad1 sz lit) I k = some sh' → k < 900000 → (k : Int) < I 999 0 → va_at D vwCl (ad2 sz n lit k, entS cA (ad1 sz lit) (I, J0w) k sh') H2 := fun sh' hs' hk9 hk => by
      have := p4 k sh' hs'
      have this : va_at D vwCl (ad1 sz lit k, entS cA (ad1 sz lit) (I, J0w) k sh') H := this
      rw [← ad_hi (n := n) (by omega)] at this
      have hl : ad2 sz n lit k < H.size := by rw [ad2_k (by omega)]; omega
      exact this.kept (hq _ hl)
    by_cases c3 : k < 1022
    · rw [if_pos c3] at hs
      rw [ent_w (by omega) c3 hs h12 h20 h21]
      exact old sh (by unfold shG; rw [if_neg c1, if_neg c2, if_pos c3]; exact hs) (by omega) (by omega)
    · rw [if_neg c3, dsh_2w] at hs
      have hne : I (1000000 + k) 0 ≠ 0 := fun z => by
        unfold dsh at hs
        rw [z] at hs
        cases hs
      have g1 : (k : Int) < I 999 0 := (q1 k (by omega) hne).1
      rw [ent_d ⟨by omega, by omega⟩ hs]
      exact old sh (by unfold shG; rw [if_neg c1, if_neg c2, if_neg c3]; exact hs) (by omega) g1
end PCS
