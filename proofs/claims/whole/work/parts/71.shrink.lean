/-! ===== shrinking ===== -/
/-- the numbers of the merged groups of the groups below g, and how many there are -/
def nbZ (σ : Nat → Int) : Nat → (Nat → Int) × Nat
  | 0 => (fun _ => 0, 0)
  | g + 1 => if mateZ σ g ≠ -1 ∧ mateZ σ g < (g : Int) then (updr (nbZ σ g).1 g ((nbZ σ g).1 (mateZ σ g).toNat), (nbZ σ g).2) else (updr (nbZ σ g).1 g ((nbZ σ g).2 : Int), (nbZ σ g).2 + 1)
theorem nbZ_succ (σ : Nat → Int) (g : Nat) : nbZ σ (g + 1) = if mateZ σ g ≠ -1 ∧ mateZ σ g < (g : Int) then (updr (nbZ σ g).1 g ((nbZ σ g).1 (mateZ σ g).toNat), (nbZ σ g).2) else (updr (nbZ σ g).1 g ((nbZ σ g).2 : Int), (nbZ σ g).2 + 1) := rfl
def numZ (σ : Nat → Int) : Nat → Int := (nbZ σ (grs σ).toNat).1
def cntZ (σ : Nat → Int) : Nat := (nbZ σ (grs σ).toNat).2
/-- the row behind a shrinking -/
def shZ (σ : Nat → Int) : Nat → Int := fun i =>
  if i = 5 then σ 5 + 1 else if i = 105 + (σ 5).toNat + 1 then (cntZ σ : Int)
  else if 35 + 14 * ((σ 5).toNat + 1) ≤ i ∧ i < 35 + 14 * ((σ 5).toNat + 1) + (σ 0).toNat then numZ σ (gAt σ (i - (35 + 14 * ((σ 5).toNat + 1)))).toNat else σ i
theorem nbZ_stay (σ : Nat → Int) : ∀ {g h x : Nat}, x < g → g ≤ h → (nbZ σ h).1 x = (nbZ σ g).1 x
  | g, 0, x, h1, h2 => by omega
  | g, h + 1, x, h1, h2 => by
    by_cases c : g = h + 1
    · rw [c]
    · rw [nbZ_succ]
      have ih := nbZ_stay σ (g := g) (h := h) h1 (by omega)
      split
      · show updr _ h _ x = _
        rw [updr_ne (by omega)]; exact ih
      · show updr _ h _ x = _
        rw [updr_ne (by omega)]; exact ih
theorem nbZ_cnt (σ : Nat → Int) : ∀ g, (nbZ σ g).2 ≤ g
  | 0 => Nat.le_refl 0
  | g + 1 => by
    have := nbZ_cnt σ g
    rw [nbZ_succ]
    split <;> dsimp only <;> omega
theorem nbZ_mono (σ : Nat → Int) : ∀ {g h : Nat}, g ≤ h → (nbZ σ g).2 ≤ (nbZ σ h).2
  | g, 0, h1 => by rw [show g = 0 by omega]; exact Nat.le_refl _
  | g, h + 1, h1 => by
    by_cases c : g = h + 1
    · rw [c]; exact Nat.le_refl _
    · have ih := nbZ_mono σ (g := g) (h := h) (by omega)
      rw [nbZ_succ]
      split <;> dsimp only <;> omega
theorem mate_ok {σ : Nat → Int} (hM : MS σ) : Mok σ (mateZ σ) := lmZ_ok hM (by have := grs_b hM; omega)
/-- a group that begins a merged one -/
def heads (σ : Nat → Int) (g : Nat) : Prop := ¬ (mateZ σ g ≠ -1 ∧ mateZ σ g < (g : Int))
theorem numZ_head {σ : Nat → Int} {g : Nat} (hg : g < (grs σ).toNat) (h : heads σ g) : numZ σ g = ((nbZ σ g).2 : Int) := by
  unfold numZ
  rw [nbZ_stay σ (g := g + 1) (by omega) (by omega), nbZ_succ, if_neg h]
  exact updr_self _ _ _
theorem numZ_tail {σ : Nat → Int} {g : Nat} (hg : g < (grs σ).toNat) (h : ¬ heads σ g) : numZ σ g = numZ σ (mateZ σ g).toNat := by
  have h' : mateZ σ g ≠ -1 ∧ mateZ σ g < (g : Int) := Classical.byContradiction h
  have hM : (mateZ σ g).toNat < g ∨ g = 0 := by omega
  unfold numZ
  rw [nbZ_stay σ (g := g + 1) (by omega) (by omega), nbZ_succ, if_pos h']
  show updr _ g _ g = _
  rw [updr_self]
  by_cases q : g = 0
  · subst q
    have : (mateZ σ 0).toNat = 0 := by omega
    rw [this]
    have e := nbZ_stay σ (g := 1) (h := (grs σ).toNat) (x := 0) (by omega) (by omega)
    rw [e, nbZ_succ, if_pos h']
    show (nbZ σ 0).1 0 = updr (nbZ σ 0).1 0 ((nbZ σ 0).1 (mateZ σ 0).toNat) 0
    rw [updr_self, this]
  · exact (nbZ_stay σ (g := g) (by omega) (by omega)).symm
theorem mate_head {σ : Nat → Int} (hM : MS σ) {g : Nat} (h : ¬ heads σ g) : heads σ (mateZ σ g).toNat ∧ (mateZ σ g).toNat < g ∧ gPt σ ((mateZ σ g).toNat : Nat) = gPt σ g := by
  have h' : mateZ σ g ≠ -1 ∧ mateZ σ g < (g : Int) := Classical.byContradiction h
  have ok := (mate_ok hM g).resolve_left h'.1
  refine ⟨fun z => ?_, by omega, by rw [show (((mateZ σ g).toNat : Nat) : Int) = mateZ σ g by omega]; exact ok.2.2.2.2.2⟩
  have := ok.2.2.2.2.1
  rw [this] at z
  omega
theorem numZ_lt {σ : Nat → Int} (hM : MS σ) {g : Nat} (hg : g < (grs σ).toNat) : 0 ≤ numZ σ g ∧ numZ σ g < (cntZ σ : Int) := by
  have key : ∀ g, g < (grs σ).toNat → heads σ g → 0 ≤ numZ σ g ∧ numZ σ g < (cntZ σ : Int) := fun g hg h => by
    rw [numZ_head hg h]
    have := nbZ_mono σ (g := g + 1) (h := (grs σ).toNat) (by omega)
    rw [nbZ_succ, if_neg h] at this
    unfold cntZ
    dsimp only at this
    omega
  by_cases h : heads σ g
  · exact key g hg h
  · have hm := mate_head hM h
    rw [numZ_tail hg h]
    exact key _ (by omega) hm.1
theorem numZ_inj {σ : Nat → Int} {g h : Nat} (hg : g < (grs σ).toNat) (hh : h < (grs σ).toNat) (h1 : heads σ g) (h2 : heads σ h) (e : numZ σ g = numZ σ h) : g = h := by
  rw [numZ_head hg h1, numZ_head hh h2] at e
  have key : ∀ a b, heads σ a → a < b → (nbZ σ a).2 < (nbZ σ b).2 := fun a b ha hab => by
    have := nbZ_mono σ (g := a + 1) (h := b) (by omega)
    rw [nbZ_succ, if_neg ha] at this
    dsimp only at this
    omega
  rcases Nat.lt_trichotomy g h with q | q | q
  · have := key g h h1 q; omega
  · exact q
  · have := key h g h2 q; omega
theorem numZ_part {σ : Nat → Int} (hM : MS σ) {g h : Nat} (hg : g < (grs σ).toNat) (hh : h < (grs σ).toNat) (e : numZ σ g = numZ σ h) : gPt σ g = gPt σ h := by
  have key : ∀ g, g < (grs σ).toNat → ∃ g', g' < (grs σ).toNat ∧ heads σ g' ∧ numZ σ g = numZ σ g' ∧ gPt σ g = gPt σ g' := fun g hg => by
    by_cases c : heads σ g
    · exact ⟨g, hg, c, rfl, rfl⟩
    · have hm := mate_head hM c
      exact ⟨(mateZ σ g).toNat, by omega, hm.1, numZ_tail hg c, hm.2.2.symm⟩
  obtain ⟨g', a1, a2, a3, a4⟩ := key g hg
  obtain ⟨h', b1, b2, b3, b4⟩ := key h hh
  have := numZ_inj a1 b1 a2 b2 (by rw [← a3, e, b3])
  rw [a4, b4, this]
theorem numZ_onto {σ : Nat → Int} (hM : MS σ) {c : Int} (h0 : 0 ≤ c) (h1 : c < (cntZ σ : Int)) : ∃ g, g < (grs σ).toNat ∧ numZ σ g = c := by
  have key : ∀ n, n ≤ (grs σ).toNat → ∀ c : Nat, c < (nbZ σ n).2 → ∃ g, g < n ∧ heads σ g ∧ (nbZ σ g).2 = c := by
    intro n
    induction n with
    | zero => intro _ c hc; exact absurd hc (Nat.not_lt_zero _)
    | succ n ih =>
      intro hn c hc
      by_cases hd : heads σ n
      · rw [nbZ_succ, if_neg hd] at hc
        by_cases q : c < (nbZ σ n).2
        · obtain ⟨g, a1, a2, a3⟩ := ih (by omega) c q
          exact ⟨g, by omega, a2, a3⟩
        · dsimp only at hc
          exact ⟨n, by omega, hd, by omega⟩
      · rw [nbZ_succ, if_pos (Classical.byContradiction hd)] at hc
        obtain ⟨g, a1, a2, a3⟩ := ih (by omega) c hc
        exact ⟨g, by omega, a2, a3⟩
  obtain ⟨g, a1, a2, a3⟩ := key _ (Nat.le_refl _) c.toNat (by unfold cntZ at h1; omega)
  exact ⟨g, a1, by rw [numZ_head a1 a2, a3]; omega⟩
theorem shZ_o {σ : Nat → Int} {i : Nat} (hM : MS σ) (h5 : σ 5 < 4) (h : i < 5 ∨ (5 < i ∧ i < 35 + 14 * ((σ 5).toNat + 1)) ∨ (105 ≤ i ∧ i < 105 + (σ 5).toNat + 1) ∨ 105 + (σ 5).toNat + 1 < i) : shZ σ i = σ i := by
  have b0 := ms_0 hM
  have b5 := ms_5 hM
  unfold shZ
  rw [if_neg (by omega), if_neg (by omega), if_neg (by omega)]
theorem shZ_5 (σ : Nat → Int) : shZ σ 5 = σ 5 + 1 := if_pos rfl
theorem shZ_n {σ : Nat → Int} (hM : MS σ) : shZ σ (105 + (σ 5).toNat + 1) = (cntZ σ : Int) := by
  unfold shZ
  rw [if_neg (by omega), if_pos rfl]
theorem shZ_g {σ : Nat → Int} (hM : MS σ) (h5 : σ 5 < 4) {v : Nat} (hv : v < (σ 0).toNat) : shZ σ (35 + 14 * ((σ 5).toNat + 1) + v) = numZ σ (gAt σ v).toNat := by
  have b0 := ms_0 hM
  have b5 := ms_5 hM
  unfold shZ
  rw [if_neg (by omega), if_neg (by omega), if_pos (by omega), show 35 + 14 * ((σ 5).toNat + 1) + v - (35 + 14 * ((σ 5).toNat + 1)) = v by omega]
theorem shZ_GE {σ : Nat → Int} (hM : MS σ) (h5 : σ 5 < 4) : GE σ (shZ σ) := fun i hi => by
  have b5 := ms_5 hM
  exact shZ_o hM h5 (by omega)
theorem shZ_VS {σ : Nat → Int} (hV : VS σ) (h5 : σ 5 < 4) : VS (shZ σ) := by
  have hM := hV.M
  have b0 := ms_0 hM
  have b5 := ms_5 hM
  have gr := grs_b hM
  have cb : cntZ σ ≤ 14 := by have := nbZ_cnt σ (grs σ).toNat; unfold cntZ; omega
  have o : ∀ i, i < 5 ∨ (5 < i ∧ i < 35) ∨ 110 ≤ i → shZ σ i = σ i := fun i hi => shZ_o hM h5 (by omega)
  have e5 := shZ_5 σ
  have ol : ∀ l v, l ≤ (σ 5).toNat → v < 14 → gL (shZ σ) l v = gL σ l v := fun l v hl hv => shZ_o hM h5 (by omega)
  have on : ∀ l, l ≤ (σ 5).toNat → shZ σ (105 + l) = σ (105 + l) := fun l hl => shZ_o hM h5 (by omega)
  have nl : ∀ v, v < (σ 0).toNat → gL (shZ σ) ((σ 5).toNat + 1) v = numZ σ (gAt σ v).toNat := fun v hv => shZ_g hM h5 hv
  have nn : shZ σ (105 + ((σ 5).toNat + 1)) = (cntZ σ : Int) := shZ_n hM
  have t5 : (shZ σ 5).toNat = (σ 5).toNat + 1 := by rw [e5]; omega
  have nb : ∀ v, v < (σ 0).toNat → 0 ≤ numZ σ (gAt σ v).toNat ∧ numZ σ (gAt σ v).toNat < (cntZ σ : Int) := fun v hv => by
    have := hV.g hv
    exact numZ_lt hM (by omega)
  refine ⟨⟨?_, ?_, ?_, ?_, ?_, ?_, ?_, fun w hw => ?_, fun w hw => ?_, fun w hw => ?_, fun w hw => ?_, fun w hw => ?_, fun w hw => ?_, fun w hw => ?_, fun w hw => ?_⟩, ⟨fun e he => ?_, fun e f he hf => ?_⟩, fun v hv => ?_, fun v hv => ?_, ?_, fun l hl => ?_, fun l u v hl hu hv => ?_, fun u v hu hv => ?_⟩
  · rw [o 0 (by omega)]; exact ms_0 hM
  · rw [o 1 (by omega)]; exact ms_1 hM
  · rw [o 2 (by omega)]; exact ms_2 hM
  · rw [o 3 (by omega)]; exact ms_3 hM
  · rw [o 4 (by omega)]; exact ms_4 hM
  · rw [e5]; omega
  · rw [o 6 (by omega)]; exact ms_6 hM
  · rw [o _ (by omega)]; exact ms_w hM w hw
  · rw [o _ (by omega)]; exact ms_p hM w hw
  · by_cases c : 35 + 14 * ((σ 5).toNat + 1) ≤ 35 + w ∧ 35 + w < 35 + 14 * ((σ 5).toNat + 1) + (σ 0).toNat
    · have := nb (w - 14 * ((σ 5).toNat + 1)) (by omega)
      rw [← shZ_g hM h5 (by omega), show 35 + 14 * ((σ 5).toNat + 1) + (w - 14 * ((σ 5).toNat + 1)) = 35 + w by omega] at this
      omega
    · have : shZ σ (35 + w) = σ (35 + w) := by
        unfold shZ
        rw [if_neg (by omega), if_neg (by omega), if_neg c]
      rw [this]; exact ms_g hM w hw
  · by_cases c : w = (σ 5).toNat + 1
    · rw [c, nn]; omega
    · have : shZ σ (105 + w) = σ (105 + w) := shZ_o hM h5 (by omega)
      rw [this]; exact ms_n hM w hw
  · rw [o _ (by omega)]; exact ms_a hM w hw
  · rw [o _ (by omega)]; exact ms_b hM w hw
  · rw [o _ (by omega)]; exact ms_h hM w hw
  · rw [o _ (by omega)]; exact ms_e hM w hw
  · rw [o 1 (by omega)] at he
    rw [o 0 (by omega), o _ (by omega), o _ (by omega)]; exact hV.E.1 e he
  · rw [o 1 (by omega)] at he hf
    rw [o _ (by omega), o (110 + f) (by omega), o (150 + e) (by omega), o (150 + f) (by omega)]; exact hV.E.2 e f he hf
  · rw [o 0 (by omega)] at hv
    rw [o _ (by omega), o 2 (by omega)]; exact (hV.p hv).2
  · rw [o 0 (by omega)] at hv
    rw [ol 0 v (by omega) (by omega)]; exact hV.g0 hv
  · have := on 0 (by omega)
    rw [show 105 + 0 = 105 from rfl] at this
    rw [this, o 0 (by omega)]; exact hV.n0
  · rw [t5] at hl
    unfold VL
    rw [o 0 (by omega)]
    by_cases c : l = (σ 5).toNat + 1
    · subst c
      rw [nn]
      refine ⟨fun v hv => by rw [nl v hv]; exact (nb v hv).2, fun g h0 h1 => ?_⟩
      obtain ⟨x, hx, ex⟩ := numZ_onto hM h0 h1
      obtain ⟨v, hv, ev⟩ := hV.GV (x : Int) (by omega) (by omega)
      exact ⟨v, hv, by rw [nl v hv, ev]; exact ex⟩
    · rw [on l (by omega)]
      refine ⟨fun v hv => by rw [ol l v (by omega) (by omega)]; exact (hV.L (l := l) (by omega)).1 v hv, fun g h0 h1 => ?_⟩
      obtain ⟨v, hv, ev⟩ := (hV.L (l := l) (by omega)).2 g h0 h1
      exact ⟨v, hv, by rw [ol l v (by omega) (by omega)]; exact ev⟩
  · rw [t5] at hl
    rw [o 0 (by omega)] at hu hv
    rw [ol l u (by omega) (by omega), ol l v (by omega) (by omega)]
    intro e
    by_cases c : l = (σ 5).toNat
    · subst c
      rw [nl u hu, nl v hv, show gAt σ u = gAt σ v from e]
    · rw [ol (l + 1) u (by omega) (by omega), ol (l + 1) v (by omega) (by omega)]
      exact hV.nest (by omega) hu hv e
  · rw [o 0 (by omega)] at hu hv
    have e1 : gAt (shZ σ) u = numZ σ (gAt σ u).toNat := by rw [← nl u hu]; unfold gAt gL; rw [t5]
    have e2 : gAt (shZ σ) v = numZ σ (gAt σ v).toNat := by rw [← nl v hv]; unfold gAt gL; rw [t5]
    rw [e1, e2, o _ (by omega), o _ (by omega)]
    intro e
    have hu' := hV.g hu
    have hv' := hV.g hv
    have := numZ_part hM (by omega) (by omega) e
    rw [show (((gAt σ u).toNat : Nat) : Int) = gAt σ u by omega, show (((gAt σ v).toNat : Nat) : Int) = gAt σ v by omega, hV.gp hu, hV.gp hv] at this
    exact this
theorem shZ_Tl {σ : Nat → Int} (hM : MS σ) (h5 : σ 5 < 4) (h : Tl 350 σ) : Tl 350 (shZ σ) := fun i hi => by
  have b5 := ms_5 hM
  rw [shZ_o hM h5 (by omega)]; exact h i hi
section SH
variable {I : Ii} {J : Jj} {σ : Nat → Int} {nm : Nat → Int64}
theorem c_numberMerged (hV : VS σ) (hE : ME σ I) (hP : PA σ I) : wp_X5_numberMerged I J (fun I' _ => I' 120 3 = (cntZ σ : Int) ∧ ∀ g : Nat, g < (grs σ).toNat → I' 123 g = numZ σ g) := by
  have hM := hV.M
  have gr := grs_b hM
  have e0 := hE.1
  intro I1 e1
  refine ⟨15, loopN (L := fun n2 (b : Ii) g => L_X5_numberMerged_7 _ n2 g b J) (fun g b => (∀ q, q ≠ 120 → q ≠ 123 → b q = I q) ∧ b 120 3 = ((nbZ σ g).2 : Int) ∧ (∀ x, x < g → b 123 x = (nbZ σ g).1 x)) (N := (grs σ).toNat) (fun n2 g b hg hb k2 => ?_) 15 0 I1 (by omega) (by omega) ⟨fun q h1 h2 => by rw [e1, up2_key h1], by rw [e1, up2_self]; rfl, fun x hx => by omega⟩⟩
  obtain ⟨b0, b1, b2⟩ := hb
  have h0 : b 113 0 = grs σ := by rw [b0 _ (by decide) (by decide)]; exact e0
  have bm := (mate_ok hM).b hM g
  refine ls_X5_numberMerged_7 ?_
  generalize hr : L_X5_numberMerged_7 _ n2 = r at k2 ⊢
  unfold Lb_X5_numberMerged_7
  refine ⟨rgK (by omega), rgK (by omega), fun c2 => ?_, fun c2 => at_of (n := 14) rfl rfl (by omega) ?_⟩
  · have hgn : g = (grs σ).toNat := by omega
    subst hgn
    exact ⟨b1, fun x hx => b2 x hx⟩
  · rw [b0 122 (by decide) (by decide), hP.2 g (by omega)]
    have nc := nbZ_cnt σ g
    have new : ¬ (mateZ σ g ≠ -1 ∧ mateZ σ g < (g : Int)) → B_X5_numberMerged_53 (fun I' _ => I' 120 3 = (cntZ σ : Int) ∧ ∀ g : Nat, g < (grs σ).toNat → I' 123 g = numZ σ g) r (g : Int) b J := fun hc => by
      unfold B_X5_numberMerged_53
      refine put_of (n := 14) rfl rfl (by omega) (fun I9 e9 I10 e10 => k2 (by omega) I10 ⟨fun q h1 h2 => by rw [e10, up2_key h1, e9, up2_key h2]; exact b0 q h1 h2, ?_, fun x hx => ?_⟩)
      · rw [e10, up2_self, e9, up2_key (by decide), b1, nbZ_succ, if_neg hc]; rfl
      · rw [e10, up2_key (by decide), e9, up2_row, nbZ_succ, if_neg hc, b1]
        show updr (b 123) g _ x = updr (nbZ σ g).1 g _ x
        by_cases q : x = g
        · rw [q, updr_self, updr_self]
        · rw [updr_ne q, updr_ne q]; exact b2 x (by omega)
    refine ⟨rgK (by omega), fun d => new (fun z => z.1 d), fun d => ⟨rgK (by omega), fun d2 => new (fun z => by omega), fun d2 => ?_⟩⟩
    have hc : mateZ σ g ≠ -1 ∧ mateZ σ g < (g : Int) := ⟨d, by omega⟩
    refine at_of (n := 14) rfl (i := (mateZ σ g).toNat) (by omega) (by omega) (put_of (n := 14) rfl rfl (by omega) (fun I8 e8 => k2 (by omega) I8 ⟨fun q h1 h2 => by rw [e8, up2_key h2]; exact b0 q h1 h2, ?_, fun x hx => ?_⟩))
    · rw [e8, up2_key (by decide), b1, nbZ_succ, if_pos hc]
    · rw [e8, up2_row, nbZ_succ, if_pos hc, b2 (mateZ σ g).toNat (by omega)]
      show updr (b 123) g _ x = updr (nbZ σ g).1 g _ x
      by_cases q : x = g
      · rw [q, updr_self, updr_self]
      · rw [updr_ne q, updr_ne q]; exact b2 x (by omega)
theorem c_raiseLevel {x : Int} (hV : VS σ) (h5 : σ 5 < 4) (hS : RS 300 I σ) (hx : x = σ 0) (hc : I 120 3 = (cntZ σ : Int)) (hn : ∀ g : Nat, g < (grs σ).toNat → I 123 g = numZ σ g) : wp_X8_raiseLevel 300 x I J (fun I' _ => RS 300 I' (shZ σ)) := by
  have hM := hV.M
  have b0 := ms_0 hM
  have b5 := ms_5 hM
  have gr := grs_b hM
  subst hx
  refine ⟨sK300, sK300, ?_⟩
  rw [hS.l]
  refine ⟨15, loopN (L := fun n (a : Ii) v => L_X8_raiseLevel_8 300 (σ 0) _ n (σ 5 * 14) v a J) (fun v a => (∀ q, q ≠ 303 → a q = I q) ∧ (∀ i, (i < 14 * ((σ 5).toNat + 1) ∨ 14 * ((σ 5).toNat + 1) + v ≤ i) → a 303 i = I 303 i) ∧ (∀ u, u < v → a 303 (14 * ((σ 5).toNat + 1) + u) = numZ σ (gAt σ u).toNat)) (N := (σ 0).toNat) (fun n v a hv ha k => ?_) 15 0 I (by omega) (by omega) ⟨fun _ _ => rfl, fun _ _ => rfl, fun u hu => by omega⟩⟩
  obtain ⟨a0, a1, a2⟩ := ha
  refine ls_X8_raiseLevel_8 ?_
  unfold Lb_X8_raiseLevel_8
  refine ⟨rgK (by omega), rgK (by omega), fun c I4 e4 => ?_, fun c => ?_⟩
  · have hvn : v = (σ 0).toNat := by omega
    subst hvn
    have l4 : I4 300 0 = σ 5 + 1 := by rw [e4, up2_self, a0 _ (by decide), hS.l]
    have c4 : I4 120 3 = (cntZ σ : Int) := by rw [e4, up2_key (by decide), a0 _ (by decide), hc]
    refine put_of (n := 5) rfl (i := (σ 5).toNat + 1) (by omega) (by omega) (fun I5 e5 => ?_)
    have o5 : ∀ q, q ≠ 300 → q ≠ 302 → q ≠ 303 → I5 q = I q := fun q h1 h2 h3 => by rw [e5, up2_key h2, e4, up2_key h1, a0 q h3]
    have o : ∀ i, i < 5 ∨ (5 < i ∧ i < 35) ∨ 110 ≤ i → shZ σ i = σ i := fun i hi => shZ_o hM h5 (by omega)
    have hk : kev (shZ σ) = kev σ := by unfold kev; rw [o 6 (by omega)]
    have t5 : (shZ σ 5).toNat = (σ 5).toNat + 1 := by rw [shZ_5]; omega
    have kb := kev_b hM
    refine ⟨?_, ?_, ?_, fun v hv => ?_, fun l hl => ?_, fun l v hl hv => ?_, fun i w hi hw => ?_⟩
    · rw [e5, up2_key (by decide), l4, shZ_5]
    · rw [e5, up2_key (by decide), e4, up2_ne (by decide), a0 _ (by decide), hS.c, o 4 (by omega)]
    · rw [e5, up2_key (by decide), e4, up2_ne (by decide), a0 _ (by decide), hS.e, hk]
    · rw [o 0 (by omega)] at hv
      rw [o5 _ (by decide) (by decide) (by decide), hS.p hv, o _ (by omega)]
    · rw [t5] at hl
      rw [e5, up2_row, c4]
      by_cases q : l = (σ 5).toNat + 1
      · subst q
        rw [updr_self]; exact (shZ_n hM).symm
      · rw [updr_ne q, e4, up2_key (by decide), a0 _ (by decide), hS.n (by omega)]
        exact (shZ_o hM h5 (by omega)).symm
    · rw [t5] at hl
      rw [o 0 (by omega)] at hv
      rw [e5, up2_key (by decide), e4, up2_key (by decide)]
      by_cases q : l = (σ 5).toNat + 1
      · subst q
        rw [a2 v hv]; exact (shZ_g hM h5 hv).symm
      · rw [a1 _ (by omega), hS.g (by omega) hv]
        exact (shZ_o hM h5 (by omega)).symm
    · rw [hk] at hi
      rw [o5 _ (by decide) (by decide) (by decide), hS.ev hi hw, o 6 (by omega), o _ (by omega)]
  · have hv' : v < (σ 0).toNat := by omega
    have hg := hV.g hv'
    refine at_of (n := 70) rfl (i := 14 * (σ 5).toNat + v) (by omega) (by omega) ?_
    rw [a1 _ (by omega), show I 303 (14 * (σ 5).toNat + v) = gAt σ v from hS.gA hv']
    refine at_of (n := 14) rfl (i := (gAt σ v).toNat) (by omega) (by omega) ?_
    rw [a0 _ (by decide), hn _ (by omega)]
    refine put_of (n := 70) rfl (i := 14 * ((σ 5).toNat + 1) + v) (by omega) (by omega) (fun I8 e8 => k hv' I8 ⟨fun q hq => by rw [e8, up2_key hq]; exact a0 q hq, fun i hi => ?_, fun u hu => ?_⟩)
    · rw [e8, up2_row, updr_ne (by omega)]; exact a1 i (by omega)
    · rw [e8, up2_row]
      by_cases q : u = v
      · rw [q, updr_self]
      · rw [updr_ne (by omega)]; exact a2 u (by omega)
theorem c_mergeGroups (hV : VS σ) (h5 : σ 5 < 4) (hR : RG 200 I J σ nm) (hS : RS 300 I σ) : wp_X11_mergeGroups I J (fun I' _ => RS 300 I' (shZ σ)) := by
  refine fr_X11_findPairs (c_findPairs hV hR hS) (fun I1 J1 h1 s1 => ?_)
  have S1 : RS 300 I1 σ := hS.fr s1
  have R1 : RG 200 I1 J1 σ nm := hR.fr s1
  refine fr_X5_numberMerged (c_numberMerged hV h1.1 h1.2) (fun I2 J2 h2 s2 => ?_)
  have S2 : RS 300 I2 σ := S1.fr s2
  have R2 : RG 200 I2 J2 σ nm := R1.fr s2
  exact fr_X8_raiseLevel (c_raiseLevel hV h5 S2 R2.n h2.1 h2.2) (fun I3 J3 h3 s3 => h3)
theorem c_whyNotShrink (hV : VS σ) (hR : RG 200 I J σ nm) (hS : RS 300 I σ) : wp_X11_whyNotShrink I J (fun r _ _ => r = if σ 5 = 4 then 1 else if pairZ σ = 0 then 2 else 0) := by
  have b5 := ms_5 hV.M
  have hl := hS.l
  refine ⟨rgK (by omega), fun c => fr_X11_findPairs (c_findPairs hV hR hS) (fun I1 J1 h1 s1 => ?_), fun c => by rw [if_pos (by omega)]⟩
  have hp := h1.2.1
  rw [if_neg (by omega)]
  by_cases q : pairZ σ = 0
  · rw [if_pos q] at hp
    rw [hp, if_pos q]
    exact ⟨rgK (by omega), fun _ => rfl, fun z => absurd rfl z⟩
  · rw [if_neg q] at hp
    rw [hp, if_neg q]
    exact ⟨rgK (by omega), fun z => absurd z (by decide), fun _ => rfl⟩
end SH
