/-! ===== what stays, by keys ===== -/
theorem Same.k {l : List (Nat × Nat)} {I I' : Ii} {J J' : Jj} {q : Nat} (h : Same (WL l) I J I' J') (hn : wlk l q = false := by rfl) : I' q = I q := h.rI (WL_n hn)
theorem Same.kJ {l : List (Nat × Nat)} {I I' : Ii} {J J' : Jj} {q : Nat} (h : Same (WL l) I J I' J') (hn : wlk l q = false := by rfl) : J' q = J q := h.rJ (WL_n hn)
theorem Same.i {l : List (Nat × Nat)} {I I' : Ii} {J J' : Jj} {q i : Nat} (h : Same (WL l) I J I' J') (hn : wl l q i = false := by rfl) : I' q i = I q i := (h q i (fun z => by unfold WL at z; rw [hn] at z; cases z)).1
theorem Same.iJ {l : List (Nat × Nat)} {I I' : Ii} {J J' : Jj} {q i : Nat} (h : Same (WL l) I J I' J') (hn : wl l q i = false := by rfl) : J' q i = J q i := (h q i (fun z => by unfold WL at z; rw [hn] at z; cases z)).2
theorem all_not {f : Nat → Bool} {l : List Nat} (h : (l.all (fun q => !f q)) = true) {q : Nat} (hq : q ∈ l) : f q = false := by
  have := List.all_eq_true.mp h q hq
  simpa using this
theorem RG.fr {l : List (Nat × Nat)} {k : Nat} {I I' : Ii} {J J' : Jj} {σ : Nat → Int} {nm : Nat → Int64} (h : RG k I J σ nm) (hs : Same (WL l) I J I' J') (hn : ([k, k + 1, k + 2, k + 3, k + 4, k + 5].all (fun q => !wlk l q)) = true := by rfl) : RG k I' J' σ nm :=
  h.cong (hs.k (all_not hn (by simp))) (hs.kJ (all_not hn (by simp))) (hs.k (all_not hn (by simp))) (hs.k (all_not hn (by simp))) (hs.k (all_not hn (by simp))) (hs.k (all_not hn (by simp)))
theorem RS.fr {l : List (Nat × Nat)} {k : Nat} {I I' : Ii} {J J' : Jj} {σ : Nat → Int} (h : RS k I σ) (hs : Same (WL l) I J I' J') (hn : ([k, k + 1, k + 2, k + 3, k + 4].all (fun q => !wlk l q)) = true := by rfl) : RS k I' σ :=
  h.cong (hs.k (all_not hn (by simp))) (hs.k (all_not hn (by simp))) (hs.k (all_not hn (by simp))) (hs.k (all_not hn (by simp))) (hs.k (all_not hn (by simp)))
theorem gK_ge {k : Nat} (h : gK k) : 200 ≤ k ∧ k ≤ 220 := by unfold gK at h; omega
theorem sK_ge {k : Nat} (h : sK k) : 300 ≤ k ∧ k ≤ 380 := by unfold sK at h; omega
theorem gK200 : gK 200 := Or.inl rfl
theorem sK300 : sK 300 := Or.inl rfl
theorem sK310 : sK 310 := Or.inr (Or.inl rfl)
/-! ===== the measures ===== -/
theorem bset_add (c : Nat → Bool) (n : Nat) : bset c (n + 1) = bset c n + if c n then 2 ^ n else 0 := by
  rw [bset_succ]
  have h := bset_lt c n
  by_cases q : c n = true
  · rw [if_pos q, if_pos q, Nat.one_mul, Nat.or_comm, Nat.add_comm]
    have := Nat.two_pow_add_eq_or_of_lt h 1
    rw [Nat.mul_one] at this
    exact this.symm
  · rw [if_neg q, if_neg q, Nat.zero_mul, Nat.or_zero, Nat.add_zero]
/-- by what a group is joined at edge e to the other groups in a part -/
def pullE (σ : Nat → Int) (g p : Int) (e : Nat) : Int :=
  if gAt σ (σ (110 + e)).toNat = gAt σ (σ (150 + e)).toNat then 0
  else (if gAt σ (σ (110 + e)).toNat = g ∧ σ (21 + (σ (150 + e)).toNat) = p then σ (190 + e) else 0) + (if gAt σ (σ (150 + e)).toNat = g ∧ σ (21 + (σ (110 + e)).toNat) = p then σ (190 + e) else 0)
def pullZ (σ : Nat → Int) (g p : Int) : Int := sm (pullE σ g p) (σ 1).toNat
/-- the measures tell the row -/
def ME (σ : Nat → Int) (I : Ii) : Prop := I 113 0 = grs σ ∧ I 113 1 = σ 2 ∧ I 113 2 = limZ σ ∧ I 113 3 = σ 4 ∧ I 113 4 = debtsZ σ ∧ I 113 5 = cutZ σ ∧
  (∀ g : Nat, (g : Int) < grs σ → I 114 g = ((memG σ g : Nat) : Int) ∧ I 115 g = gW σ g ∧ I 116 g = gPt σ g) ∧
  (∀ p : Nat, (p : Int) < σ 2 → I 117 p = ((inP σ p : Nat) : Int) ∧ I 118 p = wOf σ p) ∧
  (∀ g p : Nat, (g : Int) < grs σ → (p : Int) < σ 2 → I 119 (4 * g + p) = pullZ σ g p)
section TK
variable {I : Ii} {J : Jj} {σ : Nat → Int} {nm : Nat → Int64} {k2 : Nat}
theorem c_takeVertices (hk : sK k2) (hV : VS σ) (hR : RG 200 I J σ nm) (hS : RS k2 I σ) : wp_X4_takeVertices 200 k2 I J (fun I' _ =>
    (∀ g : Nat, g < 14 → I' 114 g = ((memG σ g : Nat) : Int) ∧ I' 115 g = gW σ g) ∧ (∀ g : Nat, (g : Int) < grs σ → I' 116 g = gPt σ g) ∧ (∀ p : Nat, p < 4 → I' 117 p = ((inP σ p : Nat) : Int) ∧ I' 118 p = wOf σ p)) := by
  have b0 := ms_0 hV.M
  have b2 := ms_2 hV.M
  have b5 := ms_5 hV.M
  have gr := grs_b hV.M
  have kg := sK_ge hk
  have hn := hR.n
  refine ⟨gK200, hk, fill_of (n := 14) rfl (fun I1 e1 => fill_of (n := 14) rfl (fun I2 e2 => fill_of (n := 4) rfl (fun I3 e3 => fill_of (n := 4) rfl (fun I4 e4 => ⟨hk, ?_⟩))))⟩
  have o4 : ∀ q, q < 114 ∨ 118 < q → I4 q = I q := fun q hq => by rw [e4, upr_ne (by omega), e3, upr_ne (by omega), e2, upr_ne (by omega), e1, upr_ne (by omega)]
  rw [o4 _ (by omega), hS.l]
  refine ⟨15, loopN (L := fun n (a : Ii) v => L_X4_takeVertices_40 200 k2 _ n (σ 5 * 14) v a J) (fun v a => (∀ q, q < 114 ∨ 118 < q → a q = I q) ∧
      (∀ g : Nat, g < 14 → a 114 g = ((bset (fun u => decide (gAt σ u = (g : Int))) v : Nat) : Int) ∧ a 115 g = sm (fun u => if gAt σ u = (g : Int) then σ (7 + u) else 0) v) ∧
      (∀ u, u < v → a 116 (gAt σ u).toNat = σ (21 + u)) ∧
      (∀ p : Nat, p < 4 → a 117 p = ((bset (fun u => decide (σ (21 + u) = (p : Int))) v : Nat) : Int) ∧ a 118 p = sm (fun u => if σ (21 + u) = (p : Int) then σ (7 + u) else 0) v)) (N := (σ 0).toNat) (fun n v a hv ha kk => ?_) 15 0 I4 (by omega) (by omega) ⟨o4, fun g hg => ⟨?_, ?_⟩, fun u hu => by omega, fun p hp => ⟨?_, ?_⟩⟩⟩
  · obtain ⟨a0, a1, a2, a3⟩ := ha
    have h0 : a 200 0 = σ 0 := by rw [a0 _ (by omega)]; exact hn
    refine ls_X4_takeVertices_40 ?_
    unfold Lb_X4_takeVertices_40
    refine ⟨rgK (by omega), rgK (by omega), fun c => ?_, fun c => ?_⟩
    · have hvn : v = (σ 0).toNat := by omega
      subst hvn
      refine ⟨fun g hg => a1 g hg, fun g hg => ?_, fun p hp => a3 p hp⟩
      obtain ⟨u, hu, eu⟩ := hV.GV g (by omega) hg
      have := a2 u hu
      rw [eu] at this
      rw [show g = ((g : Int)).toNat by omega, this, ← hV.gp hu, eu]
      rfl
    · have hv' : v < (σ 0).toNat := by omega
      have hg := hV.g hv'
      have hp := hV.p hv'
      have hr1 : a (k2 + 3) (14 * (σ 5).toNat + v) = gAt σ v := by rw [a0 _ (by omega)]; exact hS.gA hv'
      have hr2 : a (k2 + 1) v = σ (21 + v) := by rw [a0 _ (by omega)]; exact hS.p hv'
      have hw : I 202 v = σ (7 + v) := hR.w hv'
      refine at_of (srX8_3 hk) (i := 14 * (σ 5).toNat + v) (by omega) (by omega) ?_
      rw [hr1]
      refine at_of (srX8_1 hk) rfl (by omega) ?_
      rw [hr2]
      refine add_of (n := 14) rfl (i := (gAt σ v).toNat) (by omega) (by omega) (fun I10 e10 => ?_)
      refine at_of (n := 14) rfl rfl (by omega) ?_
      rw [e10, up2_key (by decide), a0 _ (by omega), hw, ← e10]
      refine add_of (n := 14) rfl (i := (gAt σ v).toNat) (by omega) (by omega) (fun I12 e12 => ?_)
      refine put_of (n := 14) rfl (i := (gAt σ v).toNat) (by omega) (by omega) (fun I13 e13 => ?_)
      refine add_of (n := 4) rfl (i := (σ (21 + v)).toNat) (by omega) (by omega) (fun I14 e14 => ?_)
      refine at_of (n := 14) rfl rfl (by omega) ?_
      rw [e14, up2_key (by decide), e13, up2_key (by decide), e12, up2_key (by decide), e10, up2_key (by decide), a0 _ (by omega), hw, ← e10, ← e12, ← e13, ← e14]
      refine add_of (n := 4) rfl (i := (σ (21 + v)).toNat) (by omega) (by omega) (fun I16 e16 => ?_)
      refine kk hv' I16 ⟨fun q hq => ?_, fun g hg14 => ⟨?_, ?_⟩, fun u hu => ?_, fun p hp4 => ⟨?_, ?_⟩⟩
      · rw [e16, up2_key (by omega), e14, up2_key (by omega), e13, up2_key (by omega), e12, up2_key (by omega), e10, up2_key (by omega)]; exact a0 q hq
      · rw [e16, up2_key (by decide), e14, up2_key (by decide), e13, up2_key (by decide), e12, up2_key (by decide), e10, up2_row, bset_add, shlT1 (by omega)]
        by_cases q : g = (gAt σ v).toNat
        · subst q
          rw [updr_self, (a1 _ hg14).1, if_pos (by simp; omega)]
          omega
        · rw [updr_ne q, (a1 _ hg14).1, if_neg (by simp; omega)]
          omega
      · rw [e16, up2_key (by decide), e14, up2_key (by decide), e13, up2_key (by decide), e12, up2_row, sm_succ]
        by_cases q : g = (gAt σ v).toNat
        · subst q
          rw [updr_self, e10, up2_key (by decide), (a1 _ hg14).2, if_pos (by omega)]
        · rw [updr_ne q, e10, up2_key (by decide), (a1 _ hg14).2, if_neg (by omega)]
          omega
      · rw [e16, up2_key (by decide), e14, up2_key (by decide), e13, up2_row]
        have hu' : u < (σ 0).toNat := by omega
        have hgu := hV.g hu'
        by_cases q : (gAt σ u).toNat = (gAt σ v).toNat
        · rw [q, updr_self]
          exact (hV.one hu' hv' (by omega)).symm
        · rw [updr_ne q, e12, up2_key (by decide), e10, up2_key (by decide)]
          exact a2 u (by by_cases z : u = v
                         · subst z; exact absurd rfl q
                         · omega)
      · rw [e16, up2_key (by decide), e14, up2_row, bset_add, shlT1 (by omega)]
        by_cases q : p = (σ (21 + v)).toNat
        · subst q
          rw [updr_self, e13, up2_key (by decide), e12, up2_key (by decide), e10, up2_key (by decide), (a3 _ hp4).1, if_pos (by simp; omega)]
          omega
        · rw [updr_ne q, e13, up2_key (by decide), e12, up2_key (by decide), e10, up2_key (by decide), (a3 _ hp4).1, if_neg (by simp; omega)]
          omega
      · rw [e16, up2_row, sm_succ]
        by_cases q : p = (σ (21 + v)).toNat
        · subst q
          rw [updr_self, e14, up2_key (by decide), e13, up2_key (by decide), e12, up2_key (by decide), e10, up2_key (by decide), (a3 _ hp4).2, if_pos (by omega)]
        · rw [updr_ne q, e14, up2_key (by decide), e13, up2_key (by decide), e12, up2_key (by decide), e10, up2_key (by decide), (a3 _ hp4).2, if_neg (by omega)]
          omega
  · rw [e4, upr_ne (by decide), e3, upr_ne (by decide), e2, upr_ne (by decide), e1, upr_self, filR_lt hg]; rfl
  · rw [e4, upr_ne (by decide), e3, upr_ne (by decide), e2, upr_self, filR_lt hg]; rfl
  · rw [e4, upr_ne (by decide), e3, upr_self, filR_lt hp]; rfl
  · rw [e4, upr_self, filR_lt hp]; rfl
theorem debtAt_of {x : Int} (hV : VS σ) (hl : I 113 2 = limZ σ) (hx : -3000 ≤ x ∧ x ≤ 3000) {Q : Int → Ii → Jj → Prop} (h : Q (pos (x - limZ σ)) I J) : wp_X4_debtAt x I J Q := by
  have bl := limZ_b hV.M
  refine ⟨rgK (by omega), rgK (by omega), fun c => ?_, fun c => ?_⟩
  · unfold pos at h; rw [if_neg (by omega)] at h; exact h
  · unfold pos at h; rw [if_pos (by omega)] at h; rw [hl]; exact h
theorem c_takeEdges (hk : sK k2) (hV : VS σ) (hR : RG 200 I J σ nm) (hS : RS k2 I σ) (hp : ∀ g : Nat, (g : Int) < grs σ → I 116 g = gPt σ g) : wp_X4_takeEdges 200 k2 I J (fun I' _ =>
    I' 113 5 = cutZ σ ∧ (∀ g p : Nat, (g : Int) < grs σ → p < 4 → I' 119 (4 * g + p) = pullZ σ g p)) := by
  have b0 := ms_0 hV.M
  have b1 := ms_1 hV.M
  have b2 := ms_2 hV.M
  have b5 := ms_5 hV.M
  have gr := grs_b hV.M
  have kg := sK_ge hk
  have hm := hR.m
  refine ⟨gK200, hk, fill_of (n := 56) rfl (fun I1 e1 I2 e2 => ⟨hk, ?_⟩)⟩
  have o2 : ∀ q, q ≠ 119 → q ≠ 113 → I2 q = I q := fun q h1 h2 => by rw [e2, up2_key h2, e1, upr_ne h1]
  rw [o2 _ (by omega) (by omega), hS.l]
  refine ⟨41, loopN (L := fun n (a : Ii) v => L_X4_takeEdges_21 200 k2 _ n (σ 5 * 14) v a J) (fun v a => (∀ q, q ≠ 119 → q ≠ 113 → a q = I q) ∧
      a 113 5 = sm (fun e => if cutE σ e then σ (190 + e) else 0) v ∧ (∀ g p : Nat, (g : Int) < grs σ → p < 4 → a 119 (4 * g + p) = sm (pullE σ g p) v)) (N := (σ 1).toNat) (fun n e a he ha kk => ?_) 41 0 I2 (by omega) (by omega) ⟨o2, ?_, fun g p hg hp => ?_⟩⟩
  · obtain ⟨a0, a1, a2⟩ := ha
    have h0 : a 200 1 = σ 1 := by rw [a0 _ (by decide) (by decide)]; exact hm
    refine ls_X4_takeEdges_21 ?_
    unfold Lb_X4_takeEdges_21
    refine ⟨rgK (by omega), rgK (by omega), fun c => ?_, fun c => ?_⟩
    · have hvn : e = (σ 1).toNat := by omega
      subst hvn
      exact ⟨a1, a2⟩
    · have he' : e < (σ 1).toNat := by omega
      have ha := hV.a he'
      have hb := hV.b he'
      have hw := hV.w he'
      have r3 : a 203 e = σ (110 + e) := by rw [a0 _ (by decide) (by decide)]; exact hR.a he'
      have r4 : a 204 e = σ (150 + e) := by rw [a0 _ (by decide) (by decide)]; exact hR.b he'
      have r5 : a 205 e = σ (190 + e) := by rw [a0 _ (by decide) (by decide)]; exact hR.h he'
      refine at_of (n := 40) rfl rfl (by omega) ?_
      rw [r3]
      refine at_of (srX8_3 hk) (i := 14 * (σ 5).toNat + (σ (110 + e)).toNat) (by omega) (by omega) ?_
      rw [a0 _ (by omega) (by omega), hS.gA (by omega)]
      refine at_of (n := 40) rfl rfl (by omega) ?_
      rw [r4]
      refine at_of (srX8_3 hk) (i := 14 * (σ 5).toNat + (σ (150 + e)).toNat) (by omega) (by omega) ?_
      rw [a0 _ (by omega) (by omega), hS.gA (by omega)]
      have hpa : gPt σ (gAt σ (σ (110 + e)).toNat) = σ (21 + (σ (110 + e)).toNat) := hV.gp (by omega)
      have hpb : gPt σ (gAt σ (σ (150 + e)).toNat) = σ (21 + (σ (150 + e)).toNat) := hV.gp (by omega)
      have ga := hV.g (v := (σ (110 + e)).toNat) (by omega)
      have gb := hV.g (v := (σ (150 + e)).toNat) (by omega)
      have pa := hV.p (v := (σ (110 + e)).toNat) (by omega)
      have pb := hV.p (v := (σ (150 + e)).toNat) (by omega)
      have one : gAt σ (σ (110 + e)).toNat = gAt σ (σ (150 + e)).toNat → σ (21 + (σ (110 + e)).toNat) = σ (21 + (σ (150 + e)).toNat) := hV.one (by omega) (by omega)
      have hcut : cutE σ e ↔ σ (21 + (σ (110 + e)).toNat) ≠ σ (21 + (σ (150 + e)).toNat) := Iff.rfl
      have hpull : ∀ g p : Int, pullE σ g p e = if gAt σ (σ (110 + e)).toNat = gAt σ (σ (150 + e)).toNat then 0 else (if gAt σ (σ (110 + e)).toNat = g ∧ σ (21 + (σ (150 + e)).toNat) = p then σ (190 + e) else 0) + (if gAt σ (σ (150 + e)).toNat = g ∧ σ (21 + (σ (110 + e)).toNat) = p then σ (190 + e) else 0) := fun _ _ => rfl
      have qa : a 116 (gAt σ (σ (110 + e)).toNat).toNat = σ (21 + (σ (110 + e)).toNat) := by
        rw [a0 _ (by decide) (by decide), hp _ (by omega), Int.toNat_of_nonneg ga.1, hpa]
      have qb : a 116 (gAt σ (σ (150 + e)).toNat).toNat = σ (21 + (σ (150 + e)).toNat) := by
        rw [a0 _ (by decide) (by decide), hp _ (by omega), Int.toNat_of_nonneg gb.1, hpb]
      generalize gAt σ (σ (110 + e)).toNat = A at *
      generalize gAt σ (σ (150 + e)).toNat = B at *
      generalize σ (21 + (σ (110 + e)).toNat) = PA at *
      generalize σ (21 + (σ (150 + e)).toNat) = PB at *
      refine ⟨rgK (by omega), rgK (by omega), fun d => kk he' a ⟨a0, ?_, fun g p hg hp4 => ?_⟩, fun d => ?_⟩
      · rw [a1, sm_succ, if_neg (fun z => (hcut.mp z) (one d))]; omega
      · rw [a2 g p hg hp4, sm_succ, hpull, if_pos d]; omega
      · refine at_of (n := 40) rfl rfl (by omega) ?_
        rw [r5]
        refine at_of (n := 14) rfl (i := B.toNat) (by omega) (by omega) ?_
        rw [qb]
        refine add_of (n := 56) rfl (i := 4 * A.toNat + PB.toNat) (by omega) (by omega) (fun I14 e14 => ?_)
        have g14 : I14 116 = a 116 := by rw [e14, up2_key (by decide)]
        refine at_of (n := 14) rfl (i := A.toNat) (by omega) (by omega) ?_
        rw [g14, qa]
        refine add_of (n := 56) rfl (i := 4 * B.toNat + PA.toNat) (by omega) (by omega) (fun I16 e16 => ?_)
        have g16 : I16 116 = a 116 := by rw [e16, up2_key (by decide), g14]
        have h16 : I16 113 = a 113 := by rw [e16, up2_key (by decide), e14, up2_key (by decide)]
        refine at_of (n := 14) rfl (i := A.toNat) (by omega) (by omega) ?_
        rw [g16, qa]
        refine at_of (n := 14) rfl (i := B.toNat) (by omega) (by omega) ?_
        rw [g16, qb]
        have fin : ∀ (I9 : Ii) (x : Int), I9 = up2 I16 113 5 x → x = a 113 5 + (if cutE σ e then σ (190 + e) else 0) → L_X4_takeEdges_21 200 k2 _ n (σ 5 * 14) ((e : Int) + 1) I9 J := fun I9 x h9 hx => by
          refine kk he' I9 ⟨fun q h1 h2 => ?_, ?_, fun g p hg hp4 => ?_⟩
          · rw [h9, up2_key h2, e16, up2_key h1, e14, up2_key h1]; exact a0 q h1 h2
          · rw [h9, up2_self, hx, a1, sm_succ]
          · rw [h9, up2_key (by decide), e16, up2_row, sm_succ, hpull, if_neg d, ← a2 g p hg hp4]
            have e14' : I14 119 = updr (a 119) (4 * A.toNat + PB.toNat) (a 119 (4 * A.toNat + PB.toNat) + σ (190 + e)) := by rw [e14, up2_row]
            by_cases q1 : 4 * g + p = 4 * B.toNat + PA.toNat
            · rw [q1, updr_self, e14', updr_ne (by omega), if_neg (by omega), if_pos (by omega)]; omega
            · have n1 : ¬ (B = (g : Int) ∧ PA = (p : Int)) := by omega
              rw [updr_ne q1, e14', if_neg n1]
              by_cases q2 : 4 * g + p = 4 * A.toNat + PB.toNat
              · rw [q2, updr_self, if_pos (by omega)]; omega
              · rw [updr_ne q2, if_neg (by omega)]; omega
        exact ⟨rgK (by omega), rgK (by omega), fun d2 I21 h21 => fin I21 _ h21 (by rw [if_pos (hcut.mpr d2), h16]), fun d2 I22 h22 => fin I22 _ h22 (by rw [if_neg (fun z => (hcut.mp z) d2), h16])⟩
  · rw [e2, up2_self]; rfl
  · rw [e2, up2_key (by decide), e1, upr_self, filR_lt (by omega)]; rfl
end TK
