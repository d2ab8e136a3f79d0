/-! ===== pieces, the largest piece ===== -/
theorem ushr_n {a k : Nat} {z : Int} (hz : z = (k : Int)) (hk : k < 32) (h : a < 2147483648) : ushrZ (a : Int) z = ((a / 2 ^ k : Nat) : Int) := by subst hz; exact ushrZ_nat hk h
theorem and_n {a b : Nat} {z : Int} (hz : z = (b : Int)) (ha : a < 2147483648) : andZ (a : Int) z = ((a &&& b : Nat) : Int) := by subst hz; exact andZ_nat ha
theorem bitCount_of {I : Ii} {J : Jj} {x : Int} {s : Nat} (hx : x = (s : Int)) (hs : s < 16384) {Q : Int → Ii → Jj → Prop} (h : Q (cntB s 14) I J) : wp_J6_bitCount_0f7a4 x I J Q := by
  subst hx
  unfold wp_J6_bitCount_0f7a4
  have l1 : bcA s ≤ s := Nat.sub_le _ _
  have e1 : (s : Int) - andZ (ushrZ (s : Int) 1) 1431655765 = ((bcA s : Nat) : Int) := by
    have q : ((s / 2) &&& 1431655765) ≤ s / 2 := Nat.and_le_left
    rw [ushr_n (k := 1) (z := 1) rfl (by decide) (by omega), and_n (b := 1431655765) (z := 1431655765) rfl (by omega)]
    rw [show (2 : Nat) ^ 1 = 2 from rfl]
    unfold bcA
    omega
  rw [e1]
  have q1 : (bcA s &&& 858993459) ≤ bcA s := Nat.and_le_left
  have q2 : ((bcA s / 4) &&& 858993459) ≤ bcA s / 4 := Nat.and_le_left
  have l2 : bcZ s < 32768 := by unfold bcZ; omega
  have e2 : andZ ((bcA s : Nat) : Int) 858993459 + andZ (ushrZ ((bcA s : Nat) : Int) 2) 858993459 = ((bcZ s : Nat) : Int) := by
    rw [ushr_n (k := 2) (z := 2) rfl (by decide) (by omega), and_n (b := 858993459) (z := 858993459) rfl (by omega), and_n (b := 858993459) (z := 858993459) rfl (by omega)]
    rfl
  rw [e2]
  have q3 : ((bcZ s + bcZ s / 16) &&& 252645135) ≤ bcZ s + bcZ s / 16 := Nat.and_le_left
  have l3 : bcY s < 65536 := by unfold bcY; omega
  have e3 : andZ (((bcZ s : Nat) : Int) + ushrZ ((bcZ s : Nat) : Int) 4) 252645135 = ((bcY s : Nat) : Int) := by
    rw [ushr_n (k := 4) (z := 4) rfl (by decide) (by omega)]
    exact and_n (a := bcZ s + bcZ s / 16) (b := 252645135) (z := 252645135) rfl (by omega)
  rw [e3]
  have l4 : bcX s < 70000 := by unfold bcX; omega
  have e4 : ((bcY s : Nat) : Int) + ushrZ ((bcY s : Nat) : Int) 8 = ((bcX s : Nat) : Int) := by
    rw [ushr_n (k := 8) (z := 8) rfl (by decide) (by omega)]
    rfl
  rw [e4]
  have e5 : andZ (((bcX s : Nat) : Int) + ushrZ ((bcX s : Nat) : Int) 16) 63 = ((bcN s : Nat) : Int) := by
    rw [ushr_n (k := 16) (z := 16) rfl (by decide) (by omega)]
    exact and_n (a := bcX s + bcX s / 65536) (b := 63) (z := 63) rfl (by omega)
  rw [e5, bcN_cN hs, ← cntB_cN]
  exact h
/-- pieces: what is left, and how many were found -/
def pcZ (σ : Nat → Int) (W : Nat) : Nat → Nat × Nat
  | 0 => (W, 0)
  | v + 1 => if (pcZ σ W v).1.testBit v = true then (difN (pcZ σ W v).1 (tgZ σ W v), (pcZ σ W v).2 + 1) else pcZ σ W v
theorem pcZ_succ (σ : Nat → Int) (W v : Nat) : pcZ σ W (v + 1) = if (pcZ σ W v).1.testBit v = true then (difN (pcZ σ W v).1 (tgZ σ W v), (pcZ σ W v).2 + 1) else pcZ σ W v := rfl
theorem pcZ_lt {σ : Nat → Int} {W : Nat} (h : W < 2 ^ 14) : ∀ v, (pcZ σ W v).1 < 2 ^ 14
  | 0 => h
  | v + 1 => by
    rw [pcZ_succ]
    split
    · exact difN_lt (pcZ_lt h v)
    · exact pcZ_lt h v
theorem pcZ_cnt {σ : Nat → Int} {W : Nat} : ∀ v, (pcZ σ W v).2 ≤ v
  | 0 => Nat.le_refl 0
  | v + 1 => by
    have := pcZ_cnt (σ := σ) (W := W) v
    rw [pcZ_succ]
    split
    · dsimp only; omega
    · omega
def pieZ (σ : Nat → Int) (W : Nat) : Int := ((pcZ σ W (σ 0).toNat).2 : Int)
/-- the largest piece of the first v -/
def lgZ (σ : Nat → Int) : Nat → Int
  | 0 => 0
  | v + 1 => if cntB (tgZ σ (2 ^ (σ 0).toNat - 1) v) 14 ≤ lgZ σ v then lgZ σ v else cntB (tgZ σ (2 ^ (σ 0).toNat - 1) v) 14
theorem lgZ_b (σ : Nat → Int) : ∀ v, 0 ≤ lgZ σ v ∧ lgZ σ v ≤ 14
  | 0 => by simp [lgZ]
  | v + 1 => by
    have h1 := lgZ_b σ v
    have h2 := cntB_n (tgZ σ (2 ^ (σ 0).toNat - 1) v) 14
    unfold lgZ
    split <;> omega
section PC
variable {I : Ii} {J : Jj}
variable {k : Nat} {σ : Nat → Int} {nm : Nat → Int64}
theorem c_pieces {x : Int} {W : Nat} (hk : gK k) (hV : VS σ) (hR : RG k I J σ nm) (hx : x = (W : Int)) (hW : W < 16384) : wp_X2_pieces k x I J (fun r _ _ => r = pieZ σ W) := by
  subst hx
  have b0 := ms_0 hV.M
  have hn := hR.n
  refine ⟨hk, 15, loopN (L := fun n (a : Nat × Nat) v => L_X2_pieces_7 k (W : Int) _ n (a.1 : Int) (a.2 : Int) v I J) (fun v a => a = pcZ σ W v) (N := (σ 0).toNat) (fun n v a hv ha kk => ?_) 15 0 (W, 0) (by omega) (by omega) rfl⟩
  refine ls_X2_pieces_7 ?_
  generalize hr : L_X2_pieces_7 k (W : Int) _ n = r at kk ⊢
  have l1 : a.1 < 2 ^ 14 := by rw [ha]; exact pcZ_lt (by omega) v
  unfold Lb_X2_pieces_7
  refine ⟨rgK (by omega), rgK (by omega), fun c => ?_, fun c => ?_⟩
  · rw [ha, show v = (σ 0).toNat by omega]; rfl
  · refine isIn_of (s := a.1) (k := v) rfl rfl (by omega) (by omega) (fun d => ⟨fun z => absurd z (by decide), fun _ => ?_⟩) (fun d => ⟨fun _ => kk (by omega) a ?_, fun z => absurd rfl z⟩)
    · refine fr_X2_spread (c_spread (v := v) hk hV hR rfl (by omega) rfl hW) (fun t ht => ?_)
      subst ht
      rw [andn_nat (by omega)]
      refine kk (by omega) (difN a.1 (tgZ σ W v), a.2 + 1) ?_
      rw [pcZ_succ, ← ha, if_pos d]
    · rw [pcZ_succ, ← ha, if_neg (by rw [d]; decide)]
theorem c_largestPiece (hk : gK k) (hV : VS σ) (hR : RG k I J σ nm) : wp_X2_largestPiece k I J (fun r _ _ => r = lgZ σ (σ 0).toNat) := by
  have b0 := ms_0 hV.M
  have hn := hR.n
  have p14 := pow_le14 (n := (σ 0).toNat) (by omega)
  have e0 : shlZ 1 (I k 0) - 1 = ((2 ^ (σ 0).toNat - 1 : Nat) : Int) := by
    have := shl1Z (k := (σ 0).toNat) (by omega)
    rw [Int.toNat_of_nonneg b0.1, ← hn] at this
    rw [this, hn]
    omega
  refine ⟨hk, ?_⟩
  rw [e0]
  refine ⟨15, loopN (L := fun n a v => L_X2_largestPiece_13 k _ n ((2 ^ (σ 0).toNat - 1 : Nat) : Int) a v I J) (fun v a => a = lgZ σ v) (N := (σ 0).toNat) (fun n v a hv ha kk => ?_) 15 0 0 (by omega) (by omega) rfl⟩
  refine ls_X2_largestPiece_13 ?_
  generalize hr : L_X2_largestPiece_13 k _ n = r at kk ⊢
  unfold Lb_X2_largestPiece_13
  have la := lgZ_b σ v
  refine ⟨rgK (by omega), rgK (by omega), fun c => ?_, fun c => ?_⟩
  · rw [ha, show v = (σ 0).toNat by omega]
  · refine fr_X2_spread (c_spread (v := v) hk hV hR rfl (by omega) rfl (by omega)) (fun t ht => ?_)
    subst ht
    have tl : tgZ σ (2 ^ (σ 0).toNat - 1) v < 2 ^ 14 := lpZ_lt (Nat.pow_lt_pow_right (by decide) (by omega)) hV.ends14 _
    refine bitCount_of rfl (by omega) ?_
    have cb := cntB_n (tgZ σ (2 ^ (σ 0).toNat - 1) v) 14
    refine max_of (rgK (by omega)) (rgK (by omega)) (fun d => kk (by omega) _ ?_) (fun d => kk (by omega) _ ?_)
    · unfold lgZ; rw [if_neg (by rw [← ha]; omega)]
    · unfold lgZ; rw [if_pos (by rw [← ha]; omega), ha]
end PC
/-! ===== what stays, by keys ===== -/
theorem Same.k {l : List (Nat × Nat)} {I I' : Ii} {J J' : Jj} {q : Nat} (h : Same (WL l) I J I' J') (hn : wlk l q = false := by rfl) : I' q = I q := h.rI (WL_n hn)
theorem Same.kJ {l : List (Nat × Nat)} {I I' : Ii} {J J' : Jj} {q : Nat} (h : Same (WL l) I J I' J') (hn : wlk l q = false := by rfl) : J' q = J q := h.rJ (WL_n hn)
theorem Same.i {l : List (Nat × Nat)} {I I' : Ii} {J J' : Jj} {q i : Nat} (h : Same (WL l) I J I' J') (hn : wl l q i = false := by rfl) : I' q i = I q i := (h q i (fun z => by unfold WL at z; rw [hn] at z; cases z)).1
theorem Same.iJ {l : List (Nat × Nat)} {I I' : Ii} {J J' : Jj} {q i : Nat} (h : Same (WL l) I J I' J') (hn : wl l q i = false := by rfl) : J' q i = J q i := (h q i (fun z => by unfold WL at z; rw [hn] at z; cases z)).2
theorem all_not {f : Nat → Bool} {l : List Nat} (h : (l.all (fun q => !f q)) = true) {q : Nat} (hq : q ∈ l) : f q = false := by
  have := List.all_eq_true.mp h q hq
  simpa using this
theorem RG.fr {l : List (Nat × Nat)} {k : Nat} {I I' : Ii} {J J' : Jj} {σ : Nat → Int} {nm : Nat → Int64} (h : RG k I J σ nm) (hs : Same (WL l) I J I' J') (hn : ([k, k + 1, k + 2, k + 3, k + 4, k + 5].all (fun q => !wlk l q)) = true := by rfl) : RG k I' J' σ nm :=
  h.cong (hs.k (all_not hn (by simp))) (hs.kJ (all_not hn (by simp))) (hs.k (all_not hn (by simp))) (hs.k (all_not hn (by simp))) (hs.k (all_not hn (by simp))) (hs.k (all_not hn (by simp)))
theorem RS.fr {l : List (Nat × Nat)} {k : Nat} {I I' : Ii} {J J' : Jj} {σ : Nat → Int} (h : RS k I σ) (hs : Same (WL l) I J I' J') (hn : ([k, k + 1, k + 2, k + 3, k + 4].all (fun q => !wlk l q)) = true := by rfl) : RS k I' σ :=
  h.cong (hs.k (all_not hn (by simp))) (hs.k (all_not hn (by simp))) (hs.k (all_not hn (by simp))) (hs.k (all_not hn (by simp))) (hs.k (all_not hn (by simp)))
theorem gK_ge {k : Nat} (h : gK k) : 200 ≤ k ∧ k ≤ 220 := by unfold gK at h; omega
theorem sK_ge {k : Nat} (h : sK k) : 300 ≤ k ∧ k ≤ 380 := by unfold sK at h; omega
theorem gK200 : gK 200 := Or.inl rfl
theorem sK300 : sK 300 := Or.inl rfl
theorem sK310 : sK 310 := Or.inr (Or.inl rfl)
/-! ===== the measures ===== -/
theorem bset_add (c : Nat → Bool) (n : Nat) : bset c (n + 1) = bset c n + if c n then 2 ^ n else 0 := by
  rw [bset_succ]
  have h := bset_lt c n
  by_cases q : c n = true
  · rw [if_pos q, if_pos q, Nat.one_mul, Nat.or_comm, Nat.add_comm]
    have := Nat.two_pow_add_eq_or_of_lt h 1
    rw [Nat.mul_one] at this
    exact this.symm
  · rw [if_neg q, if_neg q, Nat.zero_mul, Nat.or_zero, Nat.add_zero]
/-- by what a group is joined at edge e to the other groups in a part -/
def pullE (σ : Nat → Int) (g p : Int) (e : Nat) : Int :=
  if gAt σ (σ (110 + e)).toNat = gAt σ (σ (150 + e)).toNat then 0
  else (if gAt σ (σ (110 + e)).toNat = g ∧ σ (21 + (σ (150 + e)).toNat) = p then σ (190 + e) else 0) + (if gAt σ (σ (150 + e)).toNat = g ∧ σ (21 + (σ (110 + e)).toNat) = p then σ (190 + e) else 0)
def pullZ (σ : Nat → Int) (g p : Int) : Int := sm (pullE σ g p) (σ 1).toNat
/-- the measures tell the row -/
def ME (σ : Nat → Int) (I : Ii) : Prop := I 113 0 = grs σ ∧ I 113 1 = σ 2 ∧ I 113 2 = limZ σ ∧ I 113 3 = σ 4 ∧ I 113 4 = debtsZ σ ∧ I 113 5 = cutZ σ ∧
  (∀ g : Nat, (g : Int) < grs σ → I 114 g = ((memG σ g : Nat) : Int) ∧ I 115 g = gW σ g ∧ I 116 g = gPt σ g) ∧
  (∀ p : Nat, (p : Int) < σ 2 → I 117 p = ((inP σ p : Nat) : Int) ∧ I 118 p = wOf σ p) ∧
  (∀ g p : Nat, (g : Int) < grs σ → (p : Int) < σ 2 → I 119 (4 * g + p) = pullZ σ g p)
section TK
variable {I : Ii} {J : Jj} {σ : Nat → Int} {nm : Nat → Int64} {k2 : Nat}
theorem c_takeVertices (hk : sK k2) (hV : VS σ) (hR : RG 200 I J σ nm) (hS : RS k2 I σ) : wp_X4_takeVertices 200 k2 I J (fun I' _ =>
    (∀ g : Nat, g < 14 → I' 114 g = ((memG σ g : Nat) : Int) ∧ I' 115 g = gW σ g) ∧ (∀ g : Nat, (g : Int) < grs σ → I' 116 g = gPt σ g) ∧ (∀ p : Nat, p < 4 → I' 117 p = ((inP σ p : Nat) : Int) ∧ I' 118 p = wOf σ p)) := by
  have b0 := ms_0 hV.M
  have b2 := ms_2 hV.M
  have b5 := ms_5 hV.M
  have gr := grs_b hV.M
  have kg := sK_ge hk
  have hn := hR.n
  refine ⟨gK200, hk, fill_of (n := 14) rfl (fun I1 e1 => fill_of (n := 14) rfl (fun I2 e2 => fill_of (n := 4) rfl (fun I3 e3 => fill_of (n := 4) rfl (fun I4 e4 => ⟨hk, ?_⟩))))⟩
  have o4 : ∀ q, q < 114 ∨ 118 < q → I4 q = I q := fun q hq => by rw [e4, upr_ne (by omega), e3, upr_ne (by omega), e2, upr_ne (by omega), e1, upr_ne (by omega)]
  rw [o4 _ (by omega), hS.l]
  refine ⟨15, loopN (L := fun n (a : Ii) v => L_X4_takeVertices_40 200 k2 _ n (σ 5 * 14) v a J) (fun v a => (∀ q, q < 114 ∨ 118 < q → a q = I q) ∧
      (∀ g : Nat, g < 14 → a 114 g = ((bset (fun u => decide (gAt σ u = (g : Int))) v : Nat) : Int) ∧ a 115 g = sm (fun u => if gAt σ u = (g : Int) then σ (7 + u) else 0) v) ∧
      (∀ u, u < v → a 116 (gAt σ u).toNat = σ (21 + u)) ∧
      (∀ p : Nat, p < 4 → a 117 p = ((bset (fun u => decide (σ (21 + u) = (p : Int))) v : Nat) : Int) ∧ a 118 p = sm (fun u => if σ (21 + u) = (p : Int) then σ (7 + u) else 0) v)) (N := (σ 0).toNat) (fun n v a hv ha kk => ?_) 15 0 I4 (by omega) (by omega) ⟨o4, fun g hg => ⟨?_, ?_⟩, fun u hu => by omega, fun p hp => ⟨?_, ?_⟩⟩⟩
  · obtain ⟨a0, a1, a2, a3⟩ := ha
    have h0 : a 200 0 = σ 0 := by rw [a0 _ (by omega)]; exact hn
    refine ls_X4_takeVertices_40 ?_
    unfold Lb_X4_takeVertices_40
    refine ⟨rgK (by omega), rgK (by omega), fun c => ?_, fun c => ?_⟩
    · have hvn : v = (σ 0).toNat := by omega
      subst hvn
      refine ⟨fun g hg => a1 g hg, fun g hg => ?_, fun p hp => a3 p hp⟩
      obtain ⟨u, hu, eu⟩ := hV.GV g (by omega) hg
      have := a2 u hu
      rw [eu] at this
      rw [show g = ((g : Int)).toNat by omega, this, ← hV.gp hu, eu]
      rfl
    · have hv' : v < (σ 0).toNat := by omega
      have hg := hV.g hv'
      have hp := hV.p hv'
      have hr1 : a (k2 + 3) (14 * (σ 5).toNat + v) = gAt σ v := by rw [a0 _ (by omega)]; exact hS.gA hv'
      have hr2 : a (k2 + 1) v = σ (21 + v) := by rw [a0 _ (by omega)]; exact hS.p hv'
      have hw : I 202 v = σ (7 + v) := hR.w hv'
      refine at_of (srX8_3 hk) (i := 14 * (σ 5).toNat + v) (by omega) (by omega) ?_
      rw [hr1]
      refine at_of (srX8_1 hk) rfl (by omega) ?_
      rw [hr2]
      refine add_of (n := 14) rfl (i := (gAt σ v).toNat) (by omega) (by omega) (fun I10 e10 => ?_)
      refine at_of (n := 14) rfl rfl (by omega) ?_
      rw [e10, up2_key (by decide), a0 _ (by omega), hw, ← e10]
      refine add_of (n := 14) rfl (i := (gAt σ v).toNat) (by omega) (by omega) (fun I12 e12 => ?_)
      refine put_of (n := 14) rfl (i := (gAt σ v).toNat) (by omega) (by omega) (fun I13 e13 => ?_)
      refine add_of (n := 4) rfl (i := (σ (21 + v)).toNat) (by omega) (by omega) (fun I14 e14 => ?_)
      refine at_of (n := 14) rfl rfl (by omega) ?_
      rw [e14, up2_key (by decide), e13, up2_key (by decide), e12, up2_key (by decide), e10, up2_key (by decide), a0 _ (by omega), hw, ← e10, ← e12, ← e13, ← e14]
      refine add_of (n := 4) rfl (i := (σ (21 + v)).toNat) (by omega) (by omega) (fun I16 e16 => ?_)
      refine kk hv' I16 ⟨fun q hq => ?_, fun g hg14 => ⟨?_, ?_⟩, fun u hu => ?_, fun p hp4 => ⟨?_, ?_⟩⟩
      · rw [e16, up2_key (by omega), e14, up2_key (by omega), e13, up2_key (by omega), e12, up2_key (by omega), e10, up2_key (by omega)]; exact a0 q hq
      · rw [e16, up2_key (by decide), e14, up2_key (by decide), e13, up2_key (by decide), e12, up2_key (by decide), e10, up2_row, bset_add, shlT1 (by omega)]
        by_cases q : g = (gAt σ v).toNat
        · subst q
          rw [updr_self, (a1 _ hg14).1, if_pos (by simp; omega)]
          omega
        · rw [updr_ne q, (a1 _ hg14).1, if_neg (by simp; omega)]
          omega
      · rw [e16, up2_key (by decide), e14, up2_key (by decide), e13, up2_key (by decide), e12, up2_row, sm_succ]
        by_cases q : g = (gAt σ v).toNat
        · subst q
          rw [updr_self, e10, up2_key (by decide), (a1 _ hg14).2, if_pos (by omega)]
        · rw [updr_ne q, e10, up2_key (by decide), (a1 _ hg14).2, if_neg (by omega)]
          omega
      · rw [e16, up2_key (by decide), e14, up2_key (by decide), e13, up2_row]
        have hu' : u < (σ 0).toNat := by omega
        have hgu := hV.g hu'
        by_cases q : (gAt σ u).toNat = (gAt σ v).toNat
        · rw [q, updr_self]
          exact (hV.one hu' hv' (by omega)).symm
        · rw [updr_ne q, e12, up2_key (by decide), e10, up2_key (by decide)]
          exact a2 u (by by_cases z : u = v
                         · subst z; exact absurd rfl q
                         · omega)
      · rw [e16, up2_key (by decide), e14, up2_row, bset_add, shlT1 (by omega)]
        by_cases q : p = (σ (21 + v)).toNat
        · subst q
          rw [updr_self, e13, up2_key (by decide), e12, up2_key (by decide), e10, up2_key (by decide), (a3 _ hp4).1, if_pos (by simp; omega)]
          omega
        · rw [updr_ne q, e13, up2_key (by decide), e12, up2_key (by decide), e10, up2_key (by decide), (a3 _ hp4).1, if_neg (by simp; omega)]
          omega
      · rw [e16, up2_row, sm_succ]
        by_cases q : p = (σ (21 + v)).toNat
        · subst q
          rw [updr_self, e14, up2_key (by decide), e13, up2_key (by decide), e12, up2_key (by decide), e10, up2_key (by decide), (a3 _ hp4).2, if_pos (by omega)]
        · rw [updr_ne q, e14, up2_key (by decide), e13, up2_key (by decide), e12, up2_key (by decide), e10, up2_key (by decide), (a3 _ hp4).2, if_neg (by omega)]
          omega
  · rw [e4, upr_ne (by decide), e3, upr_ne (by decide), e2, upr_ne (by decide), e1, upr_self, filR_lt hg]; rfl
  · rw [e4, upr_ne (by decide), e3, upr_ne (by decide), e2, upr_self, filR_lt hg]; rfl
  · rw [e4, upr_ne (by decide), e3, upr_self, filR_lt hp]; rfl
  · rw [e4, upr_self, filR_lt hp]; rfl
theorem debtAt_of {x : Int} (hV : VS σ) (hl : I 113 2 = limZ σ) (hx : -3000 ≤ x ∧ x ≤ 3000) {Q : Int → Ii → Jj → Prop} (h : Q (pos (x - limZ σ)) I J) : wp_X4_debtAt x I J Q := by
  have bl := limZ_b hV.M
  refine ⟨rgK (by omega), rgK (by omega), fun c => ?_, fun c => ?_⟩
  · unfold pos at h; rw [if_neg (by omega)] at h; exact h
  · unfold pos at h; rw [if_pos (by omega)] at h; rw [hl]; exact h
theorem c_takeEdges (hk : sK k2) (hV : VS σ) (hR : RG 200 I J σ nm) (hS : RS k2 I σ) (hp : ∀ g : Nat, (g : Int) < grs σ → I 116 g = gPt σ g) : wp_X4_takeEdges 200 k2 I J (fun I' _ =>
    I' 113 5 = cutZ σ ∧ (∀ g p : Nat, (g : Int) < grs σ → p < 4 → I' 119 (4 * g + p) = pullZ σ g p)) := by
  have b0 := ms_0 hV.M
  have b1 := ms_1 hV.M
  have b2 := ms_2 hV.M
  have b5 := ms_5 hV.M
  have gr := grs_b hV.M
  have kg := sK_ge hk
  have hm := hR.m
  refine ⟨gK200, hk, fill_of (n := 56) rfl (fun I1 e1 I2 e2 => ⟨hk, ?_⟩)⟩
  have o2 : ∀ q, q ≠ 119 → q ≠ 113 → I2 q = I q := fun q h1 h2 => by rw [e2, up2_key h2, e1, upr_ne h1]
  rw [o2 _ (by omega) (by omega), hS.l]
  refine ⟨41, loopN (L := fun n (a : Ii) v => L_X4_takeEdges_21 200 k2 _ n (σ 5 * 14) v a J) (fun v a => (∀ q, q ≠ 119 → q ≠ 113 → a q = I q) ∧
      a 113 5 = sm (fun e => if cutE σ e then σ (190 + e) else 0) v ∧ (∀ g p : Nat, (g : Int) < grs σ → p < 4 → a 119 (4 * g + p) = sm (pullE σ g p) v)) (N := (σ 1).toNat) (fun n e a he ha kk => ?_) 41 0 I2 (by omega) (by omega) ⟨o2, ?_, fun g p hg hp => ?_⟩⟩
  · obtain ⟨a0, a1, a2⟩ := ha
    have h0 : a 200 1 = σ 1 := by rw [a0 _ (by decide) (by decide)]; exact hm
    refine ls_X4_takeEdges_21 ?_
    unfold Lb_X4_takeEdges_21
    refine ⟨rgK (by omega), rgK (by omega), fun c => ?_, fun c => ?_⟩
    · have hvn : e = (σ 1).toNat := by omega
      subst hvn
      exact ⟨a1, a2⟩
    · have he' : e < (σ 1).toNat := by omega
      have ha := hV.a he'
      have hb := hV.b he'
      have hw := hV.w he'
      have r3 : a 203 e = σ (110 + e) := by rw [a0 _ (by decide) (by decide)]; exact hR.a he'
      have r4 : a 204 e = σ (150 + e) := by rw [a0 _ (by decide) (by decide)]; exact hR.b he'
      have r5 : a 205 e = σ (190 + e) := by rw [a0 _ (by decide) (by decide)]; exact hR.h he'
      refine at_of (n := 40) rfl rfl (by omega) ?_
      rw [r3]
      refine at_of (srX8_3 hk) (i := 14 * (σ 5).toNat + (σ (110 + e)).toNat) (by omega) (by omega) ?_
      rw [a0 _ (by omega) (by omega), hS.gA (by omega)]
      refine at_of (n := 40) rfl rfl (by omega) ?_
      rw [r4]
      refine at_of (srX8_3 hk) (i := 14 * (σ 5).toNat + (σ (150 + e)).toNat) (by omega) (by omega) ?_
      rw [a0 _ (by omega) (by omega), hS.gA (by omega)]
      have hpa : gPt σ (gAt σ (σ (110 + e)).toNat) = σ (21 + (σ (110 + e)).toNat) := hV.gp (by omega)
      have hpb : gPt σ (gAt σ (σ (150 + e)).toNat) = σ (21 + (σ (150 + e)).toNat) := hV.gp (by omega)
      have ga := hV.g (v := (σ (110 + e)).toNat) (by omega)
      have gb := hV.g (v := (σ (150 + e)).toNat) (by omega)
      have pa := hV.p (v := (σ (110 + e)).toNat) (by omega)
      have pb := hV.p (v := (σ (150 + e)).toNat) (by omega)
      have one : gAt σ (σ (110 + e)).toNat = gAt σ (σ (150 + e)).toNat → σ (21 + (σ (110 + e)).toNat) = σ (21 + (σ (150 + e)).toNat) := hV.one (by omega) (by omega)
      have hcut : cutE σ e ↔ σ (21 + (σ (110 + e)).toNat) ≠ σ (21 + (σ (150 + e)).toNat) := Iff.rfl
      have hpull : ∀ g p : Int, pullE σ g p e = if gAt σ (σ (110 + e)).toNat = gAt σ (σ (150 + e)).toNat then 0 else (if gAt σ (σ (110 + e)).toNat = g ∧ σ (21 + (σ (150 + e)).toNat) = p then σ (190 + e) else 0) + (if gAt σ (σ (150 + e)).toNat = g ∧ σ (21 + (σ (110 + e)).toNat) = p then σ (190 + e) else 0) := fun _ _ => rfl
      have qa : a 116 (gAt σ (σ (110 + e)).toNat).toNat = σ (21 + (σ (110 + e)).toNat) := by
        rw [a0 _ (by decide) (by decide), hp _ (by omega), Int.toNat_of_nonneg ga.1, hpa]
      have qb : a 116 (gAt σ (σ (150 + e)).toNat).toNat = σ (21 + (σ (150 + e)).toNat) := by
        rw [a0 _ (by decide) (by decide), hp _ (by omega), Int.toNat_of_nonneg gb.1, hpb]
      generalize gAt σ (σ (110 + e)).toNat = A at *
      generalize gAt σ (σ (150 + e)).toNat = B at *
      generalize σ (21 + (σ (110 + e)).toNat) = PA at *
      generalize σ (21 + (σ (150 + e)).toNat) = PB at *
      refine ⟨rgK (by omega), rgK (by omega), fun d => kk he' a ⟨a0, ?_, fun g p hg hp4 => ?_⟩, fun d => ?_⟩
      · rw [a1, sm_succ, if_neg (fun z => (hcut.mp z) (one d))]; omega
      · rw [a2 g p hg hp4, sm_succ, hpull, if_pos d]; omega
      · refine at_of (n := 40) rfl rfl (by omega) ?_
        rw [r5]
        refine at_of (n := 14) rfl (i := B.toNat) (by omega) (by omega) ?_
        rw [qb]
        refine add_of (n := 56) rfl (i := 4 * A.toNat + PB.toNat) (by omega) (by omega) (fun I14 e14 => ?_)
        have g14 : I14 116 = a 116 := by rw [e14, up2_key (by decide)]
        refine at_of (n := 14) rfl (i := A.toNat) (by omega) (by omega) ?_
        rw [g14, qa]
        refine add_of (n := 56) rfl (i := 4 * B.toNat + PA.toNat) (by omega) (by omega) (fun I16 e16 => ?_)
        have g16 : I16 116 = a 116 := by rw [e16, up2_key (by decide), g14]
        have h16 : I16 113 = a 113 := by rw [e16, up2_key (by decide), e14, up2_key (by decide)]
        refine at_of (n := 14) rfl (i := A.toNat) (by omega) (by omega) ?_
        rw [g16, qa]
        refine at_of (n := 14) rfl (i := B.toNat) (by omega) (by omega) ?_
        rw [g16, qb]
        have fin : ∀ (I9 : Ii) (x : Int), I9 = up2 I16 113 5 x → x = a 113 5 + (if cutE σ e then σ (190 + e) else 0) → L_X4_takeEdges_21 200 k2 _ n (σ 5 * 14) ((e : Int) + 1) I9 J := fun I9 x h9 hx => by
          refine kk he' I9 ⟨fun q h1 h2 => ?_, ?_, fun g p hg hp4 => ?_⟩
          · rw [h9, up2_key h2, e16, up2_key h1, e14, up2_key h1]; exact a0 q h1 h2
          · rw [h9, up2_self, hx, a1, sm_succ]
          · rw [h9, up2_key (by decide), e16, up2_row, sm_succ, hpull, if_neg d, ← a2 g p hg hp4]
            have e14' : I14 119 = updr (a 119) (4 * A.toNat + PB.toNat) (a 119 (4 * A.toNat + PB.toNat) + σ (190 + e)) := by rw [e14, up2_row]
            by_cases q1 : 4 * g + p = 4 * B.toNat + PA.toNat
            · rw [q1, updr_self, e14', updr_ne (by omega), if_neg (by omega), if_pos (by omega)]; omega
            · have n1 : ¬ (B = (g : Int) ∧ PA = (p : Int)) := by omega
              rw [updr_ne q1, e14', if_neg n1]
              by_cases q2 : 4 * g + p = 4 * A.toNat + PB.toNat
              · rw [q2, updr_self, if_pos (by omega)]; omega
              · rw [updr_ne q2, if_neg (by omega)]; omega
        exact ⟨rgK (by omega), rgK (by omega), fun d2 I21 h21 => fin I21 _ h21 (by rw [if_pos (hcut.mpr d2), h16]), fun d2 I22 h22 => fin I22 _ h22 (by rw [if_neg (fun z => (hcut.mp z) d2), h16])⟩
  · rw [e2, up2_self]; rfl
  · rw [e2, up2_key (by decide), e1, upr_self, filR_lt (by omega)]; rfl
end TK
/-! ===== sums ===== -/
theorem sm_add (f g : Nat → Int) : ∀ n, sm (fun k => f k + g k) n = sm f n + sm g n
  | 0 => rfl
  | n + 1 => by rw [sm_succ, sm_succ, sm_succ, sm_add f g n]; omega
theorem sm_sub (f g : Nat → Int) : ∀ n, sm (fun k => f k - g k) n = sm f n - sm g n
  | 0 => rfl
  | n + 1 => by rw [sm_succ, sm_succ, sm_succ, sm_sub f g n]; omega
theorem sm_zero : ∀ n, sm (fun _ => 0) n = 0
  | 0 => rfl
  | n + 1 => by rw [sm_succ, sm_zero n]; rfl
theorem sm_except {f h : Nat → Int} {a : Nat} : ∀ {n : Nat}, a < n → (∀ k, k < n → k ≠ a → f k = h k) → sm f n = sm h n + (f a - h a)
  | 0, ha, _ => by omega
  | n + 1, ha, hk => by
    rw [sm_succ, sm_succ]
    by_cases c : a = n
    · subst c
      rw [sm_cong (fun k hk2 => hk k (by omega) (by omega))]; omega
    · rw [sm_except (a := a) (by omega) (fun k hk2 hne => hk k (by omega) hne), hk n (by omega) (by omega)]; omega
/-! ===== gains and debts ===== -/
theorem debtZ_pos (σ : Nat → Int) (p : Int) : debtZ σ p = pos (wOf σ p - limZ σ) := rfl
theorem gainE_pull {σ : Nat → Int} {g p : Int} (hp : gPt σ g ≠ p) (e : Nat) : gainE σ g p e = pullE σ g p e - pullE σ g (gPt σ g) e := by
  unfold gainE pullE
  generalize gAt σ (σ (110 + e)).toNat = A
  generalize gAt σ (σ (150 + e)).toNat = B
  generalize σ (21 + (σ (110 + e)).toNat) = PA
  generalize σ (21 + (σ (150 + e)).toNat) = PB
  generalize σ (190 + e) = w
  by_cases h1 : A = g
  · by_cases h2 : B = g
    · rw [if_pos (by simp [h1, h2]), if_pos (by rw [h1, h2]), if_pos (by rw [h1, h2])]; rfl
    · have n1 : ¬ A = B := by omega
      rw [if_neg (by simp [h1, h2]), if_pos h1, if_neg n1, if_neg n1, if_neg (c := B = g ∧ PA = p) (fun z => h2 z.1), if_neg (c := B = g ∧ PA = gPt σ g) (fun z => h2 z.1)]
      by_cases q : PB = p
      · rw [if_pos q, if_pos ⟨h1, q⟩, if_neg (fun z => hp (by rw [← z.2, q]))]; omega
      · rw [if_neg q, if_neg (c := A = g ∧ PB = p) (fun z => q z.2)]
        by_cases q2 : PB = gPt σ g
        · rw [if_pos q2, if_pos ⟨h1, q2⟩]; omega
        · rw [if_neg q2, if_neg (fun z => q2 z.2)]; omega
  · by_cases h2 : B = g
    · have n1 : ¬ A = B := by omega
      rw [if_neg (by simp [h1, h2]), if_neg h1, if_neg n1, if_neg n1, if_neg (c := A = g ∧ PB = p) (fun z => h1 z.1), if_neg (c := A = g ∧ PB = gPt σ g) (fun z => h1 z.1)]
      by_cases q : PA = p
      · rw [if_pos q, if_pos ⟨h2, q⟩, if_neg (fun z => hp (by rw [← z.2, q]))]; omega
      · rw [if_neg q, if_neg (c := B = g ∧ PA = p) (fun z => q z.2)]
        by_cases q2 : PA = gPt σ g
        · rw [if_pos q2, if_pos ⟨h2, q2⟩]; omega
        · rw [if_neg q2, if_neg (fun z => q2 z.2)]; omega
    · rw [if_pos (by simp [h1, h2]), if_neg (c := A = g ∧ PB = p) (fun z => h1 z.1), if_neg (c := A = g ∧ PB = gPt σ g) (fun z => h1 z.1), if_neg (c := B = g ∧ PA = p) (fun z => h2 z.1), if_neg (c := B = g ∧ PA = gPt σ g) (fun z => h2 z.1)]
      split <;> rfl
theorem gainZ_pull (σ : Nat → Int) (g p : Int) : gainZ σ g p = pullZ σ g p - pullZ σ g (gPt σ g) := by
  unfold gainZ
  by_cases c : gPt σ g = p
  · rw [if_pos c, c]; omega
  · rw [if_neg c]
    unfold pullZ
    rw [← sm_sub]
    exact sm_cong (fun e _ => gainE_pull c e)
theorem dwZ_own {σ : Nat → Int} {g p : Int} (h : gPt σ g = p) : dwZ σ g p = debtsZ σ := by
  unfold dwZ debtsZ
  refine sm_cong (fun q _ => ?_)
  unfold dwQ
  rw [h, debtZ_pos]
  congr 1
  omega
theorem dwZ_move {σ : Nat → Int} (hV : VS σ) {g p : Int} (hg : 0 ≤ g ∧ g < grs σ) (hp : 0 ≤ p ∧ p < σ 2) (h : gPt σ g ≠ p) :
    dwZ σ g p = debtsZ σ - debtZ σ (gPt σ g) - debtZ σ p + pos (wOf σ (gPt σ g) - gW σ g - limZ σ) + pos (wOf σ p + gW σ g - limZ σ) := by
  have b := hV.gpb hg.1 hg.2
  have e1 := sm_except (f := dwQ σ g p) (h := fun q => if (q : Int) = gPt σ g then debtZ σ (q : Int) else dwQ σ g p q) (a := (gPt σ g).toNat) (n := (σ 2).toNat) (by omega) (fun k _ hne => by rw [if_neg (by omega)])
  have e2 := sm_except (f := fun q : Nat => if (q : Int) = gPt σ g then debtZ σ (q : Int) else dwQ σ g p q) (h := fun q => debtZ σ (q : Int)) (a := p.toNat) (n := (σ 2).toNat) (by omega) (fun k _ hne => by
    split
    · rfl
    · rename_i z
      unfold dwQ
      rw [if_neg z, if_neg (by omega), debtZ_pos]
      congr 1
      omega)
  unfold dwZ debtsZ
  have c1 : (((gPt σ g).toNat : Nat) : Int) = gPt σ g := by omega
  have c2 : ((p.toNat : Nat) : Int) = p := by omega
  rw [c1, if_pos rfl] at e1
  rw [c2, if_neg (fun z => h z.symm)] at e2
  rw [e1, e2]
  have f1 : dwQ σ g p (gPt σ g).toNat = pos (wOf σ (gPt σ g) - gW σ g - limZ σ) := by
    unfold dwQ
    rw [show (((gPt σ g).toNat : Nat) : Int) = gPt σ g by omega, if_pos rfl, if_neg h]
    congr 1
    omega
  have f2 : dwQ σ g p p.toNat = pos (wOf σ p + gW σ g - limZ σ) := by
    unfold dwQ
    rw [show ((p.toNat : Nat) : Int) = p by omega, if_neg (fun z => h z.symm), if_pos rfl]
    congr 1
    omega
  rw [f1, f2]
  omega
section MG
variable {I : Ii} {J : Jj} {σ : Nat → Int} {nm : Nat → Int64} {k2 : Nat}
theorem groupCount_of (hk : sK k2) (hV : VS σ) (hS : RS k2 I σ) {Q : Int → Ii → Jj → Prop} (h : Q (grs σ) I J) : wp_X8_groupCount k2 I J Q := by
  have b5 := ms_5 hV.M
  have hl := hS.l
  refine ⟨hk, at_of (srX8_2 hk) (i := (σ 5).toNat) (by omega) (by omega) ?_⟩
  rw [hS.n (Nat.le_refl _)]
  exact h
theorem c_take (hk : sK k2) (hV : VS σ) (hR : RG 200 I J σ nm) (hS : RS k2 I σ) : wp_X4_take 200 k2 I J (fun I' _ => ME σ I') := by
  have b2 := ms_2 hV.M
  have kg := sK_ge hk
  refine ⟨gK200, hk, groupCount_of hk hV hS (fun I2 e2 I3 e3 => ?_)⟩
  have o3 : ∀ q, q ≠ 113 → I3 q = I q := fun q hq => by rw [e3, up2_key hq, e2, up2_key hq]
  have R3 : RG 200 I3 J σ nm := hR.cong (o3 _ (by decide)) rfl (o3 _ (by decide)) (o3 _ (by decide)) (o3 _ (by decide)) (o3 _ (by decide))
  refine fr_X2_limit (c_limit gK200 hV.M R3) (fun v hv I5 e5 I6 e6 => ?_)
  subst hv
  have o6 : ∀ q, q ≠ 113 → I6 q = I q := fun q hq => by rw [e6, up2_key hq, e5, up2_key hq]; exact o3 q hq
  have R6 : RG 200 I6 J σ nm := hR.cong (o6 _ (by decide)) rfl (o6 _ (by decide)) (o6 _ (by decide)) (o6 _ (by decide)) (o6 _ (by decide))
  have S6 : RS k2 I6 σ := hS.cong (o6 _ (by omega)) (o6 _ (by omega)) (o6 _ (by omega)) (o6 _ (by omega)) (o6 _ (by omega))
  refine fr_X4_takeVertices (c_takeVertices hk hV R6 S6) (fun I7 J7 h7 s7 => ?_)
  have R7 : RG 200 I7 J7 σ nm := R6.fr s7
  have w7 : ∀ q, q < 114 ∨ 118 < q → I7 q = I6 q := fun q hq => s7.rI (W_X4_takeVertices_n (by
    have : q ≠ 114 ∧ q ≠ 115 ∧ q ≠ 116 ∧ q ≠ 117 ∧ q ≠ 118 := by omega
    simp [wlk, Ne.symm this.1, Ne.symm this.2.1, Ne.symm this.2.2.1, Ne.symm this.2.2.2.1, Ne.symm this.2.2.2.2]))
  have S7 : RS k2 I7 σ := S6.cong (w7 _ (by omega)) (w7 _ (by omega)) (w7 _ (by omega)) (w7 _ (by omega)) (w7 _ (by omega))
  refine fr_X4_takeEdges (c_takeEdges hk hV R7 S7 h7.2.1) (fun I8 J8 h8 s8 I9 e9 => ?_)
  have q0 : I8 113 0 = grs σ := by rw [s8.i, w7 _ (by decide), e6, up2_ne (by decide), e5, up2_ne (by decide), e3, up2_ne (by decide), e2, up2_self]
  have q1 : I8 113 1 = σ 2 := by rw [s8.i, w7 _ (by decide), e6, up2_ne (by decide), e5, up2_ne (by decide), e3, up2_self, e2, up2_key (by decide), hR.q]
  have q2 : I8 113 2 = limZ σ := by rw [s8.i, w7 _ (by decide), e6, up2_ne (by decide), e5, up2_self]
  have q3 : I8 113 3 = σ 4 := by rw [s8.i, w7 _ (by decide), e6, up2_self, e5, up2_key (by omega), o3 _ (by omega), hS.c]
  have t8 : ∀ q, q < 119 ∧ q ≠ 113 → I8 q = I7 q := fun q hq => s8.rI (W_X4_takeEdges_n (by
    have : q ≠ 113 ∧ q ≠ 119 := by omega
    simp [wlk, Ne.symm this.1, Ne.symm this.2]))
  have o9 : ∀ q, q ≠ 113 → I9 q = I8 q := fun q hq => by rw [e9, up2_key hq]
  have p9 : ∀ i, i ≠ 4 → I9 113 i = I8 113 i := fun i hi => by rw [e9, up2_ne (by omega)]
  refine ⟨5, loopN (L := fun n (a : Ii) v => L_X4_take_51 200 k2 _ n v a J8) (fun v a => (∀ q, q ≠ 113 → a q = I8 q) ∧ (∀ i, i ≠ 4 → a 113 i = I8 113 i) ∧ a 113 4 = sm (fun p => debtZ σ (p : Int)) v) (N := (σ 2).toNat) (fun n v a hv ha kk => ?_) 5 0 I9 (by omega) (by omega) ⟨o9, p9, by rw [e9, up2_self]; rfl⟩⟩
  obtain ⟨a0, a1, a2⟩ := ha
  have r1 : a 113 1 = σ 2 := by rw [a1 _ (by decide), q1]
  refine ls_X4_take_51 ?_
  unfold Lb_X4_take_51
  refine ⟨rgK (by omega), rgK (by omega), fun c => ?_, fun c => ?_⟩
  · have hvn : v = (σ 2).toNat := by omega
    subst hvn
    have gr := grs_b hV.M
    refine ⟨by rw [a1 _ (by decide), q0], r1, by rw [a1 _ (by decide), q2], by rw [a1 _ (by decide), q3], a2, by rw [a1 _ (by decide), h8.1], fun g hg => ?_, fun p hp => ?_, fun g p hg hp => ?_⟩
    · rw [a0 _ (by decide), a0 _ (by decide), a0 _ (by decide), t8 _ (by decide), t8 _ (by decide), t8 _ (by decide)]
      exact ⟨(h7.1 g (by omega)).1, (h7.1 g (by omega)).2, h7.2.1 g hg⟩
    · rw [a0 _ (by decide), a0 _ (by decide), t8 _ (by decide), t8 _ (by decide)]
      exact h7.2.2 p (by omega)
    · rw [a0 _ (by decide)]
      exact h8.2 g p hg (by omega)
  · refine at_of (n := 4) rfl rfl (by omega) ?_
    have hw : a 118 v = wOf σ (v : Int) := by rw [a0 _ (by decide), t8 _ (by decide), (h7.2.2 v (by omega)).2]
    have bw := wOf_b hV.M (v : Int)
    rw [hw]
    refine debtAt_of hV (by rw [a1 _ (by decide), q2]) (by omega) (fun I14 e14 => kk (by omega) I14 ⟨fun q hq => ?_, fun i hi => ?_, ?_⟩)
    · rw [e14, up2_key hq]; exact a0 q hq
    · rw [e14, up2_ne (by omega)]; exact a1 i hi
    · rw [e14, up2_self, a2, sm_succ, debtZ_pos]
theorem gainOf_of (hV : VS σ) (hE : ME σ I) {x y : Int} {g p : Nat} (hx : x = (g : Int)) (hg : (g : Int) < grs σ) (hy : y = (p : Int)) (hp : (p : Int) < σ 2) {Q : Int → Ii → Jj → Prop} (h : Q (gainZ σ g p) I J) : wp_X4_gainOf x y I J Q := by
  have gr := grs_b hV.M
  have b2 := ms_2 hV.M
  have bg := hV.gpb (g := (g : Int)) (by omega) hg
  obtain ⟨e0, e1, e2, e3, e4, e5, e6, e7, e8⟩ := hE
  subst hx hy
  refine at_of (n := 56) rfl (i := 4 * g + p) (by omega) (by omega) ?_
  rw [e8 g p hg hp]
  refine at_of (n := 14) rfl rfl (by omega) ?_
  rw [(e6 g hg).2.2]
  refine at_of (n := 56) rfl (i := 4 * g + (gPt σ g).toNat) (by omega) (by omega) ?_
  rw [e8 g _ hg (by omega), show (((gPt σ (g : Int)).toNat : Nat) : Int) = gPt σ g by omega, ← gainZ_pull]
  exact h
theorem debtsWith_of (hV : VS σ) (hE : ME σ I) {x y : Int} {g p : Nat} (hx : x = (g : Int)) (hg : (g : Int) < grs σ) (hy : y = (p : Int)) (hp : (p : Int) < σ 2) {Q : Int → Ii → Jj → Prop} (h : Q (dwZ σ g p) I J) : wp_X4_debtsWith x y I J Q := by
  have gr := grs_b hV.M
  have b2 := ms_2 hV.M
  have bg := hV.gpb (g := (g : Int)) (by omega) hg
  obtain ⟨e0, e1, e2, e3, e4, e5, e6, e7, e8⟩ := hE
  have w1 := wOf_b hV.M (gPt σ g)
  have w2 := wOf_b hV.M (p : Int)
  have w3 := gW_b hV.M (g : Int)
  have bl := limZ_b hV.M
  subst hx hy
  refine at_of (n := 14) rfl rfl (by omega) ?_
  rw [(e6 g hg).2.2]
  refine ⟨rgK (by omega), rgK (by omega), fun d => ?_, fun d => ?_⟩
  · refine at_of (n := 14) rfl rfl (by omega) ?_
    rw [(e6 g hg).2.1]
    refine at_of (n := 4) rfl (i := (gPt σ g).toNat) (by omega) (by omega) ?_
    rw [(e7 _ (by omega)).2, show (((gPt σ (g : Int)).toNat : Nat) : Int) = gPt σ g by omega]
    refine at_of (n := 4) rfl (i := p) rfl (by omega) ?_
    rw [(e7 _ hp).2]
    refine debtAt_of hV e2 (by omega) (debtAt_of hV e2 (by omega) (debtAt_of hV e2 (by omega) (debtAt_of hV e2 (by omega) ?_)))
    rw [e4, ← debtZ_pos, ← debtZ_pos, ← dwZ_move hV ⟨by omega, hg⟩ ⟨by omega, hp⟩ d]
    exact h
  · rw [e4, ← dwZ_own d]
    exact h
theorem isTooMuch_of (hV : VS σ) (hE : ME σ I) {x : Int} (hx : 0 ≤ x ∧ x ≤ 20000) {Q : Int → Ii → Jj → Prop} (h1 : σ 4 < x ∧ debtsZ σ < x → Q 1 I J) (h0 : ¬ (σ 4 < x ∧ debtsZ σ < x) → Q 0 I J) : wp_X4_isTooMuch x I J Q := by
  have b4 := ms_4 hV.M
  have bd := debtsZ_b hV.M
  obtain ⟨e0, e1, e2, e3, e4, -⟩ := hE
  exact ⟨rgK (by omega), rgK (by omega), fun c => h0 (by omega), fun c => ⟨rgK (by omega), fun c2 => h0 (by omega), fun c2 => h1 (by omega)⟩⟩
theorem reasonAgainst_of (hV : VS σ) (hE : ME σ I) {x y : Int} {g p : Nat} (hx : x = (g : Int)) (hg : (g : Int) < grs σ) (hy : y = (p : Int)) (hp : (p : Int) < σ 2) {Q : Int → Ii → Jj → Prop} (h : Q (wmZ σ g p) I J) : wp_X4_reasonAgainst x y I J Q := by
  have gr := grs_b hV.M
  have b2 := ms_2 hV.M
  have bg := hV.gpb (g := (g : Int)) (by omega) hg
  have bd := dwZ_b hV.M g p
  have e6 := hE.2.2.2.2.2.2.1
  subst hx
  refine at_of (n := 14) rfl rfl (by omega) ?_
  rw [(e6 g hg).2.2]
  unfold wmZ at h
  refine ⟨rgK (by omega), rgK (by omega), fun d => ?_, fun d => ?_⟩
  · rw [if_neg (by omega)] at h
    refine debtsWith_of hV hE rfl hg hy hp (isTooMuch_of hV hE (by omega) (fun c => ⟨fun z => absurd z (by decide), fun _ => ?_⟩) (fun c => ⟨fun _ => ?_, fun z => absurd rfl z⟩))
    · rw [if_pos c] at h; exact h
    · rw [if_neg c] at h; exact h
  · rw [if_pos (by omega)] at h; exact h
theorem heaviestPart_of (hV : VS σ) (hE : ME σ I) {Q : Int → Ii → Jj → Prop} (h : Q ((hvZ σ ((σ 2).toNat - 1) : Nat) : Int) I J) : wp_X4_heaviestPart I J Q := by
  have b2 := ms_2 hV.M
  obtain ⟨e0, e1, e2, e3, e4, e5, e6, e7, e8⟩ := hE
  refine ⟨5, loopN (L := fun n t v => L_X4_heaviestPart_4 Q n t v I J) (fun v t => 1 ≤ v ∧ t = ((hvZ σ (v - 1) : Nat) : Int)) (N := (σ 2).toNat) (fun n v t hv ht k => ?_) 5 1 0 (by omega) (by omega) ⟨by omega, rfl⟩⟩
  obtain ⟨hv1, ht⟩ := ht
  refine ls_X4_heaviestPart_4 ?_
  unfold Lb_X4_heaviestPart_4
  refine ⟨rgK (by omega), rgK (by omega), fun c => ?_, fun c => ?_⟩
  · rw [ht, show v = (σ 2).toNat by omega]; exact h
  · have hl := hvZ_le σ (v - 1)
    obtain ⟨u, rfl⟩ : ∃ u, v = u + 1 := ⟨v - 1, by omega⟩
    rw [Nat.add_sub_cancel] at ht hl
    refine at_of (n := 4) rfl rfl (by omega) (at_of (n := 4) rfl ht (by omega) ?_)
    rw [(e7 _ (by omega)).2, (e7 _ (by omega)).2]
    have w1 := wOf_b hV.M ((u + 1 : Nat) : Int)
    have w2 := wOf_b hV.M ((hvZ σ u : Nat) : Int)
    refine ⟨rgK (by omega), rgK (by omega), fun d => k (by omega) _ ⟨by omega, ?_⟩, fun d => k (by omega) _ ⟨by omega, ?_⟩⟩
    · show t = ((hvZ σ (u + 1) : Nat) : Int)
      conv => rhs; unfold hvZ
      rw [if_neg (by omega)]
      exact ht
    · show ((u + 1 : Nat) : Int) = ((hvZ σ (u + 1) : Nat) : Int)
      conv => rhs; unfold hvZ
      rw [if_pos (by omega)]
theorem pullOfAll_of (hV : VS σ) (hE : ME σ I) {x : Int} {g : Nat} (hx : x = (g : Int)) (hg : (g : Int) < grs σ) {Q : Int → Ii → Jj → Prop} (h : Q (sm (fun p => pullZ σ g (p : Int)) (σ 2).toNat) I J) : wp_X4_pullOfAll x I J Q := by
  have b2 := ms_2 hV.M
  have gr := grs_b hV.M
  obtain ⟨e0, e1, e2, e3, e4, e5, e6, e7, e8⟩ := hE
  subst hx
  refine ⟨5, loopN (L := fun n t v => L_X4_pullOfAll_4 _ Q n t v I J) (fun v t => t = sm (fun p => pullZ σ g (p : Int)) v) (N := (σ 2).toNat) (fun n v t hv ht k => ?_) 5 0 0 (by omega) (by omega) rfl⟩
  refine ls_X4_pullOfAll_4 ?_
  unfold Lb_X4_pullOfAll_4
  refine ⟨rgK (by omega), rgK (by omega), fun c => ?_, fun c => ?_⟩
  · have hvn : v = (σ 2).toNat := by omega
    rw [ht, hvn]; exact h
  · refine at_of (n := 56) rfl (i := 4 * g + v) (by omega) (by omega) (k (by omega) _ ?_)
    rw [e8 g v hg (by omega), ht, sm_succ]
end MG
/-! ===== the step that would be chosen ===== -/
section CS
variable {I : Ii} {J : Jj} {σ : Nat → Int} {nm : Nat → Int64} {k2 : Nat}
theorem greatestGain_of {lw : Bool} (hV : VS σ) (hE : ME σ I) {z : Int} (hz : z = if lw then 1 else 0) {Q : Int → Ii → Jj → Prop} (h : Q (bmZ σ lw (grs σ).toNat).1 I J) : wp_X4_greatestGain z I J Q := by
  have gr := grs_b hV.M
  have b2 := ms_2 hV.M
  have b4 := ms_4 hV.M
  have bd := debtsZ_b hV.M
  have e0 := hE.1
  have e1 := hE.2.1
  have e4 := hE.2.2.2.2.1
  refine ⟨15, loopN (L := fun n (a : Int × Int × Int) v => L_X4_greatestGain_10 z Q n a.1 a.2.1 a.2.2 v I J) (fun v a => a = bmZ σ lw v) (N := (grs σ).toNat) (fun n g a hg ha k => ?_) 15 0 (-1, 0, 0) (by omega) (by omega) rfl⟩
  refine ls_X4_greatestGain_10 ?_
  generalize hr : L_X4_greatestGain_10 z Q n = r at k ⊢
  unfold Lb_X4_greatestGain_10
  refine ⟨rgK (by omega), rgK (by omega), fun c => by rw [ha, show g = (grs σ).toNat by omega]; exact h, fun c => ?_⟩
  refine ⟨5, loopN (L := fun n2 (a2 : Int × Int × Int) p => L_X4_greatestGain_22 z Q r n2 a2.1 a2.2.1 a2.2.2 g p I J) (fun p a2 => a2 = bmR σ lw g p a) (N := (σ 2).toNat) (fun n2 p a2 hp ha2 k2 => ?_) 5 0 a (by omega) (by omega) rfl⟩
  refine ls_X4_greatestGain_22 ?_
  generalize hr2 : L_X4_greatestGain_22 z Q r n2 = r2 at k2 ⊢
  unfold Lb_X4_greatestGain_22
  refine ⟨rgK (by omega), rgK (by omega), fun c2 => k (by omega) _ ?_, fun c2 => ?_⟩
  · rw [ha2, ha, show p = (σ 2).toNat by omega]
    rfl
  · have hab : bmB a2 := by rw [ha2, ha]; exact bmR_b hV.M lw (by omega) (by omega) (bmZ_b hV.M lw (by omega))
    obtain ⟨ha1, hb1, hc1⟩ := hab
    have g1 := gainZ_b hV.M g p
    have g2 := dwZ_b hV.M g p
    refine gainOf_of hV hE rfl (by omega) rfl (by omega) (debtsWith_of hV hE rfl (by omega) rfl (by omega) ?_)
    have own : gPt σ g = p → gainZ σ g p = 0 ∧ dwZ σ g p = debtsZ σ := fun e => ⟨by unfold gainZ; rw [if_pos e], dwZ_own e⟩
    have hwm : wmZ σ g p = if gPt σ g = p then 1 else if σ 4 < dwZ σ g p ∧ debtsZ σ < dwZ σ g p then 2 else 0 := rfl
    have stay : bmS σ lw g p a2 = a2 → r2 a2.1 a2.2.1 a2.2.2 g ((p : Int) + 1) I J := fun e => k2 (by omega) a2 (by show a2 = bmS σ lw g p (bmR σ lw g p a); rw [← ha2, e])
    have go : bmS σ lw g p a2 = (10 * (g : Int) + (p : Int), gainZ σ g p, dwZ σ g p) → r2 ((g : Int) * 10 + (p : Int)) (gainZ σ g p) (dwZ σ g p) g ((p : Int) + 1) I J := fun e => by
      have := k2 (by omega) (10 * (g : Int) + (p : Int), gainZ σ g p, dwZ σ g p) (by show _ = bmS σ lw g p (bmR σ lw g p a); rw [← ha2, e])
      rwa [show (g : Int) * 10 = 10 * (g : Int) by omega]
    have hS : bmS σ lw g p a2 = if 0 < wmZ σ g p ∨ (lw = true ∧ debtsZ σ ≤ dwZ σ g p) ∨ (lw = false ∧ gainZ σ g p ≤ 0) then a2 else if a2.1 ≠ -1 ∧ (gainZ σ g p < a2.2.1 ∨ (gainZ σ g p = a2.2.1 ∧ a2.2.2 ≤ dwZ σ g p)) then a2 else (10 * (g : Int) + (p : Int), gainZ σ g p, dwZ σ g p) := rfl
    have b91 : ∀ t : Int, (t = 0 ∧ (0 < wmZ σ g p ∨ (lw = true ∧ debtsZ σ ≤ dwZ σ g p) ∨ (lw = false ∧ gainZ σ g p ≤ 0))) ∨ (t = 1 ∧ ¬ (0 < wmZ σ g p ∨ (lw = true ∧ debtsZ σ ≤ dwZ σ g p) ∨ (lw = false ∧ gainZ σ g p ≤ 0))) → B_X4_greatestGain_91 z Q r r2 a2.1 a2.2.1 a2.2.2 g p (gainZ σ g p) (dwZ σ g p) t I J := by
      intro t ht
      have b122 : ∀ u : Int, (u = 0 ∧ (a2.1 ≠ -1 ∧ (gainZ σ g p < a2.2.1 ∨ (gainZ σ g p = a2.2.1 ∧ a2.2.2 ≤ dwZ σ g p)))) ∨ (u = 1 ∧ ¬ (a2.1 ≠ -1 ∧ (gainZ σ g p < a2.2.1 ∨ (gainZ σ g p = a2.2.1 ∧ a2.2.2 ≤ dwZ σ g p)))) → B_X4_greatestGain_122 z Q r r2 a2.1 a2.2.1 a2.2.2 g p (gainZ σ g p) (dwZ σ g p) t u I J := by
        intro u hu
        unfold B_X4_greatestGain_122
        refine ⟨rgK (by omega), fun d => stay ?_, fun d => ⟨rgK (by omega), fun d2 => stay ?_, fun d2 => go ?_⟩⟩
        · rcases ht with ⟨-, y⟩ | ⟨y, -⟩
          · rw [hS, if_pos y]
          · omega
        · rcases hu with ⟨-, y⟩ | ⟨y, -⟩
          · rw [hS, if_pos (c := a2.1 ≠ -1 ∧ _) y]; split <;> rfl
          · omega
        · rcases ht with ⟨y, -⟩ | ⟨-, y⟩
          · omega
          · rcases hu with ⟨y2, -⟩ | ⟨-, y2⟩
            · omega
            · rw [hS, if_neg y, if_neg y2]
      unfold B_X4_greatestGain_91
      exact ⟨rgK (by omega), fun d => b122 1 (Or.inr ⟨rfl, fun y => y.1 d⟩), fun d => ⟨rgK (by omega), rgK (by omega), fun d2 => b122 1 (Or.inr ⟨rfl, by omega⟩), fun d2 => ⟨fun d3 => b122 0 (Or.inl ⟨rfl, d, by omega⟩), fun d3 => ⟨rgK (by omega), rgK (by omega), fun d4 => b122 0 (Or.inl ⟨rfl, d, by omega⟩), fun d4 => b122 1 (Or.inr ⟨rfl, by omega⟩)⟩⟩⟩⟩
    cases lw with
    | true =>
      have hz : z = 1 := hz
      refine ⟨rgK (by omega), fun y => by omega, fun _ => ⟨rgK (by omega), rgK (by omega), fun d => b91 0 (Or.inl ⟨rfl, Or.inr (Or.inl ⟨rfl, by omega⟩)⟩), fun d => b91 1 (Or.inr ⟨rfl, ?_⟩)⟩⟩
      rintro (y | y | y)
      · rw [hwm] at y
        by_cases q : gPt σ g = p
        · have := (own q).2; omega
        · rw [if_neg q, if_neg (by omega)] at y; omega
      · omega
      · exact absurd y.1 (by decide)
    | false =>
      have hz : z = 0 := hz
      refine ⟨rgK (by omega), fun _ => ⟨rgK (by omega), fun d => b91 0 (Or.inl ⟨rfl, Or.inr (Or.inr ⟨rfl, d⟩)⟩), fun d => isTooMuch_of hV hE (by omega) (fun y => ⟨fun _ => b91 0 (Or.inl ⟨rfl, Or.inl ?_⟩), fun w => absurd w (by decide)⟩) (fun y => ⟨fun w => absurd rfl w, fun _ => b91 1 (Or.inr ⟨rfl, ?_⟩)⟩)⟩, fun y => absurd hz y⟩
      · rw [hwm]
        split
        · omega
        · omega
      · rintro (w | w | w)
        · rw [hwm] at w
          by_cases q : gPt σ g = p
          · have := (own q).1; omega
          · rw [if_neg q, if_neg y] at w; omega
        · exact absurd w.1 (by decide)
        · omega
theorem chosenStep_of (hV : VS σ) (hE : ME σ I) {Q : Int → Ii → Jj → Prop} (h : Q (nxZ σ) I J) : wp_X4_chosenStep I J Q := by
  have gr := grs_b hV.M
  have bd := debtsZ_b hV.M
  have e4 := hE.2.2.2.2.1
  have h1 := (bmZ_b hV.M true (g := (grs σ).toNat) (by omega)).1
  unfold nxZ at h
  unfold wp_X4_chosenStep B_X4_chosenStep_16
  refine ⟨rgK (by omega), fun c => ⟨rgK (by omega), fun _ => greatestGain_of (lw := false) hV hE rfl ?_, fun y => absurd rfl y⟩, fun c => greatestGain_of (lw := true) hV hE rfl ⟨rgK (by omega), fun d => greatestGain_of (lw := false) hV hE rfl ?_, fun d => ?_⟩⟩
  · rw [if_neg (by omega)] at h; exact h
  · rw [if_pos (by omega), if_pos d] at h; exact h
  · rw [if_pos (by omega), if_neg d] at h; exact h
end CS
/-! ===== a move: events, parts ===== -/
/-- rows that tell the same graph -/
def GE (σ τ : Nat → Int) : Prop := ∀ i, (i < 4 ∨ (7 ≤ i ∧ i < 21) ∨ (110 ≤ i ∧ i < 230)) → τ i = σ i
theorem GE.refl (σ : Nat → Int) : GE σ σ := fun _ _ => rfl
theorem GE.symm {σ τ : Nat → Int} (h : GE σ τ) : GE τ σ := fun i hi => (h i hi).symm
theorem GE.trans {σ τ υ : Nat → Int} (h : GE σ τ) (h2 : GE τ υ) : GE σ υ := fun i hi => (h2 i hi).trans (h i hi)
theorem GE.allW {σ τ : Nat → Int} (h : GE σ τ) (hM : MS σ) : allW τ = allW σ := by
  have b := ms_0 hM
  unfold _root_.Jvm.Pilot.@@N@@.allW
  rw [h 0 (by omega)]
  exact sm_cong (fun k hk => h _ (by omega))
theorem GE.allE {σ τ : Nat → Int} (h : GE σ τ) (hM : MS σ) : allE τ = allE σ := by
  have b := ms_1 hM
  unfold _root_.Jvm.Pilot.@@N@@.allE
  rw [h 1 (by omega)]
  exact sm_cong (fun k hk => h _ (by omega))
theorem RG.ge {k : Nat} {I : Ii} {J : Jj} {σ τ : Nat → Int} {nm : Nat → Int64} (h : RG k I J σ nm) (g : GE σ τ) (hM : MS σ) : RG k I J τ nm := by
  have b := ms_0 hM
  have b1 := ms_1 hM
  refine ⟨by rw [h.n, g 0 (by omega)], by rw [h.m, g 1 (by omega)], by rw [h.q, g 2 (by omega)], by rw [h.s, g 3 (by omega)], by rw [h.aw, g.allW hM], by rw [h.ae, g.allE hM], fun v hv => ?_, fun v hv => ?_, fun e he => ?_, fun e he => ?_, fun e he => ?_⟩
  · rw [g 0 (by omega)] at hv; rw [h.w hv, g _ (by omega)]
  · rw [g 0 (by omega)] at hv; rw [h.z hv]
  · rw [g 1 (by omega)] at he; rw [h.a he, g _ (by omega)]
  · rw [g 1 (by omega)] at he; rw [h.b he, g _ (by omega)]
  · rw [g 1 (by omega)] at he; rw [h.h he, g _ (by omega)]
theorem comesZ_GE {σ : Nat → Int} {g p : Int} (hM : MS σ) : GE σ (comesZ σ g p) := fun i hi => by
  have b := ms_0 hM
  exact comesZ_o (by omega) (by omega)
theorem VS.un {σ : Nat → Int} (hV : VS σ) {g : Int} : ∀ w, w < (σ 0).toNat → gAt σ w = g → σ (21 + w) = gPt σ g := fun w hw e => by rw [← e, hV.gp hw]
theorem gL_congr {σ τ : Nat → Int} (h : ∀ i, 35 ≤ i → i < 105 → τ i = σ i) {l v : Nat} (hl : l ≤ 4) (hv : v < 14) : gL τ l v = gL σ l v := h _ (by omega) (by omega)
theorem VS_comes {σ : Nat → Int} {g p : Int} (hV : VS σ) (hg : 0 ≤ g ∧ g < grs σ) (hp : 0 ≤ p ∧ p < σ 2) (h6 : σ 6 < 1000000000) : VS (comesZ σ g p) := by
  have hM := hV.M
  have b0 := ms_0 hM
  have b1 := ms_1 hM
  have b2 := ms_2 hM
  have b5 := ms_5 hM
  have gr := grs_b hM
  have o : ∀ i, i < 6 ∨ (6 < i ∧ i < 21) ∨ (35 ≤ i ∧ i < 230) → comesZ σ g p i = σ i := fun i hi => comesZ_o (by omega) (by omega)
  have ogl : ∀ l v, l ≤ 4 → v < 14 → gL (comesZ σ g p) l v = gL σ l v := fun l v hl hv => gL_congr (fun i h1 h2 => o i (by omega)) hl hv
  refine ⟨comesZ_MS hM (by omega) (by omega) (hV.GV.has hM hg.1 hg.2) h6, ⟨fun e he => ?_, fun e f he hf => ?_⟩, fun v hv => ?_, fun v hv => ?_, ?_, fun l hl => ⟨fun v hv => ?_, fun q h0 h1 => ?_⟩, fun l u v hl hu hv => ?_, fun u v hu hv => ?_⟩
  · rw [o 1 (by omega)] at he
    rw [o 0 (by omega), o _ (by omega), o _ (by omega)]; exact hV.E.1 e he
  · rw [o 1 (by omega)] at he hf
    rw [o _ (by omega), o (110 + f) (by omega), o (150 + e) (by omega), o (150 + f) (by omega)]; exact hV.E.2 e f he hf
  · rw [o 0 (by omega)] at hv
    rw [comesZ_p hM hv hV.un, o 2 (by omega)]
    have := hV.p hv
    split <;> omega
  · rw [o 0 (by omega)] at hv
    rw [ogl 0 v (by omega) (by omega)]; exact hV.g0 hv
  · rw [o _ (by omega), o 0 (by omega)]; exact hV.n0
  · rw [o 5 (by omega)] at hl
    rw [o 0 (by omega)] at hv
    rw [ogl l v (by omega) (by omega), o _ (by omega)]; exact (hV.L hl).1 v hv
  · rw [o 5 (by omega)] at hl
    rw [o _ (by omega)] at h1
    obtain ⟨v, hv, e⟩ := (hV.L hl).2 q h0 h1
    exact ⟨v, by rw [o 0 (by omega)]; exact hv, by rw [ogl l v (by omega) (by omega)]; exact e⟩
  · rw [o 5 (by omega)] at hl
    rw [o 0 (by omega)] at hu hv
    rw [ogl l u (by omega) (by omega), ogl l v (by omega) (by omega), ogl (l + 1) u (by omega) (by omega), ogl (l + 1) v (by omega) (by omega)]
    exact hV.nest hl hu hv
  · rw [o 0 (by omega)] at hu hv
    rw [comesZ_gAt hM (by omega), comesZ_gAt hM (by omega), comesZ_p hM hu hV.un, comesZ_p hM hv hV.un]
    intro e
    rw [e]
    split
    · rfl
    · exact hV.one hu hv e
/-- by a move the cut falls by its gain -/
theorem cutZ_move {σ : Nat → Int} (hV : VS σ) {g p : Int} (hne : gPt σ g ≠ p) : cutZ (mvR σ g p (σ 0).toNat) = cutZ σ - gainZ σ g p := by
  have b0 := ms_0 hV.M
  have b1 := ms_1 hV.M
  have o : ∀ i, i < 21 ∨ 35 ≤ i → mvR σ g p (σ 0).toNat i = σ i := fun i hi => mvR_o (by omega)
  have hz : gainZ σ g p = sm (gainE σ g p) (σ 1).toNat := by unfold gainZ; rw [if_neg hne]
  rw [hz]
  unfold cutZ
  rw [o 1 (by omega), ← sm_sub]
  refine sm_cong (fun e he => ?_)
  have ha := hV.a he
  have hb := hV.b he
  have c1 : cutE (mvR σ g p (σ 0).toNat) e ↔ (if gAt σ (σ (110 + e)).toNat = g then p else σ (21 + (σ (110 + e)).toNat)) ≠ (if gAt σ (σ (150 + e)).toNat = g then p else σ (21 + (σ (150 + e)).toNat)) := by
    unfold cutE
    rw [o (110 + e) (by omega), o (150 + e) (by omega), mvR_v (by omega), mvR_v (by omega)]
  have c2 : cutE σ e ↔ σ (21 + (σ (110 + e)).toNat) ≠ σ (21 + (σ (150 + e)).toNat) := Iff.rfl
  have ua := hV.un (g := g) (σ (110 + e)).toNat (by omega)
  have ub := hV.un (g := g) (σ (150 + e)).toNat (by omega)
  rw [o (190 + e) (by omega)]
  unfold gainE
  simp only [c1, c2]
  generalize gAt σ (σ (110 + e)).toNat = A at ua
  generalize gAt σ (σ (150 + e)).toNat = B at ub
  generalize σ (21 + (σ (110 + e)).toNat) = PA at ua
  generalize σ (21 + (σ (150 + e)).toNat) = PB at ub
  generalize σ (190 + e) = w
  generalize gPt σ g = own at *
  by_cases h1 : A = g
  · have ua := ua h1
    by_cases h2 : B = g
    · have ub := ub h2
      rw [if_pos h1, if_pos h2, if_neg (fun z => z rfl), if_neg (fun z => z (by omega)), if_pos (by simp [h1, h2])]; rfl
    · rw [if_pos h1, if_neg h2, if_neg (c := (A = g ↔ B = g)) (by simp [h1, h2]), if_pos (c := A = g) h1]
      by_cases q : PB = p
      · rw [if_neg (fun z => z q.symm), if_pos (by omega), if_pos q]; omega
      · rw [if_pos (fun z => q z.symm), if_neg q]
        by_cases q2 : PB = own
        · rw [if_neg (fun z => z (by omega)), if_pos q2]; omega
        · rw [if_pos (by omega), if_neg q2]; omega
  · by_cases h2 : B = g
    · have ub := ub h2
      rw [if_neg h1, if_pos h2, if_neg (c := (A = g ↔ B = g)) (by simp [h1, h2]), if_neg (c := A = g) h1]
      by_cases q : PA = p
      · rw [if_neg (fun z => z q), if_pos (by omega), if_pos q]; omega
      · rw [if_pos q, if_neg q]
        by_cases q2 : PA = own
        · rw [if_neg (fun z => z (by omega)), if_pos q2]; omega
        · rw [if_pos (by omega), if_neg q2]; omega
    · rw [if_neg h1, if_neg h2, if_pos (c := (A = g ↔ B = g)) (by simp [h1, h2])]; omega
section MV
variable {I : Ii} {J : Jj} {σ : Nat → Int} {nm : Nat → Int64} {k : Nat}
theorem c_place (hk : sK k) {x p : Int} {s : Nat} (hx : x = (s : Int)) (hs : s < 16384) : wp_X8_place k x p I J (fun I' _ => ∀ v, v < 14 → I' (k + 1) v = if s.testBit v = true then p else I (k + 1) v) := by
  subst hx
  refine ⟨hk, 15, loopN (L := fun n (a : Ii) v => L_X8_place_2 k (s : Int) p _ n v a J) (fun v a => ∀ u, u < 14 → a (k + 1) u = if u < v ∧ s.testBit u = true then p else I (k + 1) u) (N := 14) (fun n v a hv ha kk => ?_) 15 0 I (by omega) (by omega) (fun u hu => by rw [if_neg (by omega)])⟩
  refine ls_X8_place_2 ?_
  unfold Lb_X8_place_2
  refine ⟨rgK (by omega), fun c u hu => ?_, fun c => isIn_of (s := s) (k := v) rfl rfl (by omega) (by omega) (fun d => ⟨fun z => absurd z (by decide), fun _ => ?_⟩) (fun d => ⟨fun _ => kk (by omega) a (fun u hu => ?_), fun z => absurd rfl z⟩)⟩
  · show a (k + 1) u = _
    rw [ha u hu]
    by_cases q : s.testBit u = true
    · rw [if_pos ⟨by omega, q⟩, if_pos q]
    · rw [if_neg (fun z => q z.2), if_neg q]
  · refine put_of (srX8_1 hk) rfl (by omega) (fun I3 e3 => kk (by omega) I3 (fun u hu => ?_))
    rw [e3, up2_row]
    by_cases q : u = v
    · subst q; rw [updr_self, if_pos ⟨by omega, d⟩]
    · rw [updr_ne q, ha u hu]
      by_cases q2 : u < v ∧ s.testBit u = true
      · rw [if_pos q2, if_pos ⟨by omega, q2.2⟩]
      · rw [if_neg q2, if_neg (fun z => q2 ⟨by omega, z.2⟩)]
  · rw [ha u hu]
    by_cases q2 : u < v ∧ s.testBit u = true
    · rw [if_pos q2, if_pos ⟨by omega, q2.2⟩]
    · rw [if_neg q2, if_neg (fun z => q2 ⟨by
        by_cases q : u = v
        · subst q; rw [d] at z; exact absurd z.2 (by decide)
        · omega, z.2⟩)]
theorem c_note (hk : sK k) {g b p c : Int} (h2 : 0 ≤ I k 2 ∧ I k 2 ≤ 30) : wp_X8_note k g b p c I J (fun I' _ => I' k 2 = (if I k 2 < 30 then I k 2 + 1 else 30) ∧
    I' (k + 4) 0 = g ∧ I' (k + 4) 1 = b ∧ I' (k + 4) 2 = p ∧ I' (k + 4) 3 = c ∧ ∀ i w, i < 29 → w < 4 → I' (k + 4) (4 * (i + 1) + w) = I (k + 4) (4 * i + w)) := by
  refine ⟨hk, by omega, fun I2 e2 => put_of (srX8_4 hk) (i := 0) rfl (by omega) (fun I3 e3 => put_of (srX8_4 hk) (i := 1) rfl (by omega) (fun I4 e4 => put_of (srX8_4 hk) (i := 2) rfl (by omega) (fun I5 e5 => put_of (srX8_4 hk) (i := 3) rfl (by omega) (fun I6 e6 => ?_))))⟩
  have r6 : I6 (k + 4) = updr (updr (updr (updr (va_cpy (I (k + 4)) (I (k + 4)) 0 4 116) 0 g) 1 b) 2 p) 3 c := by
    rw [e6, up2_row, e5, up2_row, e4, up2_row, e3, up2_row, e2, upr_self]; rfl
  have r2 : I6 k = I k := by rw [e6, up2_key (by omega), e5, up2_key (by omega), e4, up2_key (by omega), e3, up2_key (by omega), e2, upr_ne (by omega)]
  have fin : ∀ (x : Int) (I8 : Ii), x = (if I k 2 < 30 then I k 2 + 1 else 30) → I8 = up2 I6 k 2 x → (I8 k 2 = (if I k 2 < 30 then I k 2 + 1 else 30) ∧
    I8 (k + 4) 0 = g ∧ I8 (k + 4) 1 = b ∧ I8 (k + 4) 2 = p ∧ I8 (k + 4) 3 = c ∧ ∀ i w, i < 29 → w < 4 → I8 (k + 4) (4 * (i + 1) + w) = I (k + 4) (4 * i + w)) := by
    intro x I8 hx e8
    rw [e8, up2_self, up2_key (by omega), r6]
    refine ⟨hx, ?_, ?_, ?_, ?_, fun i w hi hw => ?_⟩
    · rw [updr_ne (by decide), updr_ne (by decide), updr_ne (by decide), updr_self]
    · rw [updr_ne (by decide), updr_ne (by decide), updr_self]
    · rw [updr_ne (by decide), updr_self]
    · rw [updr_self]
    · rw [updr_ne (by omega), updr_ne (by omega), updr_ne (by omega), updr_ne (by omega)]
      unfold va_cpy
      rw [if_pos (by omega), show 0 + (4 * (i + 1) + w - 4) = 4 * i + w by omega]
  rw [r2]
  exact min_of (rgK (by omega)) (rgK (by omega)) (fun d I8 e8 => fin _ I8 (by rw [if_neg (by omega)]) e8) (fun d I8 e8 => by
    refine fin _ I8 ?_ e8
    by_cases q : I k 2 < 30
    · rw [if_pos q]
    · omega)
theorem c_transfer (hk : sK k) (hV : VS σ) (hE : ME σ I) (hS : RS k I σ) {x y : Int} {g p : Nat} (hx : x = (g : Int)) (hg : (g : Int) < grs σ) (hy : y = (p : Int)) (hp : (p : Int) < σ 2) (hne : gPt σ g ≠ p) : wp_X11_transfer k x y I J (fun I' _ => RS k I' (comesZ σ g p)) := by
  have hM := hV.M
  have gr := grs_b hM
  have b0 := ms_0 hM
  have b2 := ms_2 hM
  have b5 := ms_5 hM
  have b6 := ms_6 hM
  have kg := sK_ge hk
  have kb := kev_b hM
  have he := hS.e
  obtain ⟨e0, e1, e2, e3, e4, e5, e6, e7, e8⟩ := id hE
  subst hx hy
  refine ⟨hk, at_of (n := 14) rfl rfl (by omega) (gainOf_of hV hE rfl hg rfl hp ?_)⟩
  rw [(e6 g hg).2.2, e5, ← cutZ_move hV hne]
  refine fr_X8_note (c_note hk (by omega)) (fun I3 J3 h3 s3 => ?_)
  have t3 : ∀ q, q ≠ k → q ≠ k + 4 → I3 q = I q := fun q h1 h2 => s3.rI (W_X8_note_n (by simp [wlk, Ne.symm h1, Ne.symm h2]))
  refine at_of (n := 14) rfl rfl (by omega) ?_
  rw [t3 114 (by omega) (by omega), (e6 g hg).1]
  refine fr_X8_place (c_place hk rfl (memG_b hM _)) (fun I5 J5 h5 s5 => ?_)
  have t5 : ∀ q, q ≠ k + 1 → I5 q = I3 q := fun q h1 => s5.rI (W_X8_place_n (by simp [wlk, Ne.symm h1]))
  have u3 : ∀ i, i ≠ 2 → I3 k i = I k i := fun i hi => (s3 k i (by unfold W_X8_note WL; simp [wl, Ne.symm hi])).1
  have o : ∀ i, i < 6 ∨ (6 < i ∧ i < 21) ∨ (35 ≤ i ∧ i < 230) → comesZ σ g p i = σ i := fun i hi => comesZ_o (by omega) (by omega)
  have c6 : comesZ σ g p 6 = σ 6 + 1 := by rw [comesZ_6 hM, if_neg hne]
  have hkev : kev (comesZ σ g p) = if kev σ < 30 then kev σ + 1 else 30 := by
    unfold kev
    rw [c6]
    (repeat' split) <;> omega
  refine ⟨?_, ?_, ?_, fun v hv => ?_, fun l hl => ?_, fun l v hl hv => ?_, fun i w hi hw => ?_⟩
  · rw [t5 k (by omega), u3 0 (by decide), hS.l, o 5 (by omega)]
  · rw [t5 k (by omega), u3 1 (by decide), hS.c, o 4 (by omega)]
  · rw [t5 k (by omega), h3.1, he, hkev]
  · rw [o 0 (by omega)] at hv
    rw [h5 v (by omega), t3 _ (by omega) (by omega), hS.p hv, comesZ_p hM hv hV.un]
    unfold memG
    rw [bset_bit]
    have hd : decide (v < (σ 0).toNat) = true := by simp; omega
    by_cases q : gAt σ v = g
    · rw [if_pos (by simp [q]; omega), if_pos q]
    · rw [if_neg (by simp [q]), if_neg q]
  · rw [o 5 (by omega)] at hl
    rw [t5 _ (by omega), t3 _ (by omega) (by omega), hS.n hl, o _ (by omega)]
  · rw [o 5 (by omega)] at hl
    rw [o 0 (by omega)] at hv
    rw [t5 _ (by omega), t3 _ (by omega) (by omega), hS.g hl hv]
    exact (gL_congr (fun i h1 h2 => o i (by omega)) (by omega) (by omega)).symm
  · rw [hkev] at hi
    rw [t5 _ (by omega), c6]
    have hcz : ∀ j, 230 ≤ j → comesZ σ g p j = evR (mvR σ g p (σ 0).toNat) g (gPt σ g) p j := fun j _ => by unfold comesZ; rw [if_neg hne]
    have hm6 : mvR σ g p (σ 0).toNat 6 = σ 6 := mvR_o (by omega)
    have hK : evK (mvR σ g p (σ 0).toNat) = 230 + 4 * (σ 6 % 30).toNat := by unfold evK; rw [hm6]
    rw [hcz _ (by omega)]
    unfold evR
    rw [hK]
    cases i with
    | zero =>
      rw [show (σ 6 + 1 - 1 - ((0 : Nat) : Int)) % 30 = σ 6 % 30 by omega]
      have hw : w = 0 ∨ w = 1 ∨ w = 2 ∨ w = 3 := by omega
      rcases hw with rfl | rfl | rfl | rfl
      · rw [updr_ne (by omega), updr_ne (by omega), updr_ne (by omega), updr_ne (by omega), show 230 + 4 * (σ 6 % 30).toNat + 0 = 230 + 4 * (σ 6 % 30).toNat from rfl, updr_self]; exact h3.2.1
      · rw [updr_ne (by omega), updr_ne (by omega), updr_ne (by omega), updr_self]; exact h3.2.2.1
      · rw [updr_ne (by omega), updr_ne (by omega), updr_self]; exact h3.2.2.2.1
      · rw [updr_ne (by omega), updr_self]; exact h3.2.2.2.2.1
    | succ i =>
      have hi2 : i < (kev σ).toNat ∧ i < 29 := by
        split at hi <;> omega
      rw [h3.2.2.2.2.2 i w hi2.2 hw, hS.ev hi2.1 hw, show (σ 6 + 1 - 1 - (((i + 1 : Nat)) : Int)) = σ 6 - 1 - (i : Int) by omega]
      rw [updr_ne (by omega), updr_ne (by omega), updr_ne (by omega), updr_ne (by omega), updr_ne (by omega), mvR_o (by omega)]
end MV
