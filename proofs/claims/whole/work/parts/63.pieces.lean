/-! ===== pieces, the largest piece ===== -/
theorem ushr_n {a k : Nat} {z : Int} (hz : z = (k : Int)) (hk : k < 32) (h : a < 2147483648) : ushrZ (a : Int) z = ((a / 2 ^ k : Nat) : Int) := by subst hz; exact ushrZ_nat hk h
theorem and_n {a b : Nat} {z : Int} (hz : z = (b : Int)) (ha : a < 2147483648) : andZ (a : Int) z = ((a &&& b : Nat) : Int) := by subst hz; exact andZ_nat ha
theorem bitCount_of {I : Ii} {J : Jj} {x : Int} {s : Nat} (hx : x = (s : Int)) (hs : s < 16384) {Q : Int → Ii → Jj → Prop} (h : Q (cntB s 14) I J) : wp_J6_bitCount_0f7a4 x I J Q := by
  subst hx
  unfold wp_J6_bitCount_0f7a4
  have l1 : bcA s ≤ s := Nat.sub_le _ _
  have e1 : (s : Int) - andZ (ushrZ (s : Int) 1) 1431655765 = ((bcA s : Nat) : Int) := by
    have q : ((s / 2) &&& 1431655765) ≤ s / 2 := Nat.and_le_left
    rw [ushr_n (k := 1) (z := 1) rfl (by decide) (by omega), and_n (b := 1431655765) (z := 1431655765) rfl (by omega)]
    rw [show (2 : Nat) ^ 1 = 2 from rfl]
    unfold bcA
    omega
  rw [e1]
  have q1 : (bcA s &&& 858993459) ≤ bcA s := Nat.and_le_left
  have q2 : ((bcA s / 4) &&& 858993459) ≤ bcA s / 4 := Nat.and_le_left
  have l2 : bcZ s < 32768 := by unfold bcZ; omega
  have e2 : andZ ((bcA s : Nat) : Int) 858993459 + andZ (ushrZ ((bcA s : Nat) : Int) 2) 858993459 = ((bcZ s : Nat) : Int) := by
    rw [ushr_n (k := 2) (z := 2) rfl (by decide) (by omega), and_n (b := 858993459) (z := 858993459) rfl (by omega), and_n (b := 858993459) (z := 858993459) rfl (by omega)]
    rfl
  rw [e2]
  have q3 : ((bcZ s + bcZ s / 16) &&& 252645135) ≤ bcZ s + bcZ s / 16 := Nat.and_le_left
  have l3 : bcY s < 65536 := by unfold bcY; omega
  have e3 : andZ (((bcZ s : Nat) : Int) + ushrZ ((bcZ s : Nat) : Int) 4) 252645135 = ((bcY s : Nat) : Int) := by
    rw [ushr_n (k := 4) (z := 4) rfl (by decide) (by omega)]
    exact and_n (a := bcZ s + bcZ s / 16) (b := 252645135) (z := 252645135) rfl (by omega)
  rw [e3]
  have l4 : bcX s < 70000 := by unfold bcX; omega
  have e4 : ((bcY s : Nat) : Int) + ushrZ ((bcY s : Nat) : Int) 8 = ((bcX s : Nat) : Int) := by
    rw [ushr_n (k := 8) (z := 8) rfl (by decide) (by omega)]
    rfl
  rw [e4]
  have e5 : andZ (((bcX s : Nat) : Int) + ushrZ ((bcX s : Nat) : Int) 16) 63 = ((bcN s : Nat) : Int) := by
    rw [ushr_n (k := 16) (z := 16) rfl (by decide) (by omega)]
    exact and_n (a := bcX s + bcX s / 65536) (b := 63) (z := 63) rfl (by omega)
  rw [e5, bcN_cN hs, ← cntB_cN]
  exact h
/-- pieces: what is left, and how many were found -/
def pcZ (σ : Nat → Int) (W : Nat) : Nat → Nat × Nat
  | 0 => (W, 0)
  | v + 1 => if (pcZ σ W v).1.testBit v = true then (difN (pcZ σ W v).1 (tgZ σ W v), (pcZ σ W v).2 + 1) else pcZ σ W v
theorem pcZ_succ (σ : Nat → Int) (W v : Nat) : pcZ σ W (v + 1) = if (pcZ σ W v).1.testBit v = true then (difN (pcZ σ W v).1 (tgZ σ W v), (pcZ σ W v).2 + 1) else pcZ σ W v := rfl
theorem pcZ_lt {σ : Nat → Int} {W : Nat} (h : W < 2 ^ 14) : ∀ v, (pcZ σ W v).1 < 2 ^ 14
  | 0 => h
  | v + 1 => by
    rw [pcZ_succ]
    split
    · exact difN_lt (pcZ_lt h v)
    · exact pcZ_lt h v
theorem pcZ_cnt {σ : Nat → Int} {W : Nat} : ∀ v, (pcZ σ W v).2 ≤ v
  | 0 => Nat.le_refl 0
  | v + 1 => by
    have := pcZ_cnt (σ := σ) (W := W) v
    rw [pcZ_succ]
    split
    · dsimp only; omega
    · omega
def pieZ (σ : Nat → Int) (W : Nat) : Int := ((pcZ σ W (σ 0).toNat).2 : Int)
/-- the largest piece of the first v -/
def lgZ (σ : Nat → Int) : Nat → Int
  | 0 => 0
  | v + 1 => if cntB (tgZ σ (2 ^ (σ 0).toNat - 1) v) 14 ≤ lgZ σ v then lgZ σ v else cntB (tgZ σ (2 ^ (σ 0).toNat - 1) v) 14
theorem lgZ_b (σ : Nat → Int) : ∀ v, 0 ≤ lgZ σ v ∧ lgZ σ v ≤ 14
  | 0 => by simp [lgZ]
  | v + 1 => by
    have h1 := lgZ_b σ v
    have h2 := cntB_n (tgZ σ (2 ^ (σ 0).toNat - 1) v) 14
    unfold lgZ
    split <;> omega
section PC
variable {I : Ii} {J : Jj}
theorem s_pieces {p : Int} (hV : VS (I 2)) (hp : rg p) : wp_X12_pieces p I J (fun r _ _ => r = pieZ (I 2) (inP (I 2) p)) := by
  have b0 := ms_0 hV.M
  have bW := inP_b hV.M p
  unfold wp_X12_pieces
  refine fr_X12_inPart (s_inPart hV.M hp) (fun w hw => ?_)
  subst hw
  refine ⟨15, loopN (L := fun n (a : Nat × Nat) v => L_X12_pieces_14 p _ n (a.1 : Int) ((inP (I 2) p : Nat) : Int) (a.2 : Int) v I J) (fun v a => a = pcZ (I 2) (inP (I 2) p) v) (N := (I 2 0).toNat) (fun n v a hv ha k => ?_) 15 0 (inP (I 2) p, 0) (by omega) (by omega) rfl⟩
  refine ls_X12_pieces_14 ?_
  generalize hr : L_X12_pieces_14 p _ n = r at k ⊢
  have l1 : a.1 < 2 ^ 14 := by rw [ha]; exact pcZ_lt (by omega) v
  unfold Lb_X12_pieces_14
  refine ⟨rgK (by omega), rgK (by omega), fun c => ?_, fun c => ?_⟩
  · rw [ha, show v = (I 2 0).toNat by omega]; rfl
  · refine fr_X12_hasBit (s_hasBit (s := a.1) (k := v) rfl rfl (by omega) (by omega)) (fun q hq => bo1 hq (fun d => ?_) (fun d => k (by omega) a ?_))
    · refine fr_X12_together (s_together (v := v) hV rfl (by omega) rfl bW) (fun t ht => ?_)
      subst ht
      rw [andn_nat (by omega)]
      refine k (by omega) (difN a.1 (tgZ (I 2) (inP (I 2) p) v), a.2 + 1) ?_
      rw [pcZ_succ, ← ha, if_pos d]
    · rw [pcZ_succ, ← ha, if_neg d]
theorem s_largest (hV : VS (I 2)) : wp_X12_largest I J (fun r _ _ => r = lgZ (I 2) (I 2 0).toNat) := by
  have b0 := ms_0 hV.M
  have p14 := pow_le14 (n := (I 2 0).toNat) (by omega)
  refine ⟨15, loopN (L := fun n a v => L_X12_largest_4 _ n a v I J) (fun v a => a = lgZ (I 2) v) (N := (I 2 0).toNat) (fun n v a hv ha k => ?_) 15 0 0 (by omega) (by omega) rfl⟩
  refine ls_X12_largest_4 ?_
  generalize hr : L_X12_largest_4 _ n = r at k ⊢
  unfold Lb_X12_largest_4
  have la := lgZ_b (I 2) v
  refine ⟨rgK (by omega), rgK (by omega), fun c => ?_, fun c => ?_⟩
  · rw [ha, show v = (I 2 0).toNat by omega]
  · refine fr_X12_everything (s_everything hV.M) (fun w hw => ?_)
    subst hw
    refine fr_X12_together (s_together (v := v) hV rfl (by omega) rfl (by omega)) (fun t ht => ?_)
    subst ht
    have tl : tgZ (I 2) (2 ^ (I 2 0).toNat - 1) v < 2 ^ 14 := lpZ_lt (Nat.pow_lt_pow_right (by decide) (by omega)) hV.ends14 _
    refine fr_X12_ones (s_ones rfl (by omega)) (fun u hu => ?_)
    subst hu
    have cb := cntB_n (tgZ (I 2) (2 ^ (I 2 0).toNat - 1) v) 14
    refine ⟨rgK (by omega), rgK (by omega), fun d => k (by omega) _ ?_, fun d => k (by omega) _ ?_⟩
    · unfold lgZ; rw [if_pos (by rw [← ha]; exact d), ha]
    · unfold lgZ; rw [if_neg (by rw [← ha]; exact d)]
variable {k : Nat} {σ : Nat → Int} {nm : Nat → Int64}
theorem c_pieces {x : Int} {W : Nat} (hk : gK k) (hV : VS σ) (hR : RG k I J σ nm) (hx : x = (W : Int)) (hW : W < 16384) : wp_X2_pieces k x I J (fun r _ _ => r = pieZ σ W) := by
  subst hx
  have b0 := ms_0 hV.M
  have hn := hR.n
  refine ⟨hk, 15, loopN (L := fun n (a : Nat × Nat) v => L_X2_pieces_7 k (W : Int) _ n (a.1 : Int) (a.2 : Int) v I J) (fun v a => a = pcZ σ W v) (N := (σ 0).toNat) (fun n v a hv ha kk => ?_) 15 0 (W, 0) (by omega) (by omega) rfl⟩
  refine ls_X2_pieces_7 ?_
  generalize hr : L_X2_pieces_7 k (W : Int) _ n = r at kk ⊢
  have l1 : a.1 < 2 ^ 14 := by rw [ha]; exact pcZ_lt (by omega) v
  unfold Lb_X2_pieces_7
  refine ⟨rgK (by omega), rgK (by omega), fun c => ?_, fun c => ?_⟩
  · rw [ha, show v = (σ 0).toNat by omega]; rfl
  · refine isIn_of (s := a.1) (k := v) rfl rfl (by omega) (by omega) (fun d => ⟨fun z => absurd z (by decide), fun _ => ?_⟩) (fun d => ⟨fun _ => kk (by omega) a ?_, fun z => absurd rfl z⟩)
    · refine fr_X2_spread (c_spread (v := v) hk hV hR rfl (by omega) rfl hW) (fun t ht => ?_)
      subst ht
      rw [andn_nat (by omega)]
      refine kk (by omega) (difN a.1 (tgZ σ W v), a.2 + 1) ?_
      rw [pcZ_succ, ← ha, if_pos d]
    · rw [pcZ_succ, ← ha, if_neg (by rw [d]; decide)]
theorem c_largestPiece (hk : gK k) (hV : VS σ) (hR : RG k I J σ nm) : wp_X2_largestPiece k I J (fun r _ _ => r = lgZ σ (σ 0).toNat) := by
  have b0 := ms_0 hV.M
  have hn := hR.n
  have p14 := pow_le14 (n := (σ 0).toNat) (by omega)
  have e0 : shlZ 1 (I k 0) - 1 = ((2 ^ (σ 0).toNat - 1 : Nat) : Int) := by
    have := shl1Z (k := (σ 0).toNat) (by omega)
    rw [Int.toNat_of_nonneg b0.1, ← hn] at this
    rw [this, hn]
    omega
  refine ⟨hk, ?_⟩
  rw [e0]
  refine ⟨15, loopN (L := fun n a v => L_X2_largestPiece_13 k _ n ((2 ^ (σ 0).toNat - 1 : Nat) : Int) a v I J) (fun v a => a = lgZ σ v) (N := (σ 0).toNat) (fun n v a hv ha kk => ?_) 15 0 0 (by omega) (by omega) rfl⟩
  refine ls_X2_largestPiece_13 ?_
  generalize hr : L_X2_largestPiece_13 k _ n = r at kk ⊢
  unfold Lb_X2_largestPiece_13
  have la := lgZ_b σ v
  refine ⟨rgK (by omega), rgK (by omega), fun c => ?_, fun c => ?_⟩
  · rw [ha, show v = (σ 0).toNat by omega]
  · refine fr_X2_spread (c_spread (v := v) hk hV hR rfl (by omega) rfl (by omega)) (fun t ht => ?_)
    subst ht
    have tl : tgZ σ (2 ^ (σ 0).toNat - 1) v < 2 ^ 14 := lpZ_lt (Nat.pow_lt_pow_right (by decide) (by omega)) hV.ends14 _
    refine bitCount_of rfl (by omega) ?_
    have cb := cntB_n (tgZ σ (2 ^ (σ 0).toNat - 1) v) 14
    refine max_of (rgK (by omega)) (rgK (by omega)) (fun d => kk (by omega) _ ?_) (fun d => kk (by omega) _ ?_)
    · unfold lgZ; rw [if_neg (by rw [← ha]; omega)]
    · unfold lgZ; rw [if_pos (by rw [← ha]; omega), ha]
end PC
