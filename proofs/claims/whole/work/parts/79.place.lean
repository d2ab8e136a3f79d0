/-! ===== groups that come into parts, one after the other ===== -/
/-- the row behind the groups below g have come into the parts b, and how many moved -/
def plZ (σ : Nat → Int) (b : Nat → Int) : Nat → (Nat → Int) × Nat
  | 0 => (σ, 0)
  | g + 1 => (comesZ (plZ σ b g).1 (g : Int) (b g), (plZ σ b g).2 + if gPt (plZ σ b g).1 (g : Int) = b g then 0 else 1)
theorem cnt_if (n : Nat) (P : Prop) [Decidable P] : (n : Int) + (if P then 0 else 1) = ((n + (if P then 0 else 1) : Nat) : Int) := by split <;> omega
theorem plZ_succ (σ : Nat → Int) (b : Nat → Int) (g : Nat) : plZ σ b (g + 1) = (comesZ (plZ σ b g).1 (g : Int) (b g), (plZ σ b g).2 + if gPt (plZ σ b g).1 (g : Int) = b g then 0 else 1) := rfl
theorem gPt_comes {σ : Nat → Int} {g p g' : Int} (hV : VS σ) (hg : 0 ≤ g ∧ g < grs σ) (hp : 0 ≤ p ∧ p < σ 2) (h6 : σ 6 < 1000000000) (h' : 0 ≤ g' ∧ g' < grs σ) (hne : g' ≠ g) : gPt (comesZ σ g p) g' = gPt σ g' := by
  have b0 := ms_0 hV.M
  have hV2 := VS_comes hV hg hp h6
  obtain ⟨v, hv, e⟩ := hV.GV g' h'.1 h'.2
  have e0 : comesZ σ g p 0 = σ 0 := comesZ_o (by omega) (by omega)
  have e2 : gAt (comesZ σ g p) v = g' := by rw [comesZ_gAt hV.M (by omega)]; exact e
  have h1 := hV.gp hv
  have h2 := hV2.gp (v := v) (by rw [e0]; exact hv)
  rw [e] at h1
  rw [e2] at h2
  rw [h1, h2, comesZ_p hV.M hv hV.un, if_neg (by rw [e]; exact hne)]
theorem plZ_keeps {σ : Nat → Int} {b : Nat → Int} (hV : VS σ) (hb : ∀ g : Nat, (g : Int) < grs σ → 0 ≤ b g ∧ b g < σ 2) (h6 : σ 6 + 14 ≤ 1000000000) : ∀ g : Nat, (g : Int) ≤ grs σ → VS (plZ σ b g).1 ∧ GE σ (plZ σ b g).1 ∧ grs (plZ σ b g).1 = grs σ ∧ (plZ σ b g).1 5 = σ 5 ∧ (plZ σ b g).1 6 ≤ σ 6 + (g : Int) ∧ (plZ σ b g).2 ≤ g ∧ (∀ i, i = 4 ∨ (35 ≤ i ∧ i < 110) ∨ 350 ≤ i → (plZ σ b g).1 i = σ i) ∧ ∀ g' : Nat, g ≤ g' → (g' : Int) < grs σ → gPt (plZ σ b g).1 g' = gPt σ g'
  | 0, _ => ⟨hV, GE.refl σ, rfl, rfl, by show σ 6 ≤ σ 6 + ((0 : Nat) : Int); omega, Nat.le_refl _, fun _ _ => rfl, fun _ _ _ => rfl⟩
  | g + 1, hg => by
    have gr := grs_b hV.M
    obtain ⟨i1, i2, i3, i4, i5, i6, i7, i8⟩ := plZ_keeps hV hb h6 g (by omega)
    have b0 := ms_0 i1.M
    have hbg := hb g (by omega)
    have e2 : (plZ σ b g).1 2 = σ 2 := i2 2 (by omega)
    have c1 : (0 : Int) ≤ (g : Int) ∧ (g : Int) < grs (plZ σ b g).1 := by rw [i3]; omega
    have c2 : 0 ≤ b g ∧ b g < (plZ σ b g).1 2 := by rw [e2]; exact hbg
    have c6 : (plZ σ b g).1 6 < 1000000000 := by omega
    rw [plZ_succ]
    refine ⟨VS_comes i1 c1 c2 c6, i2.trans (comesZ_GE i1.M), by rw [comesZ_grs i1.M]; exact i3, by show comesZ (plZ σ b g).1 (g : Int) (b g) 5 = σ 5; rw [comesZ_o (by omega) (by omega)]; exact i4, ?_, ?_, fun i hi => by show comesZ (plZ σ b g).1 (g : Int) (b g) i = σ i; rw [comesZ_o (by omega) (by omega)]; exact i7 i hi, fun g' h1 h2 => ?_⟩
    · have := comesZ_6 (σ := (plZ σ b g).1) (g := (g : Int)) (p := b g) i1.M
      dsimp only
      rw [this]
      split <;> omega
    · dsimp only; split <;> omega
    · dsimp only
      rw [gPt_comes i1 c1 c2 c6 ⟨by omega, by rw [i3]; exact h2⟩ (by omega)]
      exact i8 g' (by omega) h2
section PL
variable {I : Ii} {J : Jj} {σ : Nat → Int} {nm : Nat → Int64}
theorem c_takeTo2 {x y : Int} {g p : Nat} (hV : VS σ) (hR : RG 200 I J σ nm) (hS : RS 300 I σ) (hx : x = (g : Int)) (hg : (g : Int) < grs σ) (hy : y = (p : Int)) (hp : (p : Int) < σ 2) (hne : gPt σ g ≠ p) : wp_X11_takeTo x y I J (fun I' _ => RS 300 I' (comesZ σ g p) ∧ ∀ g' : Nat, (g' : Int) < grs σ → I' 116 g' = gPt σ g') := by
  refine fr_X4_take (c_take sK300 hV hR hS) (fun I3 J3 hE s3 => ?_)
  refine fr_X11_transfer (c_transfer sK300 hV hE (hS.fr s3) hx hg hy hp hne) (fun I8 J8 h8 s8 => ⟨h8, fun g' hg' => ?_⟩)
  have : I8 116 = I3 116 := s8.k
  rw [this]
  exact (hE.2.2.2.2.2.2.1 g' hg').2.2
theorem c_takeBest {b : Nat → Nat} (hV : VS σ) (h7 : grs σ ≤ 7) (h6 : σ 6 + 14 ≤ 1000000000) (hR : RG 200 I J σ nm) (hS : RS 300 I σ) (hb : ∀ g : Nat, g < (grs σ).toNat → b g < (σ 2).toNat) (hp : ∀ g : Nat, (g : Int) < grs σ → I 116 g = gPt σ g) (hc : ∀ g : Nat, g < (grs σ).toNat → I 126 g = (b g : Int)) : wp_X11_takeBest I J (fun r I' _ => r = ((plZ σ (fun g => (b g : Int)) (grs σ).toNat).2 : Int) ∧ RS 300 I' (plZ σ (fun g => (b g : Int)) (grs σ).toNat).1) := by
  have hM := hV.M
  have gr := grs_b hM
  have b2 := ms_2 hM
  have hbI : ∀ g : Nat, (g : Int) < grs σ → 0 ≤ (b g : Int) ∧ (b g : Int) < σ 2 := fun g hg => by have := hb g (by omega); omega
  refine groupCount_of sK300 hV hS ⟨15, loopN (L := fun m (t : Nat × Ii × Jj) v => L_X11_takeBest_12 _ m (t.1 : Int) (grs σ) v t.2.1 t.2.2) (fun g t => t.1 = (plZ σ (fun g => (b g : Int)) g).2 ∧ RG 200 t.2.1 t.2.2 σ nm ∧ RS 300 t.2.1 (plZ σ (fun g => (b g : Int)) g).1 ∧ (∀ g' : Nat, g ≤ g' → (g' : Int) < grs σ → t.2.1 116 g' = gPt σ g') ∧ t.2.1 126 = I 126) (N := (grs σ).toNat) (fun m g t hg ht kk => ?_) 15 0 (0, I, J) (by omega) (by omega) ⟨rfl, hR, hS, fun g' _ h => hp g' h, rfl⟩⟩
  obtain ⟨n, a, aJ⟩ := t
  obtain ⟨t0, t1, t2, t3, t4⟩ := ht
  dsimp only at t0 t1 t2 t3 t4 kk ⊢
  obtain ⟨i1, i2, i3, i4, i5, i6, i7, i8⟩ := plZ_keeps hV hbI h6 g (by omega)
  refine ls_X11_takeBest_12 ?_
  generalize hr : L_X11_takeBest_12 _ m = r at kk ⊢
  unfold Lb_X11_takeBest_12
  refine ⟨rgK (by omega), rgK (by omega), fun d => ?_, fun d => ?_⟩
  · have hgn : g = (grs σ).toNat := by omega
    subst hgn
    exact ⟨by rw [t0], t2⟩
  · have hbg := hb g (by omega)
    have bgp := hV.gpb (g := (g : Int)) (by omega) (by omega)
    refine at_of (n := 7) rfl rfl (by omega) (at_of (n := 14) rfl rfl (by omega) ?_)
    rw [t4, hc g (by omega), t3 g (Nat.le_refl _) (by omega)]
    have hgp := i8 g (Nat.le_refl _) (by omega)
    refine ⟨rgK (by omega), rgK (by omega), fun d2 => kk (by omega) (n, a, aJ) ⟨?_, t1, ?_, fun g' h1 h2 => t3 g' (by omega) h2, t4⟩, fun d2 => ?_⟩
    · rw [plZ_succ]
      dsimp only
      rw [if_pos (by rw [hgp]; exact d2), t0]; rfl
    · rw [plZ_succ]
      dsimp only
      unfold comesZ
      rw [if_pos (by rw [hgp]; exact d2)]
      exact t2
    · have e2 : (plZ σ (fun g => (b g : Int)) g).1 2 = σ 2 := i2 2 (by omega)
      refine fr_X11_takeTo (c_takeTo2 i1 (t1.ge i2 hM) t2 rfl (by rw [i3]; omega) rfl (by rw [e2]; omega) (by rw [hgp]; exact d2)) (fun I8 J8 h8 s8 => ?_)
      have := kk (by omega) (n + 1, I8, J8) ⟨?_, t1.fr s8, ?_, fun g' h1 h2 => ?_, ?_⟩
      · rwa [show (((n + 1 : Nat)) : Int) = (n : Int) + 1 by omega] at this
      · rw [plZ_succ]
        dsimp only
        rw [if_neg (by rw [hgp]; exact d2), t0]
      · rw [plZ_succ]
        exact h8.1
      · show I8 116 g' = _
        rw [h8.2 g' (by rw [i3]; exact h2)]
        exact i8 g' (by omega) h2
      · have : I8 126 = a 126 := s8.k
        show I8 126 = I 126
        rw [this, t4]
theorem c_takeApart {x y : Int} {v w : Nat} (hV : VS σ) (h2 : σ 2 = 2) (h5 : σ 5 = 0) (h6 : σ 6 + 14 ≤ 1000000000) (hR : RG 200 I J σ nm) (hS : RS 300 I σ) (hx : x = (v : Int)) (hv : v < (σ 0).toNat) (hy : y = (w : Int)) (hw : w < (σ 0).toNat) (hvw : v ≠ w) : wp_X11_takeApart x y I J (fun r I' _ => ∃ T s, FLW σ v w T s ∧ r = ((plZ σ (fun g => if s.testBit g = true then 0 else 1) (σ 0).toNat).2 : Int) ∧ RS 300 I' (plZ σ (fun g => if s.testBit g = true then 0 else 1) (σ 0).toNat).1) := by
  have hM := hV.M
  have b0 := ms_0 hM
  have hgs : grs σ = σ 0 := by
    unfold grs
    rw [h5]; exact hV.n0
  refine fr_X1_run (c_run hV hR hx hv hy hw hvw) (fun I1 J1 h1 s1 => ?_)
  obtain ⟨T, s, -, q5, hF⟩ := h1
  have s14 : s < 16384 := by
    have h4 := hF.1
    have : 2 ^ (σ 0).toNat ≤ 2 ^ 14 := Nat.pow_le_pow_right (by decide) (by omega)
    omega
  have hbI : ∀ g : Nat, (g : Int) < grs σ → 0 ≤ (if s.testBit g = true then (0 : Int) else 1) ∧ (if s.testBit g = true then (0 : Int) else 1) < σ 2 := fun g _ => by split <;> omega
  refine ⟨15, loopN (L := fun m (t : Nat × Ii × Jj) v' => L_X11_takeApart_18 x y _ m (t.1 : Int) v' t.2.1 t.2.2) (fun g t => t.1 = (plZ σ (fun g => if s.testBit g = true then 0 else 1) g).2 ∧ RG 200 t.2.1 t.2.2 σ nm ∧ RS 300 t.2.1 (plZ σ (fun g => if s.testBit g = true then 0 else 1) g).1 ∧ t.2.1 128 5 = (s : Int)) (N := (σ 0).toNat) (fun m g t hg ht kk => ?_) 15 0 (0, I1, J1) (by omega) (by omega) ⟨rfl, hR.fr s1, hS.fr s1, q5⟩⟩
  obtain ⟨n, a, aJ⟩ := t
  obtain ⟨t0, t1, t2, t4⟩ := ht
  dsimp only at t0 t1 t2 t4 kk ⊢
  have hn := t1.n
  obtain ⟨i1, i2, i3, i4, i5, i6, i7, i8⟩ := plZ_keeps hV hbI h6 g (by omega)
  refine ls_X11_takeApart_18 ?_
  generalize hr : L_X11_takeApart_18 x y _ m = r at kk ⊢
  unfold Lb_X11_takeApart_18
  refine ⟨rgK (by omega), rgK (by omega), fun d => ?_, fun d => ?_⟩
  · have hgn : g = (σ 0).toNat := by omega
    subst hgn
    exact ⟨T, s, hF, by rw [t0], t2⟩
  · have hg' : g < (σ 0).toNat := by omega
    have e0 : (plZ σ (fun g => if s.testBit g = true then 0 else 1) g).1 0 = σ 0 := i2 0 (by omega)
    have e2 : (plZ σ (fun g => if s.testBit g = true then 0 else 1) g).1 2 = σ 2 := i2 2 (by omega)
    have b0' := ms_0 i1.M
    have hga : gAt (plZ σ (fun g => if s.testBit g = true then 0 else 1) g).1 g = (g : Int) := by
      have := i1.g0 (v := g) (by rw [e0]; exact hg')
      unfold gL at this
      unfold gAt
      rw [i4, h5]; exact this
    have hgp : gPt (plZ σ (fun g => if s.testBit g = true then 0 else 1) g).1 g = (plZ σ (fun g => if s.testBit g = true then 0 else 1) g).1 (21 + g) := by
      have := i1.gp (v := g) (by rw [e0]; exact hg')
      rwa [hga] at this
    have bp := i1.p (v := g) (by rw [e0]; exact hg')
    have body : ∀ q : Nat, (q : Int) = (if s.testBit g = true then 0 else 1) → B_X11_takeApart_50 x y (fun r I' _ => ∃ T s, FLW σ v w T s ∧ r = ((plZ σ (fun g => if s.testBit g = true then 0 else 1) (σ 0).toNat).2 : Int) ∧ RS 300 I' (plZ σ (fun g => if s.testBit g = true then 0 else 1) (σ 0).toNat).1) r (n : Int) (g : Int) (q : Int) a aJ := by
      intro q hq
      have hq1 : (q : Int) ≤ 1 := by rw [hq]; split <;> omega
      unfold B_X11_takeApart_50
      refine at_of (n := 14) rfl rfl (by omega) ?_
      have hrd : a 301 g = (plZ σ (fun g => if s.testBit g = true then 0 else 1) g).1 (21 + g) := t2.p (by rw [e0]; exact hg')
      rw [hrd, ← hgp]
      rw [← hgp] at bp
      refine ⟨rgK (by omega), rgK (by omega), fun d2 => kk hg' (n, a, aJ) ⟨?_, t1, ?_, t4⟩, fun d2 => ?_⟩
      · rw [plZ_succ]
        dsimp only
        rw [if_pos (by rw [d2]; exact hq), t0]; rfl
      · rw [plZ_succ]
        dsimp only
        unfold comesZ
        rw [if_pos (by rw [d2]; exact hq)]
        exact t2
      · refine fr_X11_takeTo (c_takeTo2 i1 (t1.ge i2 hM) t2 rfl (by rw [i3]; omega) rfl (by rw [e2]; omega) d2) (fun I8 J8 h8 s8 => ?_)
        have := kk hg' (n + 1, I8, J8) ⟨?_, t1.fr s8, ?_, ?_⟩
        · rwa [show (((n + 1 : Nat)) : Int) = (n : Int) + 1 by omega] at this
        · rw [plZ_succ]
          dsimp only
          rw [if_neg (by rw [← hq]; exact d2), t0]
        · rw [plZ_succ]
          dsimp only
          rw [← hq]
          exact h8.1
        · have : I8 128 5 = a 128 5 := s8.i
          show I8 128 5 = _
          rw [this, t4]
    refine isIn_of t4 rfl (by omega) (by omega) (fun d2 => ⟨fun z => absurd z (by decide), fun _ => body 0 (by rw [if_pos d2]; rfl)⟩) (fun d2 => ⟨fun _ => body 1 (by rw [if_neg (by rw [d2]; decide)]; rfl), fun z => absurd rfl z⟩)
end PL
section RPL
variable {I : Ii} {J : Jj}
theorem s_placesBest (hV : VS (I 2)) (h7 : grs (I 2) ≤ 7) (h6 : I 2 6 + 14 ≤ 1000000000) : wp_X12_placesBest I J (fun r I' _ => ∃ b : Nat → Nat, FB (I 2) b ∧ r = ((plZ (I 2) (fun g => (b g : Int)) (grs (I 2)).toNat).2 : Int) ∧ I' 2 = (plZ (I 2) (fun g => (b g : Int)) (grs (I 2)).toNat).1) := by
  have hM := hV.M
  have gr := grs_b hM
  have b2 := ms_2 hM
  refine fr_X12_searches (s_searches hV h7) (fun I1 J1 h1 s1 => ?_)
  obtain ⟨b, hF, -, -, hb⟩ := h1
  have e2 : I1 2 = I 2 := s1.k
  have hbI : ∀ g : Nat, (g : Int) < grs (I 2) → 0 ≤ (b g : Int) ∧ (b g : Int) < I 2 2 := fun g hg => by have := hF.1 g (by omega); omega
  refine ⟨15, loopN (L := fun m (t : Nat × Ii × Jj) v => L_X12_placesBest_8 _ m (t.1 : Int) v t.2.1 t.2.2) (fun g t => t.1 = (plZ (I 2) (fun g => (b g : Int)) g).2 ∧ t.2.1 2 = (plZ (I 2) (fun g => (b g : Int)) g).1 ∧ t.2.1 14 = I1 14) (N := (grs (I 2)).toNat) (fun m g t hg ht kk => ?_) 15 0 (0, I1, J1) (by omega) (by omega) ⟨rfl, e2, rfl⟩⟩
  obtain ⟨n, a, aJ⟩ := t
  obtain ⟨t0, t1, t2⟩ := ht
  dsimp only at t0 t1 t2 kk ⊢
  obtain ⟨i1, i2, i3, i4, i5, i6, i7, i8⟩ := plZ_keeps hV hbI h6 g (by omega)
  refine ls_X12_placesBest_8 ?_
  generalize hr : L_X12_placesBest_8 _ m = r at kk ⊢
  unfold Lb_X12_placesBest_8
  refine fr_X12_groups (s_groups (by rw [t1]; exact i1.M)) (fun w hw => ?_)
  rw [t1, i3] at hw
  subst hw
  refine ⟨rgK (by omega), rgK (by omega), fun d => ?_, fun d => ?_⟩
  · have hgn : g = (grs (I 2)).toNat := by omega
    subst hgn
    exact ⟨b, hF, by rw [t0], t1⟩
  · have hbg := hbI g (by omega)
    rw [show ((g : Int)).toNat = g by omega, t2, hb g (by omega)]
    refine ⟨by omega, fr_X12_comes (s_comes (by rw [t1]; exact i1.M) (by omega) (by omega) (by rw [t1]; exact i1.GV.has i1.M (by omega) (by rw [i3]; omega))) (fun z I6 J6 h6' s6 => ?_)⟩
    rw [t1] at h6'
    have hz : z = 0 ∨ z = 1 := by rw [h6'.1]; split <;> omega
    refine fr_X12_truth (s_truth hz) (fun z2 hz2 => ?_)
    subst hz2
    have e : (n : Int) + z2 = ((n + (if gPt (plZ (I 2) (fun g => (b g : Int)) g).1 (g : Int) = (b g : Int) then 0 else 1) : Nat) : Int) := by
      rw [h6'.1]
      exact cnt_if n _
    rw [e]
    refine kk (by omega) (_, I6, J6) ⟨?_, ?_, ?_⟩
    · rw [plZ_succ, t0]
    · rw [plZ_succ]
      exact h6'.2
    · have : I6 14 = a 14 := s6.k
      show I6 14 = I1 14
      rw [this, t2]
theorem s_placesApart {x y : Int} {v w : Nat} {T : Int} {s : Nat} (hV : VS (I 2)) (h2 : I 2 2 = 2) (h5 : I 2 5 = 0) (h6 : I 2 6 + 14 ≤ 1000000000) (hx : x = (v : Int)) (hv : v < (I 2 0).toNat) (hy : y = (w : Int)) (hw : w < (I 2 0).toNat) (hF : FLW (I 2) v w T s) : wp_X12_placesApart x y I J (fun r I' _ => r = ((plZ (I 2) (fun g => if s.testBit g = true then 0 else 1) (I 2 0).toNat).2 : Int) ∧ I' 2 = (plZ (I 2) (fun g => if s.testBit g = true then 0 else 1) (I 2 0).toNat).1) := by
  have hM := hV.M
  have b0 := ms_0 hM
  have hgs : grs (I 2) = I 2 0 := by
    unfold grs
    rw [h5]; exact hV.n0
  refine fr_X12_flows (s_flows hM hx hv hy hw hF) (fun I1 J1 h1 s1 => ?_)
  have e2 : I1 2 = I 2 := s1.k
  rw [h1.2]
  have s14 : s < 16384 := by
    have h4 := hF.1
    have : 2 ^ (I 2 0).toNat ≤ 2 ^ 14 := Nat.pow_le_pow_right (by decide) (by omega)
    omega
  have hbI : ∀ g : Nat, (g : Int) < grs (I 2) → 0 ≤ (if s.testBit g = true then (0 : Int) else 1) ∧ (if s.testBit g = true then (0 : Int) else 1) < I 2 2 := fun g _ => by split <;> omega
  refine ⟨15, loopN (L := fun m (t : Nat × Ii × Jj) v' => L_X12_placesApart_17 x y _ m (s : Int) (t.1 : Int) v' t.2.1 t.2.2) (fun g t => t.1 = (plZ (I 2) (fun g => if s.testBit g = true then 0 else 1) g).2 ∧ t.2.1 2 = (plZ (I 2) (fun g => if s.testBit g = true then 0 else 1) g).1) (N := (I 2 0).toNat) (fun m g t hg ht kk => ?_) 15 0 (0, I1, J1) (by omega) (by omega) ⟨rfl, e2⟩⟩
  obtain ⟨n, a, aJ⟩ := t
  obtain ⟨t0, t1⟩ := ht
  dsimp only at t0 t1 kk ⊢
  obtain ⟨i1, i2, i3, i4, i5, i6, i7, i8⟩ := plZ_keeps hV hbI h6 g (by omega)
  have q0 : a 2 0 = I 2 0 := by rw [t1]; exact i2 0 (by omega)
  refine ls_X12_placesApart_17 ?_
  generalize hr : L_X12_placesApart_17 x y _ m = r at kk ⊢
  unfold Lb_X12_placesApart_17
  refine ⟨rgK (by omega), rgK (by omega), fun d => ?_, fun d => ?_⟩
  · have hgn : g = (I 2 0).toNat := by omega
    subst hgn
    exact ⟨by rw [t0], t1⟩
  · have body : ∀ q : Int, q = (if s.testBit g = true then 0 else 1) → B_X12_placesApart_47 x y (fun r I' _ => r = ((plZ (I 2) (fun g => if s.testBit g = true then 0 else 1) (I 2 0).toNat).2 : Int) ∧ I' 2 = (plZ (I 2) (fun g => if s.testBit g = true then 0 else 1) (I 2 0).toNat).1) r (s : Int) (g : Int) (n : Int) (g : Int) q a aJ := by
      intro q hq
      have hqb : 0 ≤ q ∧ q ≤ 1 := by rw [hq]; split <;> omega
      unfold B_X12_placesApart_47
      refine fr_X12_comes (s_comes (by rw [t1]; exact i1.M) (by omega) (by omega) (by rw [t1]; exact i1.GV.has i1.M (by omega) (by rw [i3]; omega))) (fun z I6 J6 h6' s6 => ?_)
      rw [t1] at h6'
      have hz : z = 0 ∨ z = 1 := by rw [h6'.1]; split <;> omega
      refine fr_X12_truth (s_truth hz) (fun z2 hz2 => ?_)
      subst hz2
      have e : (n : Int) + z2 = ((n + (if gPt (plZ (I 2) (fun g => if s.testBit g = true then 0 else 1) g).1 (g : Int) = (if s.testBit g = true then 0 else 1) then 0 else 1) : Nat) : Int) := by
        rw [h6'.1, hq]
        exact cnt_if n _
      rw [e]
      refine kk (by omega) (_, I6, J6) ⟨?_, ?_⟩
      · rw [plZ_succ, t0]
      · rw [plZ_succ]
        show I6 2 = _
        rw [h6'.2, hq]
    refine fr_X12_hasBit (s_hasBit (s := s) (k := g) rfl rfl (by omega) (by omega)) (fun z hz => bo0 hz (fun d2 => body 1 (by rw [if_neg d2])) (fun d2 => body 0 (by rw [if_pos d2])))
end RPL
