/-! ===== changes of the reference ===== -/
/-- what is kept behind a change of row σ -/
def KPs (u : Nat) (σ : Nat → Int) (I I' : Ii) : Prop := (u < 6 → I' 0 23 = (u : Int) + 1 ∧ seg (I' 4) u = σ ∧ ∀ i, i < u → seg (I' 4) i = seg (I 4) i) ∧ (u = 6 → I' 0 23 = 6 ∧ seg (I' 4) 5 = σ ∧ ∀ i, i < 5 → seg (I' 4) i = seg (I 4) (i + 1))
/-- a change is done -/
def CHs (u : Nat) (τ : Nat → Int) (I I' : Ii) : Prop := I' 0 0 = 0 ∧ I' 2 = τ ∧ I' 5 = I 2 ∧ KPs u (I 2) I I'
/-- no change is done -/
def NCs (c : Int) (I I' : Ii) : Prop := I' 0 0 = c ∧ I' 2 = I 2 ∧ I' 5 = I 5 ∧ I' 4 = I 4 ∧ I' 0 23 = I 0 23
theorem NCs_up {I I' : Ii} {c : Int} (e : I' = up2 I 0 0 c) : NCs c I I' := ⟨by rw [e, up2_self], by rw [e, up2_key (by omega)], by rw [e, up2_key (by omega)], by rw [e, up2_key (by omega)], by rw [e, up2_ne (by omega)]⟩
section SCH
variable {I : Ii} {J : Jj} {x y : Int} {u : Nat}
/-- aside, a change, kept -/
theorem chg_of {I1 I2 I3 : Ii} {J3 : Jj} {τ : Nat → Int} {r : Int} (h2 : Tl 350 (I 2)) (hu : I 0 23 = (u : Int)) (hu6 : u ≤ 6) (z0 : I3 0 0 = 0) (z2 : I3 2 = τ) (z5 : I3 5 = I 2) (z4 : I3 4 = I 4) (z23 : I3 0 23 = I 0 23) {Q : Int → Ii → Jj → Prop} (hQ : ∀ I' J', CHs u τ I I' → Q r I' J') : wp_X12_kept r I3 J3 Q := by
  refine fr_X12_keeps (s_keeps (z23.trans hu) hu6 (by rw [z5]; exact h2)) (fun I4 J4 h4 s4 => hQ _ _ ?_)
  rw [z5, z4] at h4
  exact ⟨s4.i.trans z0, s4.k.trans z2, s4.k.trans z5, h4.1, h4.2⟩
/-- a row is laid aside -/
theorem aside_of {I1 : Ii} {J1 : Jj} (h2 : Tl 350 (I 2)) (h5 : Tl 350 (I 5)) (n : NCs 0 I I1) {Q : Ii → Jj → Prop} (hQ : ∀ I' J', I' 0 0 = 0 → I' 2 = I 2 → I' 5 = I 2 → I' 4 = I 4 → I' 0 23 = I 0 23 → Q I' J') : wp_X12_laysAside I1 J1 Q := by
  obtain ⟨n0, n2, n5, n4, n23⟩ := n
  refine fr_X12_laysAside (s_laysAside (by rw [n2]; exact h2) (by rw [n5]; exact h5)) (fun I2 J2 q s => hQ _ _ (s.i.trans n0) (s.k.trans n2) (q.trans n2) (s.k.trans n4) (s.i.trans n23))
theorem s_shrink (hV : VS (I 2)) (h2 : Tl 350 (I 2)) (h5 : Tl 350 (I 5)) (hu : I 0 23 = (u : Int)) (hu6 : u ≤ 6) : wp_X12_shrink I J (fun r I' _ => ((I 2 5 ≠ 4 ∧ pairZ (I 2) ≠ 0) ∧ r = grs (shZ (I 2)) ∧ CHs u (shZ (I 2)) I I') ∨ (¬ (I 2 5 ≠ 4 ∧ pairZ (I 2) ≠ 0) ∧ NCs 1 I I')) := by
  have b5 := ms_5 hV.M
  refine fr_X12_whyShrink (s_whyShrink hV) (fun v I1 J1 hv s1 => ?_)
  have m2 : I1 2 = I 2 := s1.k
  have hv1 : (v = 0 ∧ (I 2 5 ≠ 4 ∧ pairZ (I 2) ≠ 0)) ∨ ((v = 1 ∨ v = 2) ∧ ¬ (I 2 5 ≠ 4 ∧ pairZ (I 2) ≠ 0)) := by
    rw [hv]
    by_cases c : I 2 5 = 4
    · rw [if_pos c]; exact Or.inr ⟨Or.inl rfl, fun z => z.1 c⟩
    · rw [if_neg c]
      by_cases d : pairZ (I 2) = 0
      · rw [if_pos d]; exact Or.inr ⟨Or.inr rfl, fun z => z.2 d⟩
      · rw [if_neg d]; exact Or.inl ⟨rfl, c, d⟩
  have key : ∀ t : Int, Bo t (I 2 5 ≠ 4 ∧ pairZ (I 2) ≠ 0) → B_X12_shrink_13 (fun r I' _ => ((I 2 5 ≠ 4 ∧ pairZ (I 2) ≠ 0) ∧ r = grs (shZ (I 2)) ∧ CHs u (shZ (I 2)) I I') ∨ (¬ (I 2 5 ≠ 4 ∧ pairZ (I 2) ≠ 0) ∧ NCs 1 I I')) t I1 J1 := by
    intro t ht
    unfold B_X12_shrink_13
    refine goes_of ht (fun hP I2 e => ⟨fun _ => ?_, fun z => absurd z (by decide)⟩) (fun hP I2 e => ⟨fun z => absurd rfl z, fun _ => Or.inr ⟨hP, ?_⟩⟩)
    · refine aside_of h2 h5 (I1 := I2) ⟨by rw [e, up2_self], by rw [e, up2_key (by omega)]; exact m2, by rw [e, up2_key (by omega)]; exact s1.k, by rw [e, up2_key (by omega)]; exact s1.k, by rw [e, up2_ne (by omega)]; exact s1.i⟩ (fun I3 J3 a0 a2 a5 a4 a23 => ?_)
      refine fr_X12_shrinks (s_shrinks (by rw [a2]; exact hV) (by rw [a2]; have := hP.1; omega)) (fun r I4 J4 h4 s4 => ?_)
      rw [a2] at h4
      refine chg_of (I1 := I) (I2 := I) (τ := shZ (I 2)) h2 hu hu6 (s4.i.trans a0) h4.2 (s4.k.trans a5) (s4.k.trans a4) (s4.i.trans a23) (fun I' J' hc => Or.inl ⟨hP, ?_, hc⟩)
      rw [h4.1]
      have e5 : shZ (I 2) 5 = I 2 5 + 1 := by unfold shZ; rfl
      unfold grs
      rw [e5, show (I 2 5 + 1).toNat = (I 2 5).toNat + 1 by omega, ← Nat.add_assoc, shZ_n hV.M]
    · exact ⟨by rw [e, up2_self], by rw [e, up2_key (by omega)]; exact m2, by rw [e, up2_key (by omega)]; exact s1.k, by rw [e, up2_key (by omega)]; exact s1.k, by rw [e, up2_ne (by omega)]; exact s1.i⟩
  exact ⟨rgK (by omega), fun c => key 0 (Bo.zero (by rcases hv1 with ⟨z, -⟩ | ⟨-, z⟩; · exact absurd z c
                                                     · exact z)), fun c => key 1 (Bo.one (by rcases hv1 with ⟨-, z⟩ | ⟨z, -⟩; · exact z
                                                                                             · omega))⟩
theorem s_grow (hV : VS (I 2)) (h2 : Tl 350 (I 2)) (h5 : Tl 350 (I 5)) (hu : I 0 23 = (u : Int)) (hu6 : u ≤ 6) : wp_X12_grow I J (fun r I' _ => (0 < I 2 5 ∧ r = grs (updr (I 2) 5 (I 2 5 - 1)) ∧ CHs u (updr (I 2) 5 (I 2 5 - 1)) I I') ∨ (¬ 0 < I 2 5 ∧ NCs 1 I I')) := by
  have b5 := ms_5 hV.M
  have key : ∀ t : Int, Bo t (0 < I 2 5) → B_X12_grow_15 (fun r I' _ => (0 < I 2 5 ∧ r = grs (updr (I 2) 5 (I 2 5 - 1)) ∧ CHs u (updr (I 2) 5 (I 2 5 - 1)) I I') ∨ (¬ 0 < I 2 5 ∧ NCs 1 I I')) t I J := by
    intro t ht
    unfold B_X12_grow_15
    refine goes_of ht (fun hP I2 e => ⟨fun _ => ?_, fun z => absurd z (by decide)⟩) (fun hP I2 e => ⟨fun z => absurd rfl z, fun _ => Or.inr ⟨hP, NCs_up e⟩⟩)
    refine aside_of h2 h5 (NCs_up e) (fun I3 J3 a0 a2 a5 a4 a23 => ?_)
    intro I4 e4
    have f2 : I4 2 = updr (I 2) 5 (I 2 5 - 1) := by rw [e4, up2_row, a2]
    refine fr_X12_groups (s_groups (by rw [f2]; exact (growZ_VS hV hP).M)) (fun r hr => ?_)
    refine chg_of (I1 := I) (I2 := I) (τ := updr (I 2) 5 (I 2 5 - 1)) h2 hu hu6 (by rw [e4, up2_ne (by omega)]; exact a0) f2 (by rw [e4, up2_key (by omega)]; exact a5) (by rw [e4, up2_key (by omega)]; exact a4) (by rw [e4, up2_ne (by omega)]; exact a23) (fun I' J' hc => Or.inl ⟨hP, ?_, hc⟩)
    rw [hr, f2]
  exact ⟨rgK (by omega), fun c => key 0 (Bo.zero (by omega)), fun c => key 1 (Bo.one (by omega))⟩
theorem s_move (hV : VS (I 2)) (hx : rg x) (hy : rg y) (h2 : Tl 350 (I 2)) (h5 : Tl 350 (I 5)) (hu : I 0 23 = (u : Int)) (hu6 : u ≤ 6) (h6 : I 2 6 < 1000000000) : wp_X12_move x y I J (fun r I' _ => (((0 ≤ x ∧ x < grs (I 2)) ∧ (0 ≤ y ∧ y < I 2 2)) ∧ wmZ (I 2) x y = 0 ∧ r = cutZ (comesZ (I 2) x y) ∧ CHs u (comesZ (I 2) x y) I I') ∨ (¬ ((0 ≤ x ∧ x < grs (I 2)) ∧ (0 ≤ y ∧ y < I 2 2)) ∧ NCs 1 I I') ∨ (((0 ≤ x ∧ x < grs (I 2)) ∧ (0 ≤ y ∧ y < I 2 2)) ∧ wmZ (I 2) x y ≠ 0 ∧ NCs 2 I I')) := by
  have gr := grs_b hV.M
  have b2 := ms_2 hV.M
  have key : ∀ t1 t2 : Int, Bo t1 ((0 ≤ x ∧ x < grs (I 2)) ∧ (0 ≤ y ∧ y < I 2 2)) → Bo t2 (((0 ≤ x ∧ x < grs (I 2)) ∧ (0 ≤ y ∧ y < I 2 2)) ∧ wmZ (I 2) x y = 0) → B_X12_move_27 x y (fun r I' _ => (((0 ≤ x ∧ x < grs (I 2)) ∧ (0 ≤ y ∧ y < I 2 2)) ∧ wmZ (I 2) x y = 0 ∧ r = cutZ (comesZ (I 2) x y) ∧ CHs u (comesZ (I 2) x y) I I') ∨ (¬ ((0 ≤ x ∧ x < grs (I 2)) ∧ (0 ≤ y ∧ y < I 2 2)) ∧ NCs 1 I I') ∨ (((0 ≤ x ∧ x < grs (I 2)) ∧ (0 ≤ y ∧ y < I 2 2)) ∧ wmZ (I 2) x y ≠ 0 ∧ NCs 2 I I')) t1 t2 I J := by
    intro t1 t2 ht1 ht2
    unfold B_X12_move_27
    refine both_of ht1 ht2 (fun hP hR I2 e => ⟨fun _ => ?_, fun z => absurd z (by decide)⟩) (fun hP I2 e => ⟨fun z => absurd rfl z, fun _ => Or.inr (Or.inl ⟨hP, NCs_up e⟩)⟩) (fun hP hR I2 e => ⟨fun z => absurd rfl z, fun _ => Or.inr (Or.inr ⟨hP, fun z => hR ⟨hP, z⟩, NCs_up e⟩)⟩)
    refine aside_of h2 h5 (NCs_up e) (fun I3 J3 a0 a2 a5 a4 a23 => ?_)
    refine fr_X12_moves (s_moves (by rw [a2]; exact hV.M) (by omega) (by omega) (by rw [a2]; exact hV.GV.has hV.M hP.1.1 hP.1.2) (by rw [a2]; exact h6)) (fun r I4 J4 h4 s4 => ?_)
    rw [a2] at h4
    exact chg_of (I1 := I) (I2 := I) (τ := comesZ (I 2) x y) h2 hu hu6 (s4.i.trans a0) h4.2 (s4.k.trans a5) (s4.k.trans a4) (s4.i.trans a23) (fun I' J' hc => Or.inl ⟨hP, hR.2, h4.1, hc⟩)
  refine fr_X12_areThere (s_areThere hV.M hx hy) (fun v hv => ⟨fun c => key v 0 hv (Bo.zero (fun z => ?_)), fun c => ?_⟩)
  · rcases hv with q | q
    · omega
    · exact q.2 z.1
  · have hP : (0 ≤ x ∧ x < grs (I 2)) ∧ (0 ≤ y ∧ y < I 2 2) := by
      rcases hv with q | q
      · exact q.2
      · exact absurd q.1 c
    refine fr_X12_whyMove (s_whyMove hV.M hx hy (hV.GV.has hV.M hP.1.1 hP.1.2)) (fun w hw => ?_)
    have wb := wmZ_b (I 2) x y
    subst hw
    exact ⟨rgK (by omega), fun d => key v 0 hv (Bo.zero (fun z => d z.2)), fun d => key v 1 hv (Bo.one ⟨hP, d⟩)⟩
theorem stpZ_1 {σ : Nat → Int} (h : nxZ σ ≠ -1) : (stpZ 1 σ).2 = comesZ σ (nxZ σ / 10) (nxZ σ % 10) := by unfold stpZ; rw [if_neg h]; rfl
theorem s_step (hV : VS (I 2)) (h2 : Tl 350 (I 2)) (h5 : Tl 350 (I 5)) (hu : I 0 23 = (u : Int)) (hu6 : u ≤ 6) (h6 : I 2 6 < 1000000000) : wp_X12_step I J (fun r I' _ => (nxZ (I 2) ≠ -1 ∧ r = cutZ (stpZ 1 (I 2)).2 ∧ CHs u (stpZ 1 (I 2)).2 I I') ∨ (nxZ (I 2) = -1 ∧ r = -1 ∧ I' 0 0 = 0 ∧ I' 2 = I 2 ∧ I' 5 = I 2 ∧ I' 4 = I 4 ∧ I' 0 23 = I 0 23)) := by
  intro I1 e1
  refine aside_of h2 h5 (NCs_up e1) (fun I3 J3 a0 a2 a5 a4 a23 => ?_)
  refine fr_X12_stepNow (s_stepNow (by rw [a2]; exact hV.M) (by rw [a2]; exact hV.GV) (by rw [a2]; exact h6)) (fun r I4 J4 h4 s4 => ?_)
  rw [a2] at h4
  by_cases hn : nxZ (I 2) = -1
  · obtain ⟨hr, q2⟩ := h4.1 hn
    subst hr
    exact ⟨rgK (by omega), fun z => absurd rfl z, fun _ => Or.inr ⟨hn, rfl, s4.i.trans a0, q2, s4.k.trans a5, s4.k.trans a4, s4.i.trans a23⟩⟩
  · obtain ⟨hr, q2⟩ := h4.2 hn
    have hs := VS_stp 1 hV (by omega)
    rw [← stpZ_1 hn] at q2
    have cb := cutZ_b hs.1.M
    rw [q2] at hr
    subst hr
    exact ⟨rgK (by omega), fun _ => chg_of (I1 := I) (I2 := I) (τ := (stpZ 1 (I 2)).2) h2 hu hu6 (s4.i.trans a0) q2 (s4.k.trans a5) (s4.k.trans a4) (s4.i.trans a23) (fun I' J' hc => Or.inl ⟨hn, rfl, hc⟩), fun z => by omega⟩
theorem s_steps (hV : VS (I 2)) (hx : rg x) (h2 : Tl 350 (I 2)) (h5 : Tl 350 (I 5)) (hu : I 0 23 = (u : Int)) (hu6 : u ≤ 6) (h6 : I 2 6 + 99 ≤ 1000000000) : wp_X12_steps x I J (fun r I' _ => ((1 ≤ x ∧ x ≤ 99) ∧ r = ((stpZ x.toNat (I 2)).1 : Int) ∧ CHs u (stpZ x.toNat (I 2)).2 I I') ∨ (¬ (1 ≤ x ∧ x ≤ 99) ∧ NCs 1 I I')) := by
  refine fr_X12_isIn (s_isInB hx (rgK (by omega)) (rgK (by omega))) (fun v hv => goes_of hv (fun hP I2 e => ⟨fun _ => ?_, fun z => absurd z (by decide)⟩) (fun hP I2 e => ⟨fun z => absurd rfl z, fun _ => Or.inr ⟨hP, NCs_up e⟩⟩))
  refine aside_of h2 h5 (NCs_up e) (fun I3 J3 a0 a2 a5 a4 a23 => ?_)
  have xx : x = ((x.toNat : Nat) : Int) := by omega
  have sn := s_stepsNow (I := I3) (J := J3) (m := x.toNat) (by rw [a2]; exact hV.M) (by rw [a2]; exact hV.GV) (by omega) (by rw [a2]; omega)
  rw [← xx, a2] at sn
  refine fr_X12_stepsNow sn (fun r I4 J4 h4 s4 => ?_)
  exact chg_of (I1 := I) (I2 := I) (τ := (stpZ x.toNat (I 2)).2) h2 hu hu6 (s4.i.trans a0) h4.2 (s4.k.trans a5) (s4.k.trans a4) (s4.i.trans a23) (fun I' J' hc => Or.inl ⟨hP, h4.1, hc⟩)
theorem s_placeBest (hV : VS (I 2)) (h2 : Tl 350 (I 2)) (h5 : Tl 350 (I 5)) (hu : I 0 23 = (u : Int)) (hu6 : u ≤ 6) (h6 : I 2 6 + 14 ≤ 1000000000) : wp_X12_placeBest I J (fun r I' _ => (grs (I 2) ≤ 7 ∧ ∃ b : Nat → Nat, FB (I 2) b ∧ r = ((plZ (I 2) (fun g => (b g : Int)) (grs (I 2)).toNat).2 : Int) ∧ CHs u (plZ (I 2) (fun g => (b g : Int)) (grs (I 2)).toNat).1 I I') ∨ (¬ grs (I 2) ≤ 7 ∧ NCs 1 I I')) := by
  have gr := grs_b hV.M
  have key : ∀ t : Int, Bo t (grs (I 2) ≤ 7) → B_X12_placeBest_15 (fun r I' _ => (grs (I 2) ≤ 7 ∧ ∃ b : Nat → Nat, FB (I 2) b ∧ r = ((plZ (I 2) (fun g => (b g : Int)) (grs (I 2)).toNat).2 : Int) ∧ CHs u (plZ (I 2) (fun g => (b g : Int)) (grs (I 2)).toNat).1 I I') ∨ (¬ grs (I 2) ≤ 7 ∧ NCs 1 I I')) t I J := by
    intro t ht
    unfold B_X12_placeBest_15
    refine goes_of ht (fun hP I2 e => ⟨fun _ => ?_, fun z => absurd z (by decide)⟩) (fun hP I2 e => ⟨fun z => absurd rfl z, fun _ => Or.inr ⟨hP, NCs_up e⟩⟩)
    refine aside_of h2 h5 (NCs_up e) (fun I3 J3 a0 a2 a5 a4 a23 => ?_)
    refine fr_X12_placesBest (s_placesBest (by rw [a2]; exact hV) (by rw [a2]; exact hP) (by rw [a2]; exact h6)) (fun r I4 J4 h4 s4 => ?_)
    rw [a2] at h4
    obtain ⟨b, hF, hr, q2⟩ := h4
    exact chg_of (I1 := I) (I2 := I) h2 hu hu6 (s4.i.trans a0) q2 (s4.k.trans a5) (s4.k.trans a4) (s4.i.trans a23) (fun I' J' hc => Or.inl ⟨hP, b, hF, hr, hc⟩)
  exact fr_X12_groups (s_groups hV.M) (fun v hv => ⟨rgK (by omega), fun c => key 0 (Bo.zero (by omega)), fun c => key 1 (Bo.one (by omega))⟩)
theorem s_setCredit (hV : VS (I 2)) (hx : rg x) (h2 : Tl 350 (I 2)) (h5 : Tl 350 (I 5)) (hu : I 0 23 = (u : Int)) (hu6 : u ≤ 6) : wp_X12_setCredit x I J (fun r I' _ => ((0 ≤ x ∧ x ≤ 99) ∧ r = I 2 4 ∧ CHs u (updr (I 2) 4 x) I I') ∨ (¬ (0 ≤ x ∧ x ≤ 99) ∧ NCs 1 I I')) := by
  refine fr_X12_isIn (s_isInB hx (rgK (by omega)) (rgK (by omega))) (fun v hv => goes_of hv (fun hP I2 e => ⟨fun _ => ?_, fun z => absurd z (by decide)⟩) (fun hP I2 e => ⟨fun z => absurd rfl z, fun _ => Or.inr ⟨hP, NCs_up e⟩⟩))
  refine aside_of h2 h5 (NCs_up e) (fun I3 J3 a0 a2 a5 a4 a23 => ?_)
  intro I4 e4
  exact chg_of (I1 := I) (I2 := I) (τ := updr (I 2) 4 x) h2 hu hu6 (by rw [e4, up2_ne (by omega)]; exact a0) (by rw [e4, up2_row, a2]) (by rw [e4, up2_key (by omega)]; exact a5) (by rw [e4, up2_key (by omega)]; exact a4) (by rw [e4, up2_ne (by omega)]; exact a23) (fun I' J' hc => Or.inl ⟨hP, by rw [a2], hc⟩)
/-- apart: the parts of the sides -/
abbrev apZ (σ : Nat → Int) (s : Nat) : (Nat → Int) × Nat := plZ σ (fun g => if s.testBit g = true then 0 else 1) (σ 0).toNat
theorem s_placeApart {T : Int} {s : Nat} (hV : VS (I 2)) (hx : rg x) (hy : rg y) (h2 : Tl 350 (I 2)) (h5 : Tl 350 (I 5)) (hu : I 0 23 = (u : Int)) (hu6 : u ≤ 6) (h6 : I 2 6 + 14 ≤ 1000000000) (hF : (0 ≤ x ∧ x < I 2 0) ∧ (0 ≤ y ∧ y < I 2 0) → x ≠ y → I 2 2 = 2 ∧ I 2 5 = 0 → FLW (I 2) x.toNat y.toNat T s) : wp_X12_placeApart x y I J (fun r I' _ => (((0 ≤ x ∧ x < I 2 0) ∧ (0 ≤ y ∧ y < I 2 0)) ∧ x ≠ y ∧ (I 2 2 = 2 ∧ I 2 5 = 0) ∧ r = ((apZ (I 2) s).2 : Int) ∧ CHs u (apZ (I 2) s).1 I I') ∨ (¬ ((0 ≤ x ∧ x < I 2 0) ∧ (0 ≤ y ∧ y < I 2 0)) ∧ NCs 1 I I') ∨ (((0 ≤ x ∧ x < I 2 0) ∧ (0 ≤ y ∧ y < I 2 0)) ∧ x = y ∧ NCs 2 I I') ∨ (((0 ≤ x ∧ x < I 2 0) ∧ (0 ≤ y ∧ y < I 2 0)) ∧ x ≠ y ∧ ¬ (I 2 2 = 2 ∧ I 2 5 = 0) ∧ NCs 3 I I')) := by
  have b0 := ms_0 hV.M
  generalize hQ : (fun (r : Int) (I' : Ii) (_ : Jj) => (((0 ≤ x ∧ x < I 2 0) ∧ (0 ≤ y ∧ y < I 2 0)) ∧ x ≠ y ∧ (I 2 2 = 2 ∧ I 2 5 = 0) ∧ r = ((apZ (I 2) s).2 : Int) ∧ CHs u (apZ (I 2) s).1 I I') ∨ (¬ ((0 ≤ x ∧ x < I 2 0) ∧ (0 ≤ y ∧ y < I 2 0)) ∧ NCs 1 I I') ∨ (((0 ≤ x ∧ x < I 2 0) ∧ (0 ≤ y ∧ y < I 2 0)) ∧ x = y ∧ NCs 2 I I') ∨ (((0 ≤ x ∧ x < I 2 0) ∧ (0 ≤ y ∧ y < I 2 0)) ∧ x ≠ y ∧ ¬ (I 2 2 = 2 ∧ I 2 5 = 0) ∧ NCs 3 I I')) = Q
  have key : ∀ t1 t2 : Int, Bo t1 ((0 ≤ x ∧ x < I 2 0) ∧ (0 ≤ y ∧ y < I 2 0)) → Bo t2 (((0 ≤ x ∧ x < I 2 0) ∧ (0 ≤ y ∧ y < I 2 0)) ∧ x ≠ y) → B_X12_placeApart_23 x y Q t1 t2 I J := by
    intro t1 t2 ht1 ht2
    unfold B_X12_placeApart_23
    refine both_of ht1 ht2 (fun hP hR I2 e => ⟨fun _ => ?_, fun z => absurd z (by decide)⟩) (fun hP I2 e => ⟨fun z => absurd rfl z, fun _ => by rw [← hQ]; exact Or.inr (Or.inl ⟨hP, NCs_up e⟩)⟩) (fun hP hR I2 e => ⟨fun z => absurd rfl z, fun _ => by rw [← hQ]; exact Or.inr (Or.inr (Or.inl ⟨hP, Classical.not_not.mp (fun z => hR ⟨hP, z⟩), NCs_up e⟩))⟩)
    have e2 : I2 2 = I 2 := by rw [e, up2_key (by omega)]
    refine fr_X12_mayApart (s_mayApart (by rw [e2]; exact hV.M)) (fun w hw => ?_)
    rw [e2] at hw
    refine bo0 hw (fun hm => ?_) (fun hm => ?_)
    · intro I6 e6
      have f0 : I6 0 0 = 3 := by rw [e6, up2_self]
      refine ⟨rgK (by omega), fun z => by omega, fun _ => ?_⟩
      rw [← hQ]
      exact Or.inr (Or.inr (Or.inr ⟨hP, hR.2, hm, f0, by rw [e6, up2_key (by omega)]; exact e2, by rw [e6, up2_key (by omega), e, up2_key (by omega)], by rw [e6, up2_key (by omega), e, up2_key (by omega)], by rw [e6, up2_ne (by omega), e, up2_ne (by omega)]⟩))
    · intro I6 e6
      have f0 : I6 0 0 = 0 := by rw [e6, up2_self]
      refine ⟨rgK (by omega), fun _ => ?_, fun z => by omega⟩
      refine aside_of h2 h5 (I1 := I6) ⟨f0, by rw [e6, up2_key (by omega)]; exact e2, by rw [e6, up2_key (by omega), e, up2_key (by omega)], by rw [e6, up2_key (by omega), e, up2_key (by omega)], by rw [e6, up2_ne (by omega), e, up2_ne (by omega)]⟩ (fun I3 J3 a0 a2 a5 a4 a23 => ?_)
      refine fr_X12_placesApart (s_placesApart (v := x.toNat) (w := y.toNat) (T := T) (s := s) (by rw [a2]; exact hV) (by rw [a2]; exact hm.1) (by rw [a2]; exact hm.2) (by rw [a2]; exact h6) (by omega) (by rw [a2]; omega) (by omega) (by rw [a2]; omega) (by rw [a2]; exact hF hP hR.2 hm)) (fun r I4 J4 h4 s4 => ?_)
      rw [a2] at h4
      exact chg_of (I1 := I) (I2 := I) h2 hu hu6 (s4.i.trans a0) h4.2 (s4.k.trans a5) (s4.k.trans a4) (s4.i.trans a23) (fun I' J' hc => by rw [← hQ]; exact Or.inl ⟨hP, hR.2, hm, h4.1, hc⟩)
  refine fr_X12_areVertices (s_areVertices hV.M hx hy) (fun v hv => ⟨fun c => key v 0 hv (Bo.zero (fun z => ?_)), fun c => ?_⟩)
  · rcases hv with q | q
    · omega
    · exact q.2 z.1
  · have hP : (0 ≤ x ∧ x < I 2 0) ∧ (0 ≤ y ∧ y < I 2 0) := by
      rcases hv with q | q
      · exact q.2
      · exact absurd q.1 c
    exact ⟨hx, hy, fun d => key v 0 hv (Bo.zero (fun z => z.2 d)), fun d => key v 1 hv (Bo.one ⟨hP, d⟩)⟩
end SCH
