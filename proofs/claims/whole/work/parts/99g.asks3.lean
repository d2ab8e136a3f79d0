/-! ===== what the calls answer that change nothing: settings, flows, best ===== -/
/-- a setting -/
def setZ (σ : Nat → Int) (u x : Int) : Int := if x = 5 then limZ σ else if x = 6 then allW σ else if x = 7 then allE σ else if x = 8 then σ 5 else if x = 9 then grs σ else if x = 10 then u else if x = 11 then lgZ σ (σ 0).toNat else σ x.toNat
section ASM
variable {I : Ii} {J : Jj} {σ : Nat → Int} {nm : Nat → Int64} {x y : Int}
theorem s_setting (hV : VS (I 2)) (hx : rg x) : wp_X12_setting x I J (fun r I' _ => AN (0 ≤ x ∧ x ≤ 11) (setZ (I 2) (I 0 23) x) r I I') := by
  have hM := hV.M
  refine fr_X12_isIn (s_isInB hx (rgK (by omega)) (rgK (by omega))) (fun v hv => ?_)
  refine goes_of hv (fun hP I' e => ?_) (fun hP I' e => ⟨fun z => absurd rfl z, fun _ => Or.inr ⟨hP, rfl, e⟩⟩)
  have e2 : I' 2 = I 2 := by rw [e, up2_key (by omega)]
  have hV' : VS (I' 2) := by rw [e2]; exact hV
  refine ⟨fun _ => ⟨hx, fun c => ⟨by omega, Or.inl ⟨hP, ?_, e⟩⟩, fun c => fr_X12_limit (s_limit hV'.M) (fun v hv => Or.inl ⟨hP, ?_, e⟩), fun c => fr_X12_allWeight (s_allWeight hV'.M) (fun v hv => Or.inl ⟨hP, ?_, e⟩), fun c => fr_X12_allEdges (s_allEdges hV'.M) (fun v hv => Or.inl ⟨hP, ?_, e⟩), fun c => Or.inl ⟨hP, ?_, e⟩, fun c => fr_X12_groups (s_groups hV'.M) (fun v hv => Or.inl ⟨hP, ?_, e⟩), fun c => Or.inl ⟨hP, ?_, e⟩, fun c => fr_X12_largest (s_largest hV') (fun v hv => Or.inl ⟨hP, ?_, e⟩)⟩, fun z => absurd z (by decide)⟩
  · unfold setZ
    rw [if_neg (by omega), if_neg (by omega), if_neg (by omega), if_neg (by omega), if_neg (by omega), if_neg (by omega), if_neg (by omega), e2]
  · unfold setZ; rw [if_pos c, hv, e2]
  · unfold setZ; rw [if_neg (by omega), if_pos c, hv, e2]
  · unfold setZ; rw [if_neg (by omega), if_neg (by omega), if_pos c, hv, e2]
  · unfold setZ; rw [if_neg (by omega), if_neg (by omega), if_neg (by omega), if_pos c, e2]
  · unfold setZ; rw [if_neg (by omega), if_neg (by omega), if_neg (by omega), if_neg (by omega), if_pos c, hv, e2]
  · unfold setZ; rw [if_neg (by omega), if_neg (by omega), if_neg (by omega), if_neg (by omega), if_neg (by omega), if_pos c, e, up2_ne (by omega)]
  · unfold setZ; rw [if_neg (by omega), if_neg (by omega), if_neg (by omega), if_neg (by omega), if_neg (by omega), if_neg (by omega), if_pos c, hv, e2]
theorem c_setting {u nw : Nat} {pf : Nat → Nat → Int} (hV : VS σ) (hR : RG 200 I J σ nm) (hS : RS 300 I σ) (hH : HR I u nw pf) (hx : 0 ≤ x ∧ x ≤ 11) : wp_X11_setting x I J (fun r _ _ => r = setZ σ (u : Int) x) := by
  have hM := hV.M
  unfold setZ
  refine ⟨rgK (by omega), fun z => by omega, fun c => ?_, fun c => ?_, fun c => ?_, fun c => ?_, fun c => ?_, fun c => ?_, fun c => ?_, fun c => ?_, fun c => ?_, fun c => ?_, fun c => ?_, fun c => ?_⟩
  · subst c; exact hR.n
  · subst c; exact hR.m
  · subst c; exact hR.q
  · subst c; exact hR.s
  · subst c; exact hS.c
  · exact fr_X2_limit (c_limit (Or.inl rfl) hM hR) (fun v hv => by rw [if_pos c, hv])
  · rw [if_neg (by omega), if_pos c]; exact hR.aw
  · rw [if_neg (by omega), if_neg (by omega), if_pos c]; exact hR.ae
  · rw [if_neg (by omega), if_neg (by omega), if_neg (by omega), if_pos c]; exact hS.l
  · exact groupCount_of sK300 hV hS (by rw [if_neg (by omega), if_neg (by omega), if_neg (by omega), if_neg (by omega), if_pos c])
  · rw [if_neg (by omega), if_neg (by omega), if_neg (by omega), if_neg (by omega), if_neg (by omega), if_pos c]; exact hH.1
  · exact fr_X2_largestPiece (c_largestPiece (Or.inl rfl) hV hR) (fun v hv => by rw [if_neg (by omega), if_neg (by omega), if_neg (by omega), if_neg (by omega), if_neg (by omega), if_neg (by omega), if_pos c, hv])
/-- flows of the reference: what the class has found -/
theorem s_flow {T : Int} {s : Nat} (hM : MS (I 2)) (hx : rg x) (hy : rg y) (hF : (0 ≤ x ∧ x < I 2 0) → (0 ≤ y ∧ y < I 2 0) → x ≠ y → FLW (I 2) x.toNat y.toNat T s) : wp_X12_flow x y I J (fun r I' _ => (((0 ≤ x ∧ x < I 2 0) ∧ (0 ≤ y ∧ y < I 2 0)) ∧ (x = y → r = 0) ∧ (x ≠ y → r = T) ∧ I' 0 0 = 0) ∨ (¬ ((0 ≤ x ∧ x < I 2 0) ∧ (0 ≤ y ∧ y < I 2 0)) ∧ r = 0 ∧ I' 0 0 = 1)) := by
  have b0 := ms_0 hM
  refine fr_X12_areVertices (s_areVertices hM hx hy) (fun v hv => goes_of hv (fun hP I' e => ⟨fun _ => ⟨hx, hy, fun c => ?_, fun c => Or.inl ⟨hP, fun _ => rfl, fun z => absurd c z, by rw [e, up2_self]⟩⟩, fun z => absurd z (by decide)⟩) (fun hP I' e => ⟨fun z => absurd rfl z, fun _ => Or.inr ⟨hP, rfl, by rw [e, up2_self]⟩⟩))
  have e2 : I' 2 = I 2 := by rw [e, up2_key (by omega)]
  have f0 : I' 0 0 = 0 := by rw [e, up2_self]
  refine fr_X12_flows (s_flows (a := x.toNat) (b := y.toNat) (by rw [e2]; exact hM) (by omega) (by rw [e2]; omega) (by omega) (by rw [e2]; omega) (by rw [e2]; exact hF hP.1 hP.2 c)) (fun I5 J5 h5 s5 => ?_)
  exact Or.inl ⟨hP, fun z => absurd z c, fun _ => h5.1, s5.i.trans f0⟩
theorem s_side {T : Int} {s : Nat} (hM : MS (I 2)) (hx : rg x) (hy : rg y) (hF : (0 ≤ x ∧ x < I 2 0) → (0 ≤ y ∧ y < I 2 0) → x ≠ y → FLW (I 2) x.toNat y.toNat T s) : wp_X12_side x y I J (fun r I' _ => (((0 ≤ x ∧ x < I 2 0) ∧ (0 ≤ y ∧ y < I 2 0)) ∧ (x = y → r = 0) ∧ (x ≠ y → r = (s : Int)) ∧ I' 0 0 = 0) ∨ (¬ ((0 ≤ x ∧ x < I 2 0) ∧ (0 ≤ y ∧ y < I 2 0)) ∧ r = 0 ∧ I' 0 0 = 1)) := by
  have b0 := ms_0 hM
  refine fr_X12_areVertices (s_areVertices hM hx hy) (fun v hv => goes_of hv (fun hP I' e => ⟨fun _ => ⟨hx, hy, fun c => ?_, fun c => Or.inl ⟨hP, fun _ => rfl, fun z => absurd c z, by rw [e, up2_self]⟩⟩, fun z => absurd z (by decide)⟩) (fun hP I' e => ⟨fun z => absurd rfl z, fun _ => Or.inr ⟨hP, rfl, by rw [e, up2_self]⟩⟩))
  have e2 : I' 2 = I 2 := by rw [e, up2_key (by omega)]
  have f0 : I' 0 0 = 0 := by rw [e, up2_self]
  refine fr_X12_flows (s_flows (a := x.toNat) (b := y.toNat) (by rw [e2]; exact hM) (by omega) (by rw [e2]; omega) (by omega) (by rw [e2]; omega) (by rw [e2]; exact hF hP.1 hP.2 c)) (fun I5 J5 h5 s5 => ?_)
  exact Or.inl ⟨hP, fun z => absurd z c, fun _ => h5.2, s5.i.trans f0⟩
theorem s_bestDebts (hV : VS (I 2)) : wp_X12_bestDebts I J (fun r I' _ => I' 0 0 = 0 ∧ (7 < grs (I 2) → r = -1) ∧ (grs (I 2) ≤ 7 → ∃ b : Nat → Nat, FB (I 2) b ∧ r = bdZ (I 2) b)) := by
  intro I1 e1
  have e2 : I1 2 = I 2 := by rw [e1, up2_key (by omega)]
  have f0 : I1 0 0 = 0 := by rw [e1, up2_self]
  have gr := grs_b hV.M
  refine fr_X12_groups (s_groups (by rw [e2]; exact hV.M)) (fun w hw => ?_)
  rw [e2] at hw
  subst hw
  refine ⟨rgK (by omega), fun c => ?_, fun c => ⟨f0, fun _ => rfl, fun z => absurd z c⟩⟩
  refine fr_X12_searches (s_searches (by rw [e2]; exact hV) (by rw [e2]; exact c)) (fun I4 J4 h4 s4 => ⟨s4.i.trans f0, fun z => by omega, fun _ => ?_⟩)
  obtain ⟨b, h1, h2, -, -⟩ := h4
  rw [e2] at h1 h2
  exact ⟨b, h1, h2⟩
theorem s_bestCut (hV : VS (I 2)) : wp_X12_bestCut I J (fun r I' _ => I' 0 0 = 0 ∧ (7 < grs (I 2) → r = -1) ∧ (grs (I 2) ≤ 7 → ∃ b : Nat → Nat, FB (I 2) b ∧ r = bkZ (I 2) b)) := by
  intro I1 e1
  have e2 : I1 2 = I 2 := by rw [e1, up2_key (by omega)]
  have f0 : I1 0 0 = 0 := by rw [e1, up2_self]
  have gr := grs_b hV.M
  refine fr_X12_groups (s_groups (by rw [e2]; exact hV.M)) (fun w hw => ?_)
  rw [e2] at hw
  subst hw
  refine ⟨rgK (by omega), fun c => ?_, fun c => ⟨f0, fun _ => rfl, fun z => absurd z c⟩⟩
  refine fr_X12_searches (s_searches (by rw [e2]; exact hV) (by rw [e2]; exact c)) (fun I4 J4 h4 s4 => ⟨s4.i.trans f0, fun z => by omega, fun _ => ?_⟩)
  obtain ⟨b, h1, -, h2, -⟩ := h4
  rw [e2] at h1 h2
  exact ⟨b, h1, h2⟩
end ASM
