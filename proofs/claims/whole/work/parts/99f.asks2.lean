/-! ===== what the calls answer that change nothing: groups, gains, best, flows ===== -/
section ASL
variable {I : Ii} {J : Jj} {σ : Nat → Int} {nm : Nat → Int64} {x y : Int}
theorem reqG_of (hV : VS σ) (hS : RS 300 I σ) (hx : 0 ≤ x ∧ x < grs σ) {Q : Ii → Jj → Prop} (h : Q I J) : wp_X11_requireGroup x I J Q := by
  have gr := grs_b hV.M
  exact ⟨rgK (by omega), fun z => by omega, fun _ => groupCount_of sK300 hV hS ⟨rgK (by omega), rgK (by omega), fun z => by omega, fun _ => ⟨fun _ => h, fun z => absurd z (by decide)⟩⟩⟩
theorem reqP_of (hV : VS σ) (hR : RG 200 I J σ nm) (hy : 0 ≤ y ∧ y < σ 2) {Q : Ii → Jj → Prop} (h : Q I J) : wp_X11_requirePart y I J Q := by
  have b2 := ms_2 hV.M
  have q2 := hR.q
  exact ⟨rgK (by omega), fun z => by omega, fun _ => ⟨rgK (by omega), fun z => by omega, fun _ => ⟨fun _ => h, fun z => absurd z (by decide)⟩⟩⟩
theorem c_gain (hV : VS σ) (hR : RG 200 I J σ nm) (hS : RS 300 I σ) (hx : 0 ≤ x ∧ x < grs σ) (hy : 0 ≤ y ∧ y < σ 2) : wp_X11_gain x y I J (fun r _ _ => r = gainZ σ x y) := by
  refine reqG_of hV hS hx (reqP_of hV hR hy (fr_X4_take (c_take sK300 hV hR hS) (fun I3 J3 hE _ => gainOf_of hV hE (g := x.toNat) (p := y.toNat) (by omega) (by omega) (by omega) (by omega) ?_)))
  rw [show ((x.toNat : Nat) : Int) = x by omega, show ((y.toNat : Nat) : Int) = y by omega]
theorem c_debtsIf (hV : VS σ) (hR : RG 200 I J σ nm) (hS : RS 300 I σ) (hx : 0 ≤ x ∧ x < grs σ) (hy : 0 ≤ y ∧ y < σ 2) : wp_X11_debtsIf x y I J (fun r _ _ => r = dwZ σ x y) := by
  refine reqG_of hV hS hx (reqP_of hV hR hy (fr_X4_take (c_take sK300 hV hR hS) (fun I3 J3 hE _ => debtsWith_of hV hE (g := x.toNat) (p := y.toNat) (by omega) (by omega) (by omega) (by omega) ?_)))
  rw [show ((x.toNat : Nat) : Int) = x by omega, show ((y.toNat : Nat) : Int) = y by omega]
theorem c_whyNotMove (hV : VS σ) (hR : RG 200 I J σ nm) (hS : RS 300 I σ) (hx : 0 ≤ x ∧ x < grs σ) (hy : 0 ≤ y ∧ y < σ 2) : wp_X11_whyNotMove x y I J (fun r _ _ => r = wmZ σ x y) := by
  refine reqG_of hV hS hx (reqP_of hV hR hy (fr_X4_take (c_take sK300 hV hR hS) (fun I3 J3 hE _ => reasonAgainst_of hV hE (g := x.toNat) (p := y.toNat) (by omega) (by omega) (by omega) (by omega) ?_)))
  rw [show ((x.toNat : Nat) : Int) = x by omega, show ((y.toNat : Nat) : Int) = y by omega]
theorem c_nextStep (hV : VS σ) (hR : RG 200 I J σ nm) (hS : RS 300 I σ) : wp_X11_nextStep I J (fun r _ _ => r = nxZ σ) :=
  fr_X4_take (c_take sK300 hV hR hS) (fun I3 J3 hE _ => chosenStep_of hV hE rfl)
theorem c_heaviest (hV : VS σ) (hR : RG 200 I J σ nm) (hS : RS 300 I σ) : wp_X11_heaviest I J (fun r _ _ => r = ((hvZ σ ((σ 2).toNat - 1) : Nat) : Int)) :=
  fr_X4_take (c_take sK300 hV hR hS) (fun I3 J3 hE _ => heaviestPart_of hV hE rfl)
theorem s_heaviest (hM : MS (I 2)) : wp_X12_heaviest I J (fun r I' _ => r = ((hvZ (I 2) ((I 2 2).toNat - 1) : Nat) : Int) ∧ I' = up2 I 0 0 0) := by
  intro I1 e1
  have e2 : I1 2 = I 2 := by rw [e1, up2_key (by omega)]
  exact fr_X12_heaviestNow (s_heaviestNow (by rw [e2]; exact hM)) (fun r hr => ⟨by rw [hr, e2], e1⟩)
theorem s_nextStep (hV : VS (I 2)) : wp_X12_nextStep I J (fun r I' _ => r = nxZ (I 2) ∧ I' = up2 I 0 0 0) := by
  intro I1 e1
  have e2 : I1 2 = I 2 := by rw [e1, up2_key (by omega)]
  exact fr_X12_nextNow (s_nextNow (by rw [e2]; exact hV.M) (by rw [e2]; exact hV.GV)) (fun r hr => ⟨by rw [hr, e2], e1⟩)
theorem s_gain (hV : VS (I 2)) (hx : rg x) (hy : rg y) : wp_X12_gain x y I J (fun r I' _ => AN ((0 ≤ x ∧ x < grs (I 2)) ∧ (0 ≤ y ∧ y < I 2 2)) (gainZ (I 2) x y) r I I') := by
  refine fr_X12_areThere (s_areThere hV.M hx hy) (fun v hv => goes_of hv (fun hP I' e => ⟨fun z => absurd z (by decide), fun _ => ?_⟩) (fun hP I' e => ⟨fun _ => Or.inr ⟨hP, rfl, e⟩, fun z => absurd rfl z⟩))
  have e2 : I' 2 = I 2 := by rw [e, up2_key (by omega)]
  exact fr_X12_gainOf (s_gainOf (by rw [e2]; exact hV.M) hx hy (by rw [e2]; exact hV.GV.has hV.M hP.1.1 hP.1.2)) (fun v hv => Or.inl ⟨hP, by rw [hv, e2], e⟩)
theorem s_debtsIf (hV : VS (I 2)) (hx : rg x) (hy : rg y) : wp_X12_debtsIf x y I J (fun r I' _ => AN ((0 ≤ x ∧ x < grs (I 2)) ∧ (0 ≤ y ∧ y < I 2 2)) (dwZ (I 2) x y) r I I') := by
  refine fr_X12_areThere (s_areThere hV.M hx hy) (fun v hv => goes_of hv (fun hP I' e => ⟨fun z => absurd z (by decide), fun _ => ?_⟩) (fun hP I' e => ⟨fun _ => Or.inr ⟨hP, rfl, e⟩, fun z => absurd rfl z⟩))
  have e2 : I' 2 = I 2 := by rw [e, up2_key (by omega)]
  exact fr_X12_debtsWith (s_debtsWith (by rw [e2]; exact hV.M) hx hy (by rw [e2]; exact hV.GV.has hV.M hP.1.1 hP.1.2)) (fun v hv => Or.inl ⟨hP, by rw [hv, e2], e⟩)
theorem s_whyNotMove (hV : VS (I 2)) (hx : rg x) (hy : rg y) : wp_X12_whyNotMove x y I J (fun r I' _ => AN ((0 ≤ x ∧ x < grs (I 2)) ∧ (0 ≤ y ∧ y < I 2 2)) (wmZ (I 2) x y) r I I') := by
  refine fr_X12_areThere (s_areThere hV.M hx hy) (fun v hv => goes_of hv (fun hP I' e => ⟨fun z => absurd z (by decide), fun _ => ?_⟩) (fun hP I' e => ⟨fun _ => Or.inr ⟨hP, rfl, e⟩, fun z => absurd rfl z⟩))
  have e2 : I' 2 = I 2 := by rw [e, up2_key (by omega)]
  exact fr_X12_whyMove (s_whyMove (by rw [e2]; exact hV.M) hx hy (by rw [e2]; exact hV.GV.has hV.M hP.1.1 hP.1.2)) (fun v hv => Or.inl ⟨hP, by rw [hv, e2], e⟩)
theorem s_groupOf (hM : MS (I 2)) (hx : rg x) : wp_X12_groupOf x I J (fun r I' _ => AN (0 ≤ x ∧ x < I 2 0) (gAt (I 2) x.toNat) r I I') := by
  have b0 := ms_0 hM
  refine fr_X12_isVertex (s_isVertex hM hx) (fun v hv => goes_of hv (fun hP I' e => ⟨fun z => absurd z (by decide), fun _ => ?_⟩) (fun hP I' e => ⟨fun _ => Or.inr ⟨hP, rfl, e⟩, fun z => absurd rfl z⟩))
  have e2 : I' 2 = I 2 := by rw [e, up2_key (by omega)]
  exact fr_X12_groupAt (s_groupAt (v := x.toNat) (by rw [e2]; exact hM) (by omega) (by omega)) (fun v hv => Or.inl ⟨hP, by rw [hv, e2], e⟩)
/-- the flow between two vertices, and its side: the class's -/
theorem c_flow {a b : Nat} (hV : VS σ) (hR : RG 200 I J σ nm) (hx : x = (a : Int)) (ha : a < (σ 0).toNat) (hy : y = (b : Int)) (hb : b < (σ 0).toNat) : wp_X11_flow x y I J (fun r _ _ => (a = b → r = 0) ∧ (a ≠ b → ∃ T s, FLW σ a b T s ∧ r = T)) := by
  have b0 := ms_0 hV.M
  refine reqV_of hV hR (by omega) (reqV_of hV hR (by omega) ⟨rgK (by omega), rgK (by omega), fun c => ?_, fun c => ⟨fun _ => rfl, fun z => absurd (by omega) z⟩⟩)
  exact fr_X1_run (c_run hV hR hx ha hy hb (by omega)) (fun I5 J5 h5 _ => ⟨fun z => absurd z (by omega), fun _ => by obtain ⟨T, s, h1, h2, h3⟩ := h5; exact ⟨T, s, h3, h1⟩⟩)
theorem c_side {a b : Nat} (hV : VS σ) (hR : RG 200 I J σ nm) (hx : x = (a : Int)) (ha : a < (σ 0).toNat) (hy : y = (b : Int)) (hb : b < (σ 0).toNat) : wp_X11_side x y I J (fun r _ _ => (a = b → r = 0) ∧ (a ≠ b → ∃ T s, FLW σ a b T s ∧ r = ((s : Nat) : Int))) := by
  have b0 := ms_0 hV.M
  refine reqV_of hV hR (by omega) (reqV_of hV hR (by omega) ⟨rgK (by omega), rgK (by omega), fun c => ?_, fun c => ⟨fun _ => rfl, fun z => absurd (by omega) z⟩⟩)
  exact fr_X1_run (c_run hV hR hx ha hy hb (by omega)) (fun I5 J5 h5 _ => ⟨fun z => absurd z (by omega), fun _ => by obtain ⟨T, s, h1, h2, h3⟩ := h5; exact ⟨T, s, h3, h2⟩⟩)
/-- the best sharing's debts and cut: the class's -/
theorem c_bestDebts (hV : VS σ) (hR : RG 200 I J σ nm) (hS : RS 300 I σ) : wp_X11_bestDebts I J (fun r _ _ => (7 < grs σ → r = -1) ∧ (grs σ ≤ 7 → ∃ b : Nat → Nat, FB σ b ∧ r = bdZ σ b)) := by
  have gr := grs_b hV.M
  refine groupCount_of sK300 hV hS ⟨rgK (by omega), fun c => ⟨fun z => absurd rfl z, fun _ => ⟨fun _ => rfl, fun z => by omega⟩⟩, fun c => ⟨fun _ => ?_, fun z => absurd z (by decide)⟩⟩
  exact fr_X11_searchBest (c_searchBest hV (by omega) hR hS) (fun I2 J2 h2 _ => ⟨fun z => by omega, fun _ => by obtain ⟨-, b, h3, h4, -, -⟩ := h2; exact ⟨b, h3, h4⟩⟩)
theorem c_bestCut (hV : VS σ) (hR : RG 200 I J σ nm) (hS : RS 300 I σ) : wp_X11_bestCut I J (fun r _ _ => (7 < grs σ → r = -1) ∧ (grs σ ≤ 7 → ∃ b : Nat → Nat, FB σ b ∧ r = bkZ σ b)) := by
  have gr := grs_b hV.M
  refine groupCount_of sK300 hV hS ⟨rgK (by omega), fun c => ⟨fun z => absurd rfl z, fun _ => ⟨fun _ => rfl, fun z => by omega⟩⟩, fun c => ⟨fun _ => ?_, fun z => absurd z (by decide)⟩⟩
  exact fr_X11_searchBest (c_searchBest hV (by omega) hR hS) (fun I2 J2 h2 _ => ⟨fun z => by omega, fun _ => by obtain ⟨-, b, h3, -, h4, -⟩ := h2; exact ⟨b, h3, h4⟩⟩)
end ASL
