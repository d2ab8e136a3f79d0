/-! ===== what the calls answer that change nothing ===== -/
/-- an answer of the reference: told, or refused with a 1 -/
def AN (P : Prop) (v r : Int) (I I' : Ii) : Prop := (P ∧ r = v ∧ I' = up2 I 0 0 0) ∨ (¬ P ∧ r = 0 ∧ I' = up2 I 0 0 1)
section ASK
variable {I : Ii} {J : Jj} {σ : Nat → Int} {nm : Nat → Int64}
theorem goes_of {z : Int} {P : Prop} (hz : Bo z P) {Q : Int → Ii → Jj → Prop} (h1 : P → ∀ I', I' = up2 I 0 0 0 → Q 1 I' J) (h0 : ¬ P → ∀ I', I' = up2 I 0 0 1 → Q 0 I' J) : wp_X12_goes z I J Q := by
  refine fr_X12_goes (s_goes hz.b) (fun v I' J' h _ => ?_)
  obtain ⟨rfl, e, rfl⟩ := h
  rcases hz with ⟨rfl, hP⟩ | ⟨rfl, hP⟩
  · exact h1 hP I' e
  · exact h0 hP I' e
theorem s_weight {x : Int} (hM : MS (I 2)) (hx : rg x) : wp_X12_weight x I J (fun r I' _ => AN (0 ≤ x ∧ x < I 2 0) (I 2 (7 + x.toNat)) r I I') := by
  have b0 := ms_0 hM
  refine fr_X12_isVertex (s_isVertex hM hx) (fun v hv => goes_of hv (fun hP I' e => ⟨fun z => absurd z (by decide), fun _ => ⟨by omega, Or.inl ⟨hP, ?_, e⟩⟩⟩) (fun hP I' e => ⟨fun _ => Or.inr ⟨hP, rfl, e⟩, fun z => absurd rfl z⟩))
  rw [e, up2_key (by omega), show (7 + x).toNat = 7 + x.toNat by omega]
theorem s_partOf {x : Int} (hM : MS (I 2)) (hx : rg x) : wp_X12_partOf x I J (fun r I' _ => AN (0 ≤ x ∧ x < I 2 0) (I 2 (21 + x.toNat)) r I I') := by
  have b0 := ms_0 hM
  refine fr_X12_isVertex (s_isVertex hM hx) (fun v hv => goes_of hv (fun hP I' e => ⟨fun z => absurd z (by decide), fun _ => ⟨by omega, Or.inl ⟨hP, ?_, e⟩⟩⟩) (fun hP I' e => ⟨fun _ => Or.inr ⟨hP, rfl, e⟩, fun z => absurd rfl z⟩))
  rw [e, up2_key (by omega), show (21 + x).toNat = 21 + x.toNat by omega]
theorem reqV_of {x : Int} (hV : VS σ) (hR : RG 200 I J σ nm) (hx : 0 ≤ x ∧ x < σ 0) {Q : Ii → Jj → Prop} (h : Q I J) : wp_X11_requireVertex x I J Q := by
  have b0 := ms_0 hV.M
  have hn := hR.n
  exact ⟨rgK (by omega), fun z => by omega, fun _ => ⟨rgK (by omega), fun z => by omega, fun _ => ⟨fun _ => h, fun z => absurd z (by decide)⟩⟩⟩
theorem c_weight {x : Int} (hV : VS σ) (hR : RG 200 I J σ nm) (hx : 0 ≤ x ∧ x < σ 0) : wp_X11_weight x I J (fun r _ _ => r = σ (7 + x.toNat)) := by
  have b0 := ms_0 hV.M
  exact reqV_of hV hR hx (at_of (n := 14) (i := x.toNat) rfl (by omega) (by omega) (hR.w (by omega)))
theorem c_partOf {x : Int} (hV : VS σ) (hR : RG 200 I J σ nm) (hS : RS 300 I σ) (hx : 0 ≤ x ∧ x < σ 0) : wp_X11_partOf x I J (fun r _ _ => r = σ (21 + x.toNat)) := by
  have b0 := ms_0 hV.M
  exact reqV_of hV hR hx (at_of (n := 14) (i := x.toNat) rfl (by omega) (by omega) (hS.p (by omega)))
theorem s_cut (hM : MS (I 2)) : wp_X12_cut I J (fun r I' _ => r = cutZ (I 2) ∧ I' = up2 I 0 0 0) := by
  intro I1 e1
  have e2 : I1 2 = I 2 := by rw [e1, up2_key (by omega)]
  exact fr_X12_cutNow (s_cutNow (by rw [e2]; exact hM)) (fun r hr => ⟨by rw [hr, e2], e1⟩)
theorem c_cut (hV : VS σ) (hR : RG 200 I J σ nm) (hS : RS 300 I σ) : wp_X11_cut I J (fun r _ _ => r = cutZ σ) :=
  fr_X4_take (c_take sK300 hV hR hS) (fun I3 J3 hE _ => hE.2.2.2.2.2.1)
theorem s_debts (hM : MS (I 2)) : wp_X12_debts I J (fun r I' _ => r = debtsZ (I 2) ∧ I' = up2 I 0 0 0) := by
  intro I1 e1
  have e2 : I1 2 = I 2 := by rw [e1, up2_key (by omega)]
  exact fr_X12_debtsNow (s_debtsNow (by rw [e2]; exact hM)) (fun r hr => ⟨by rw [hr, e2], e1⟩)
theorem c_debts (hV : VS σ) (hR : RG 200 I J σ nm) (hS : RS 300 I σ) : wp_X11_debts I J (fun r _ _ => r = debtsZ σ) :=
  fr_X4_take (c_take sK300 hV hR hS) (fun I3 J3 hE _ => hE.2.2.2.2.1)
theorem s_between {x y : Int} (hM : MS (I 2)) (hx : rg x) (hy : rg y) : wp_X12_between x y I J (fun r I' _ => AN ((0 ≤ x ∧ x < I 2 0) ∧ (0 ≤ y ∧ y < I 2 0)) (if edgeZ (I 2) x y (I 2 1).toNat = -1 then 0 else I 2 (190 + (edgeZ (I 2) x y (I 2 1).toNat).toNat)) r I I') := by
  have b1 := ms_1 hM
  refine fr_X12_areVertices (s_areVertices hM hx hy) (fun v hv => goes_of hv (fun hP I' e => ⟨fun _ => ?_, fun z => absurd z (by decide)⟩) (fun hP I' e => ⟨fun z => absurd rfl z, fun _ => Or.inr ⟨hP, rfl, e⟩⟩))
  have e2 : I' 2 = I 2 := by rw [e, up2_key (by omega)]
  refine fr_X12_edgeOf (s_edgeOf (by rw [e2]; exact hM) hx hy) (fun v hv => ?_)
  rw [e2] at hv
  have eb := edgeZ_b (I 2) x y (I 2 1).toNat
  subst hv
  refine ⟨rgK (by omega), fun c => ⟨by omega, Or.inl ⟨hP, ?_, e⟩⟩, fun c => Or.inl ⟨hP, by rw [if_pos c], e⟩⟩
  rw [if_neg c, e2, show (190 + edgeZ (I 2) x y (I 2 1).toNat).toNat = 190 + (edgeZ (I 2) x y (I 2 1).toNat).toNat by omega]
theorem c_between {x y : Int} (hV : VS σ) (hR : RG 200 I J σ nm) (hx : 0 ≤ x ∧ x < σ 0) (hy : 0 ≤ y ∧ y < σ 0) : wp_X11_between x y I J (fun r _ _ => r = if edgeZ σ x y (σ 1).toNat = -1 then 0 else σ (190 + (edgeZ σ x y (σ 1).toNat).toNat)) := by
  have b1 := ms_1 hV.M
  refine reqV_of hV hR hx (reqV_of hV hR hy (fr_X2_edgeOf (c_edgeOf (Or.inl rfl) hV hR hx hy) (fun v hv => ?_)))
  have eb := edgeZ_b σ x y (σ 1).toNat
  subst hv
  refine ⟨rgK (by omega), fun c => at_of (n := 40) (i := (edgeZ σ x y (σ 1).toNat).toNat) rfl (by omega) (by omega) ?_, fun c => by rw [if_pos c]⟩
  rw [if_neg c]
  exact hR.h (by omega)
theorem s_error {x : Int} (hx : rg x) : wp_X12_error x I J (fun r I' _ => AN (0 ≤ x ∧ x ≤ 2) (if x = 0 then I 0 11 else if x = 1 then I 0 12 else I 0 13) r I I') := by
  refine fr_X12_isIn (s_isInB hx (rgK (by omega)) (rgK (by omega))) (fun v hv => goes_of hv (fun hP I' e => ⟨fun _ => ⟨hx, fun c => ⟨fun c2 => Or.inl ⟨hP, ?_, e⟩, fun c2 => Or.inl ⟨hP, ?_, e⟩⟩, fun c => Or.inl ⟨hP, ?_, e⟩⟩, fun z => absurd z (by decide)⟩) (fun hP I' e => ⟨fun z => absurd rfl z, fun _ => Or.inr ⟨hP, rfl, e⟩⟩))
  · rw [if_neg c, if_neg c2, e, up2_ne (by omega)]
  · rw [if_neg c, if_pos c2, e, up2_ne (by omega)]
  · rw [if_pos c, e, up2_ne (by omega)]
theorem c_error {x : Int} (hx : 0 ≤ x ∧ x ≤ 2) : wp_X11_error x I J (fun r _ _ => r = if x = 0 then I 101 9 else if x = 1 then I 101 10 else I 101 11) :=
  ⟨rgK (by omega), fun z => by omega, fun c => by rw [if_pos c], fun c => by rw [if_neg (by omega), if_pos c], fun c => by rw [if_neg (by omega), if_neg (by omega)]⟩
theorem s_truncate {x : Int} {n : Nat} (hx : rg x) (hn : I 0 2 = (n : Int)) (h8 : n ≤ 800) : wp_X12_truncate x I J (fun r I' _ => (0 ≤ x ∧ x ≤ n ∧ r = x ∧ I' = up2 (up2 I 0 0 0) 0 2 x) ∨ (¬ (0 ≤ x ∧ x ≤ n) ∧ r = 0 ∧ I' = up2 I 0 0 1)) := by
  have hr : rg (I 0 2) := rgK (by omega)
  refine fr_X12_isIn (s_isInA hx (rgK (by omega)) hr) (fun v hv => ?_)
  refine goes_of hv (fun hP I' e => ?_) (fun hP I' e => ?_)
  · refine ⟨fun _ I3 e3 => ?_, fun z => absurd z (by decide)⟩
    have h2 : x ≤ (n : Int) := by rw [← hn]; exact hP.2
    left
    refine ⟨hP.1, h2, rfl, ?_⟩
    rw [e3, e]
  · refine ⟨fun z => absurd rfl z, fun _ => ?_⟩
    right
    refine ⟨fun z => hP ?_, rfl, e⟩
    rw [hn]; exact z
theorem c_truncate {x : Int} {n : Nat} (hn : I 101 1 = (n : Int)) (h8 : n ≤ 800) (hx : 0 ≤ x ∧ x ≤ n) : wp_X11_truncate x I J (fun r I' _ => r = x ∧ I' = up2 I 101 1 x) :=
  ⟨rgK (by omega), fun z => by omega, fun _ => ⟨rgK (by omega), fun _ I3 e3 => ⟨rfl, e3⟩, fun z => by omega⟩⟩
end ASK
