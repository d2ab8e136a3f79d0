/-! ===== what the calls answer that change nothing ===== -/
/-- an answer of the reference: told, or refused with a 1 -/
def AN (P : Prop) (v r : Int) (I I' : Ii) : Prop := (P ∧ r = v ∧ I' = up2 I 0 0 0) ∨ (¬ P ∧ r = 0 ∧ I' = up2 I 0 0 1)
section ASK
variable {I : Ii} {J : Jj} {σ : Nat → Int} {nm : Nat → Int64}
theorem reqV_of {x : Int} (hV : VS σ) (hR : RG 200 I J σ nm) (hx : 0 ≤ x ∧ x < σ 0) {Q : Ii → Jj → Prop} (h : Q I J) : wp_X11_requireVertex x I J Q := by
  have b0 := ms_0 hV.M
  have hn := hR.n
  exact ⟨rgK (by omega), fun z => by omega, fun _ => ⟨rgK (by omega), fun z => by omega, fun _ => ⟨fun _ => h, fun z => absurd z (by decide)⟩⟩⟩
theorem c_weight {x : Int} (hV : VS σ) (hR : RG 200 I J σ nm) (hx : 0 ≤ x ∧ x < σ 0) : wp_X11_weight x I J (fun r _ _ => r = σ (7 + x.toNat)) := by
  have b0 := ms_0 hV.M
  exact reqV_of hV hR hx (at_of (n := 14) (i := x.toNat) rfl (by omega) (by omega) (hR.w (by omega)))
theorem c_partOf {x : Int} (hV : VS σ) (hR : RG 200 I J σ nm) (hS : RS 300 I σ) (hx : 0 ≤ x ∧ x < σ 0) : wp_X11_partOf x I J (fun r _ _ => r = σ (21 + x.toNat)) := by
  have b0 := ms_0 hV.M
  exact reqV_of hV hR hx (at_of (n := 14) (i := x.toNat) rfl (by omega) (by omega) (hS.p (by omega)))
theorem c_cut (hV : VS σ) (hR : RG 200 I J σ nm) (hS : RS 300 I σ) : wp_X11_cut I J (fun r _ _ => r = cutZ σ) :=
  fr_X4_take (c_take sK300 hV hR hS) (fun I3 J3 hE _ => hE.2.2.2.2.2.1)
theorem c_debts (hV : VS σ) (hR : RG 200 I J σ nm) (hS : RS 300 I σ) : wp_X11_debts I J (fun r _ _ => r = debtsZ σ) :=
  fr_X4_take (c_take sK300 hV hR hS) (fun I3 J3 hE _ => hE.2.2.2.2.1)
theorem c_between {x y : Int} (hV : VS σ) (hR : RG 200 I J σ nm) (hx : 0 ≤ x ∧ x < σ 0) (hy : 0 ≤ y ∧ y < σ 0) : wp_X11_between x y I J (fun r _ _ => r = if edgeZ σ x y (σ 1).toNat = -1 then 0 else σ (190 + (edgeZ σ x y (σ 1).toNat).toNat)) := by
  have b1 := ms_1 hV.M
  refine reqV_of hV hR hx (reqV_of hV hR hy (fr_X2_edgeOf (c_edgeOf (Or.inl rfl) hV hR hx hy) (fun v hv => ?_)))
  have eb := edgeZ_b σ x y (σ 1).toNat
  subst hv
  refine ⟨rgK (by omega), fun c => at_of (n := 40) (i := (edgeZ σ x y (σ 1).toNat).toNat) rfl (by omega) (by omega) ?_, fun c => by rw [if_pos c]⟩
  rw [if_neg c]
  exact hR.h (by omega)
theorem c_error {x : Int} (hx : 0 ≤ x ∧ x ≤ 2) : wp_X11_error x I J (fun r _ _ => r = if x = 0 then I 101 9 else if x = 1 then I 101 10 else I 101 11) :=
  ⟨rgK (by omega), fun z => by omega, fun c => by rw [if_pos c], fun c => by rw [if_neg (by omega), if_pos c], fun c => by rw [if_neg (by omega), if_neg (by omega)]⟩
theorem c_truncate {x : Int} {n : Nat} (hn : I 101 1 = (n : Int)) (h8 : n ≤ 800) (hx : 0 ≤ x ∧ x ≤ n) : wp_X11_truncate x I J (fun r I' _ => r = x ∧ I' = up2 I 101 1 x) :=
  ⟨rgK (by omega), fun z => by omega, fun _ => ⟨rgK (by omega), fun _ I3 e3 => ⟨rfl, e3⟩, fun z => by omega⟩⟩
end ASK
/-! ===== what the calls answer that change nothing: groups, gains, best, flows ===== -/
section ASL
variable {I : Ii} {J : Jj} {σ : Nat → Int} {nm : Nat → Int64} {x y : Int}
theorem reqG_of (hV : VS σ) (hS : RS 300 I σ) (hx : 0 ≤ x ∧ x < grs σ) {Q : Ii → Jj → Prop} (h : Q I J) : wp_X11_requireGroup x I J Q := by
  have gr := grs_b hV.M
  exact ⟨rgK (by omega), fun z => by omega, fun _ => groupCount_of sK300 hV hS ⟨rgK (by omega), rgK (by omega), fun z => by omega, fun _ => ⟨fun _ => h, fun z => absurd z (by decide)⟩⟩⟩
theorem reqP_of (hV : VS σ) (hR : RG 200 I J σ nm) (hy : 0 ≤ y ∧ y < σ 2) {Q : Ii → Jj → Prop} (h : Q I J) : wp_X11_requirePart y I J Q := by
  have b2 := ms_2 hV.M
  have q2 := hR.q
  exact ⟨rgK (by omega), fun z => by omega, fun _ => ⟨rgK (by omega), fun z => by omega, fun _ => ⟨fun _ => h, fun z => absurd z (by decide)⟩⟩⟩
theorem c_gain (hV : VS σ) (hR : RG 200 I J σ nm) (hS : RS 300 I σ) (hx : 0 ≤ x ∧ x < grs σ) (hy : 0 ≤ y ∧ y < σ 2) : wp_X11_gain x y I J (fun r _ _ => r = gainZ σ x y) := by
  refine reqG_of hV hS hx (reqP_of hV hR hy (fr_X4_take (c_take sK300 hV hR hS) (fun I3 J3 hE _ => gainOf_of hV hE (g := x.toNat) (p := y.toNat) (by omega) (by omega) (by omega) (by omega) ?_)))
  rw [show ((x.toNat : Nat) : Int) = x by omega, show ((y.toNat : Nat) : Int) = y by omega]
theorem c_debtsIf (hV : VS σ) (hR : RG 200 I J σ nm) (hS : RS 300 I σ) (hx : 0 ≤ x ∧ x < grs σ) (hy : 0 ≤ y ∧ y < σ 2) : wp_X11_debtsIf x y I J (fun r _ _ => r = dwZ σ x y) := by
  refine reqG_of hV hS hx (reqP_of hV hR hy (fr_X4_take (c_take sK300 hV hR hS) (fun I3 J3 hE _ => debtsWith_of hV hE (g := x.toNat) (p := y.toNat) (by omega) (by omega) (by omega) (by omega) ?_)))
  rw [show ((x.toNat : Nat) : Int) = x by omega, show ((y.toNat : Nat) : Int) = y by omega]
theorem c_whyNotMove (hV : VS σ) (hR : RG 200 I J σ nm) (hS : RS 300 I σ) (hx : 0 ≤ x ∧ x < grs σ) (hy : 0 ≤ y ∧ y < σ 2) : wp_X11_whyNotMove x y I J (fun r _ _ => r = wmZ σ x y) := by
  refine reqG_of hV hS hx (reqP_of hV hR hy (fr_X4_take (c_take sK300 hV hR hS) (fun I3 J3 hE _ => reasonAgainst_of hV hE (g := x.toNat) (p := y.toNat) (by omega) (by omega) (by omega) (by omega) ?_)))
  rw [show ((x.toNat : Nat) : Int) = x by omega, show ((y.toNat : Nat) : Int) = y by omega]
theorem c_nextStep (hV : VS σ) (hR : RG 200 I J σ nm) (hS : RS 300 I σ) : wp_X11_nextStep I J (fun r _ _ => r = nxZ σ) :=
  fr_X4_take (c_take sK300 hV hR hS) (fun I3 J3 hE _ => chosenStep_of hV hE rfl)
theorem c_heaviest (hV : VS σ) (hR : RG 200 I J σ nm) (hS : RS 300 I σ) : wp_X11_heaviest I J (fun r _ _ => r = ((hvZ σ ((σ 2).toNat - 1) : Nat) : Int)) :=
  fr_X4_take (c_take sK300 hV hR hS) (fun I3 J3 hE _ => heaviestPart_of hV hE rfl)
/-- the flow between two vertices, and its side: the class's -/
theorem c_flow {a b : Nat} (hV : VS σ) (hR : RG 200 I J σ nm) (hx : x = (a : Int)) (ha : a < (σ 0).toNat) (hy : y = (b : Int)) (hb : b < (σ 0).toNat) : wp_X11_flow x y I J (fun r _ _ => (a = b → r = 0) ∧ (a ≠ b → ∃ T s, FLW σ a b T s ∧ r = T)) := by
  have b0 := ms_0 hV.M
  refine reqV_of hV hR (by omega) (reqV_of hV hR (by omega) ⟨rgK (by omega), rgK (by omega), fun c => ?_, fun c => ⟨fun _ => rfl, fun z => absurd (by omega) z⟩⟩)
  exact fr_X1_run (c_run hV hR hx ha hy hb (by omega)) (fun I5 J5 h5 _ => ⟨fun z => absurd z (by omega), fun _ => by obtain ⟨T, s, h1, h2, h3⟩ := h5; exact ⟨T, s, h3, h1⟩⟩)
theorem c_side {a b : Nat} (hV : VS σ) (hR : RG 200 I J σ nm) (hx : x = (a : Int)) (ha : a < (σ 0).toNat) (hy : y = (b : Int)) (hb : b < (σ 0).toNat) : wp_X11_side x y I J (fun r _ _ => (a = b → r = 0) ∧ (a ≠ b → ∃ T s, FLW σ a b T s ∧ r = ((s : Nat) : Int))) := by
  have b0 := ms_0 hV.M
  refine reqV_of hV hR (by omega) (reqV_of hV hR (by omega) ⟨rgK (by omega), rgK (by omega), fun c => ?_, fun c => ⟨fun _ => rfl, fun z => absurd (by omega) z⟩⟩)
  exact fr_X1_run (c_run hV hR hx ha hy hb (by omega)) (fun I5 J5 h5 _ => ⟨fun z => absurd z (by omega), fun _ => by obtain ⟨T, s, h1, h2, h3⟩ := h5; exact ⟨T, s, h3, h2⟩⟩)
/-- the best sharing's debts and cut: the class's -/
theorem c_bestDebts (hV : VS σ) (hR : RG 200 I J σ nm) (hS : RS 300 I σ) : wp_X11_bestDebts I J (fun r _ _ => (7 < grs σ → r = -1) ∧ (grs σ ≤ 7 → ∃ b : Nat → Nat, FB σ b ∧ r = bdZ σ b)) := by
  have gr := grs_b hV.M
  refine groupCount_of sK300 hV hS ⟨rgK (by omega), fun c => ⟨fun z => absurd rfl z, fun _ => ⟨fun _ => rfl, fun z => by omega⟩⟩, fun c => ⟨fun _ => ?_, fun z => absurd z (by decide)⟩⟩
  exact fr_X11_searchBest (c_searchBest hV (by omega) hR hS) (fun I2 J2 h2 _ => ⟨fun z => by omega, fun _ => by obtain ⟨-, b, h3, h4, -, -⟩ := h2; exact ⟨b, h3, h4⟩⟩)
theorem c_bestCut (hV : VS σ) (hR : RG 200 I J σ nm) (hS : RS 300 I σ) : wp_X11_bestCut I J (fun r _ _ => (7 < grs σ → r = -1) ∧ (grs σ ≤ 7 → ∃ b : Nat → Nat, FB σ b ∧ r = bkZ σ b)) := by
  have gr := grs_b hV.M
  refine groupCount_of sK300 hV hS ⟨rgK (by omega), fun c => ⟨fun z => absurd rfl z, fun _ => ⟨fun _ => rfl, fun z => by omega⟩⟩, fun c => ⟨fun _ => ?_, fun z => absurd z (by decide)⟩⟩
  exact fr_X11_searchBest (c_searchBest hV (by omega) hR hS) (fun I2 J2 h2 _ => ⟨fun z => by omega, fun _ => by obtain ⟨-, b, h3, -, h4, -⟩ := h2; exact ⟨b, h3, h4⟩⟩)
end ASL
/-! ===== what the calls answer that change nothing: settings, flows, best ===== -/
/-- a setting -/
def setZ (σ : Nat → Int) (u x : Int) : Int := if x = 5 then limZ σ else if x = 6 then allW σ else if x = 7 then allE σ else if x = 8 then σ 5 else if x = 9 then grs σ else if x = 10 then u else if x = 11 then lgZ σ (σ 0).toNat else σ x.toNat
section ASM
variable {I : Ii} {J : Jj} {σ : Nat → Int} {nm : Nat → Int64} {x y : Int}
theorem c_setting {u nw : Nat} {pf : Nat → Nat → Int} (hV : VS σ) (hR : RG 200 I J σ nm) (hS : RS 300 I σ) (hH : HR I u nw pf) (hx : 0 ≤ x ∧ x ≤ 11) : wp_X11_setting x I J (fun r _ _ => r = setZ σ (u : Int) x) := by
  have hM := hV.M
  unfold setZ
  refine ⟨rgK (by omega), fun z => by omega, fun c => ?_, fun c => ?_, fun c => ?_, fun c => ?_, fun c => ?_, fun c => ?_, fun c => ?_, fun c => ?_, fun c => ?_, fun c => ?_, fun c => ?_, fun c => ?_⟩
  · subst c; exact hR.n
  · subst c; exact hR.m
  · subst c; exact hR.q
  · subst c; exact hR.s
  · subst c; exact hS.c
  · exact fr_X2_limit (c_limit (Or.inl rfl) hM hR) (fun v hv => by rw [if_pos c, hv])
  · rw [if_neg (by omega), if_pos c]; exact hR.aw
  · rw [if_neg (by omega), if_neg (by omega), if_pos c]; exact hR.ae
  · rw [if_neg (by omega), if_neg (by omega), if_neg (by omega), if_pos c]; exact hS.l
  · exact groupCount_of sK300 hV hS (by rw [if_neg (by omega), if_neg (by omega), if_neg (by omega), if_neg (by omega), if_pos c])
  · rw [if_neg (by omega), if_neg (by omega), if_neg (by omega), if_neg (by omega), if_neg (by omega), if_pos c]; exact hH.1
  · exact fr_X2_largestPiece (c_largestPiece (Or.inl rfl) hV hR) (fun v hv => by rw [if_neg (by omega), if_neg (by omega), if_neg (by omega), if_neg (by omega), if_neg (by omega), if_neg (by omega), if_pos c, hv])
end ASM
/-! ===== rows end ===== -/
theorem stpZ_Tl : ∀ (k : Nat) {σ : Nat → Int}, VS σ → σ 6 + (k : Int) ≤ 1000000000 → Tl 350 σ → Tl 350 (stpZ k σ).2
  | 0, σ, _, _, h => h
  | k + 1, σ, hV, h6, h => by
    unfold stpZ
    by_cases c : nxZ σ = -1
    · rw [if_pos c]; exact h
    · rw [if_neg c]
      have hi := nxZ_in hV.M c
      have h1 := VS_comes hV hi.1 hi.2 (by omega)
      have h2 := comesZ_6 (σ := σ) (g := nxZ σ / 10) (p := nxZ σ % 10) hV.M
      exact stpZ_Tl k h1 (by split at h2 <;> omega) (comesZ_Tl hV.M h)
theorem plZ_Tl {σ : Nat → Int} {b : Nat → Int} (hV : VS σ) (hb : ∀ g : Nat, (g : Int) < grs σ → 0 ≤ b g ∧ b g < σ 2) (h6 : σ 6 + 14 ≤ 1000000000) (h : Tl 350 σ) : ∀ g : Nat, (g : Int) ≤ grs σ → Tl 350 (plZ σ b g).1
  | 0, _ => h
  | g + 1, hg => by
    rw [plZ_succ]
    have i := plZ_keeps hV hb h6 g (by omega)
    exact comesZ_Tl i.1.M (plZ_Tl hV hb h6 h g (by omega))
/-! ===== edges and groups ===== -/
section ASN
variable {I : Ii} {J : Jj} {σ : Nat → Int} {nm : Nat → Int64} {x y : Int}
theorem c_groupOf (hV : VS σ) (hR : RG 200 I J σ nm) (hS : RS 300 I σ) (hx : 0 ≤ x ∧ x < σ 0) : wp_X11_groupOf x I J (fun r _ _ => r = gAt σ x.toNat) := by
  have b0 := ms_0 hV.M
  have b5 := ms_5 hV.M
  have hl := hS.l
  exact reqV_of hV hR hx ⟨sK300, at_of (n := 70) (i := 14 * (σ 5).toNat + x.toNat) rfl (by omega) (by omega) (hS.gA (by omega))⟩
theorem isCut_of {e : Nat} (hV : VS σ) (hR : RG 200 I J σ nm) (hS : RS 300 I σ) (hx : x = (e : Int)) (he : e < (σ 1).toNat) {Q : Int → Ii → Jj → Prop} (h1 : cutE σ e → Q 1 I J) (h0 : ¬ cutE σ e → Q 0 I J) : wp_X11_isCut x I J Q := by
  have b1 := ms_1 hV.M
  have b0 := ms_0 hV.M
  have ha := hV.a he
  have hb := hV.b he
  refine at_of (n := 40) rfl hx (by omega) ?_
  rw [hR.a he]
  refine at_of (n := 14) (i := (σ (110 + e)).toNat) rfl (by omega) (by omega) (at_of (n := 40) rfl hx (by omega) ?_)
  rw [hR.b he]
  refine at_of (n := 14) (i := (σ (150 + e)).toNat) rfl (by omega) (by omega) ?_
  rw [hS.p (v := (σ (110 + e)).toNat) (by omega), hS.p (v := (σ (150 + e)).toNat) (by omega)]
  have p1 := hV.p (v := (σ (110 + e)).toNat) (by omega)
  have p2 := hV.p (v := (σ (150 + e)).toNat) (by omega)
  have b2 := ms_2 hV.M
  exact ⟨rgK (by omega), rgK (by omega), fun c => h0 (fun z => z c), fun c => h1 c⟩
/-- what an edge tells -/
def edgZ (σ : Nat → Int) (e : Nat) (y : Int) : Int := if y = 0 then σ (110 + e) else if y = 1 then σ (150 + e) else if y = 2 then σ (190 + e) else if σ (21 + (σ (110 + e)).toNat) = σ (21 + (σ (150 + e)).toNat) then 0 else 1
theorem c_edge (hV : VS σ) (hR : RG 200 I J σ nm) (hS : RS 300 I σ) (hx : 0 ≤ x ∧ x < σ 1) (hy : 0 ≤ y ∧ y ≤ 3) : wp_X11_edge x y I J (fun r _ _ => r = edgZ σ x.toNat y) := by
  have b1 := ms_1 hV.M
  have hm := hR.m
  unfold edgZ
  refine ⟨rgK (by omega), fun z => by omega, fun _ => ⟨rgK (by omega), fun _ => ⟨rgK (by omega), fun z => by omega, fun c => ?_, fun c => ?_, fun c => ?_, fun c => ?_⟩, fun z => by omega⟩⟩
  · exact at_of (n := 40) (i := x.toNat) rfl (by omega) (by omega) (by rw [if_pos c]; exact hR.a (by omega))
  · exact at_of (n := 40) (i := x.toNat) rfl (by omega) (by omega) (by rw [if_neg (by omega), if_pos c]; exact hR.b (by omega))
  · exact at_of (n := 40) (i := x.toNat) rfl (by omega) (by omega) (by rw [if_neg (by omega), if_neg (by omega), if_pos c]; exact hR.h (by omega))
  · refine isCut_of (e := x.toNat) hV hR hS (by omega) (by omega) (fun h => ⟨fun z => absurd z (by decide), fun _ => ?_⟩) (fun h => ⟨fun _ => ?_, fun z => absurd rfl z⟩)
    · rw [if_neg (by omega), if_neg (by omega), if_neg (by omega), if_neg h]
    · rw [if_neg (by omega), if_neg (by omega), if_neg (by omega), if_pos (Classical.not_not.mp h)]
end ASN
/-! ===== edges of the reference, mates, the border ===== -/
/-- an answer of the reference that may be refused with a 1 or a 2 -/
def AN2 (P R : Prop) (v r : Int) (I I' : Ii) : Prop := (P ∧ R ∧ r = v ∧ I' = up2 I 0 0 0) ∨ (¬ P ∧ r = 0 ∧ I' = up2 I 0 0 1) ∨ (P ∧ ¬ R ∧ r = 0 ∧ I' = up2 I 0 0 2)
section ASO
variable {I : Ii} {J : Jj} {σ : Nat → Int} {nm : Nat → Int64} {x y : Int}
theorem c_mate (hV : VS σ) (hR : RG 200 I J σ nm) (hS : RS 300 I σ) (hx : 0 ≤ x ∧ x < grs σ) : wp_X11_mate x I J (fun r _ _ => r = mateZ σ x.toNat) := by
  have gr := grs_b hV.M
  refine reqG_of hV hS hx (fr_X11_findPairs (c_findPairs hV hR hS) (fun I2 J2 h2 _ => at_of (n := 14) (i := x.toNat) rfl (by omega) (by omega) (h2.2.2 x.toNat (by omega))))
theorem c_border (hV : VS σ) (hR : RG 200 I J σ nm) (hS : RS 300 I σ) : wp_X11_border I J (fun r _ _ => r = ((bordZ σ (σ 1).toNat : Nat) : Int)) := by
  have hM := hV.M
  have b1 := ms_1 hM
  have b0 := ms_0 hM
  have hm := hR.m
  refine ⟨41, loopN (L := fun n t v => L_X11_border_4 _ n t v I J) (fun v t => t = ((bordZ σ v : Nat) : Int)) (N := (σ 1).toNat) (fun n v t hv ht k => ?_) 41 0 0 (by omega) (by omega) rfl⟩
  refine ls_X11_border_4 ?_
  unfold Lb_X11_border_4
  refine ⟨rgK (by omega), rgK (by omega), fun c => ?_, fun c => ?_⟩
  · rw [ht, show v = (σ 1).toNat by omega]
  · have hv' : v < (σ 1).toNat := by omega
    have h1 := hV.a hv'
    have h2 := hV.b hv'
    have h3 := bordZ_lt hM v (by omega)
    refine isCut_of hV hR hS rfl hv' (fun d => ⟨fun z => absurd z (by decide), fun _ => endsOf_of (Or.inl rfl) hV hR rfl hv' (k (by omega) _ ?_)⟩) (fun d => ⟨fun _ => k (by omega) _ ?_, fun z => absurd rfl z⟩)
    · have p1 : 2 ^ (σ (110 + v)).toNat < 2 ^ 14 := Nat.pow_lt_pow_right (by decide) (by omega)
      have p2 : 2 ^ (σ (150 + v)).toNat < 2 ^ 14 := Nat.pow_lt_pow_right (by decide) (by omega)
      have p3 : 2 ^ (σ (110 + v)).toNat ||| 2 ^ (σ (150 + v)).toNat < 2 ^ 14 := Nat.or_lt_two_pow p1 p2
      rw [ht, orZ_nat (by omega) (by omega), bordZ_succ, if_pos d]
    · rw [ht, bordZ_succ, if_neg d]
end ASO
/-! ===== bytes that are fed ===== -/
/-- a byte of a number -/
def bytZ (v k : Int) : Int := andZ (ushrZ v k) 255
theorem byt_bits (b : BitVec 32) {k : Nat} (hk : k ≤ 24) : (b.sshiftRight k) &&& 255#32 = (b >>> k) &&& 255#32 := by
  apply BitVec.eq_of_getLsbD_eq
  intro i hi
  rw [BitVec.getLsbD_and, BitVec.getLsbD_and]
  by_cases h : i < 8
  · rw [BitVec.getLsbD_sshiftRight, BitVec.getLsbD_ushiftRight, if_pos (by omega)]
    rw [show decide (32 ≤ i) = false from decide_eq_false (by omega)]
    rfl
  · have : ∀ j : Nat, j < 32 → ¬ j < 8 → (255#32).getLsbD j = false := by decide
    rw [this i hi h, Bool.and_false, Bool.and_false]
theorem byt_b (v k : Int) : 0 ≤ bytZ v k ∧ bytZ v k ≤ 255 := by
  unfold bytZ andZ
  generalize iZ (ushrZ v k) = x
  have e : (x &&& iZ 255).toInt = ((x.toBitVec &&& 255#32).toNat : Int) := by
    have h1 : (x &&& iZ 255).toInt = (x.toBitVec &&& 255#32).toInt := rfl
    rw [h1, BitVec.toInt_eq_toNat_of_lt]
    rw [BitVec.toNat_and]
    have : x.toBitVec.toNat &&& (255#32).toNat ≤ (255#32).toNat := Nat.and_le_right
    have e2 : (255#32).toNat = 255 := rfl
    omega
  rw [e, BitVec.toNat_and]
  have : x.toBitVec.toNat &&& (255#32).toNat ≤ (255#32).toNat := Nat.and_le_right
  have e2 : (255#32).toNat = 255 := rfl
  omega
theorem byt_eq {v : Int} {k : Int} (hk : k = 0 ∨ k = 8 ∨ k = 16 ∨ k = 24) : andZ (shrZ v k) 255 = bytZ v k := by
  unfold bytZ andZ shrZ ushrZ
  rw [iZ_back, iZ_back]
  generalize iZ v = x
  have key : ∀ m : Nat, m ≤ 24 → ((x.toBitVec.sshiftRight m) &&& 255#32).toInt = ((x.toBitVec >>> m) &&& 255#32).toInt := fun m hm => by rw [byt_bits _ hm]
  rcases hk with rfl | rfl | rfl | rfl
  · exact key 0 (by omega)
  · exact key 8 (by omega)
  · exact key 16 (by omega)
  · exact key 24 (by omega)

/-! ===== feed ===== -/
/-- four bytes more -/
def fed4 (B : Nat → Int) (n : Nat) (v : Int) : Nat → Int := updr (updr (updr (updr B n (bytZ v 24)) (n + 1) (bytZ v 16)) (n + 2) (bytZ v 8)) (n + 3) (bytZ v 0)
def fed20 (B : Nat → Int) (n : Nat) (v1 v2 v3 v4 v5 : Int) : Nat → Int := fed4 (fed4 (fed4 (fed4 (fed4 B n v1) (n + 4) v2) (n + 8) v3) (n + 12) v4) (n + 16) v5
section FD
variable {I : Ii} {J : Jj} {v : Int} {n m : Nat} {Q : Ii → Jj → Prop}
theorem c_app1 {k : Int} (hk : k = 0 ∨ k = 8 ∨ k = 16 ∨ k = 24) (hn : I 101 1 = (n : Int)) (h8 : n < 800) (h : ∀ I' : Ii, I' 101 1 = ((n + 1 : Nat) : Int) → I' 102 = updr (I 102) n (bytZ v k) → L_X10_append_3 v Q m (k + (-8)) I' J) : L_X10_append_3 v Q (m + 1) k I J := by
  refine ls_X10_append_3 ?_
  unfold Lb_X10_append_3
  refine ⟨rgK (by omega), fun c => by omega, fun _ => put_of (n := 800) rfl hn h8 (fun I3 e3 I4 e4 => h I4 ?_ ?_)⟩
  · rw [e4, up2_self, e3, up2_ne (by omega), hn]; omega
  · rw [e4, up2_key (by omega), e3, up2_row]; rfl
theorem c_append (hn : I 101 1 = (n : Int)) (h8 : n + 4 ≤ 800) (h : ∀ I' : Ii, I' 101 1 = ((n + 4 : Nat) : Int) → I' 102 = fed4 (I 102) n v → Q I' J) : wp_X10_append v I J Q := by
  refine ⟨5, c_app1 (k := 24) (by omega) hn (by omega) (fun I1 a1 b1 => ?_)⟩
  refine c_app1 (k := 16) (by omega) a1 (by omega) (fun I2 a2 b2 => ?_)
  refine c_app1 (k := 8) (by omega) a2 (by omega) (fun I3 a3 b3 => ?_)
  refine c_app1 (k := 0) (by omega) a3 (by omega) (fun I4 a4 b4 => ?_)
  refine ls_X10_append_3 ?_
  unfold Lb_X10_append_3
  exact ⟨rgK (by omega), fun _ => h I4 a4 (by rw [b4, b3, b2, b1]; rfl), fun z => absurd (by omega) z⟩
theorem c_feed {v1 v2 v3 v4 v5 : Int} (hn : I 101 1 = (n : Int)) (h8 : n ≤ 780) : wp_X11_feed v1 v2 v3 v4 v5 I J (fun r I' _ => r = ((n + 20 : Nat) : Int) ∧ I' 101 1 = ((n + 20 : Nat) : Int) ∧ I' 102 = fed20 (I 102) n v1 v2 v3 v4 v5) := by
  refine ⟨rgK (by omega), fun _ => ?_, fun z => by omega⟩
  refine c_append hn (by omega) (fun I1 a1 b1 => c_append a1 (by omega) (fun I2 a2 b2 => c_append a2 (by omega) (fun I3 a3 b3 => c_append a3 (by omega) (fun I4 a4 b4 => c_append a4 (by omega) (fun I5 a5 b5 => ?_)))))
  exact ⟨a5, a5, by rw [b5, b4, b3, b2, b1]; rfl⟩
end FD
/-! ===== changes: the class ===== -/
theorem HN_same {I I' : Ii} {u : Nat} {pf : Nat → Nat → Int} {σ : Nat → Int} (h : HN I u pf σ) (e : I' 111 = I 111) (ek : ∀ m, m < 6 → I' (330 + 10 * m) = I (330 + 10 * m) ∧ I' (330 + 10 * m + 1) = I (330 + 10 * m + 1) ∧ I' (330 + 10 * m + 2) = I (330 + 10 * m + 2) ∧ I' (330 + 10 * m + 3) = I (330 + 10 * m + 3) ∧ I' (330 + 10 * m + 4) = I (330 + 10 * m + 4)) : HN I' u pf σ := by
  obtain ⟨nw', g1, g2⟩ := h
  exact ⟨nw', fun hu pf' e1 e2 => HR_same (g1 hu pf' e1 e2) e ek, fun hu pf' e1 e2 => HR_same (g2 hu pf' e1 e2) e ek⟩
theorem HN_up {I I' : Ii} {u : Nat} {pf : Nat → Nat → Int} {σ : Nat → Int} {i : Nat} {v : Int} (h : HN I u pf σ) (e : I' = up2 I 300 i v) : HN I' u pf σ :=
  HN_same h (by rw [e, up2_key (by omega)]) (fun m _ => ⟨by rw [e, up2_key (by omega)], by rw [e, up2_key (by omega)], by rw [e, up2_key (by omega)], by rw [e, up2_key (by omega)], by rw [e, up2_key (by omega)]⟩)
section CHG
variable {I : Ii} {J : Jj} {σ : Nat → Int} {nm : Nat → Int64} {u nw : Nat} {pf : Nat → Nat → Int}
theorem c_setCredit {a : Int} (hV : VS σ) (hS : RS 300 I σ) (hH : HR I u nw pf) (ha : 0 ≤ a ∧ a ≤ 99) : wp_X11_setCredit a I J (fun r I' _ => r = σ 4 ∧ RS 300 I' (updr σ 4 a) ∧ HN I' u pf σ) := by
  refine ⟨rgK (by omega), fun z => by omega, fun _ => ⟨fun z => by omega, fun _ => ⟨fun _ => ?_, fun z => absurd z (by decide)⟩⟩⟩
  refine fr_X3_keep (c_keep hV hS hH) (fun I2 J2 h2 s2 => ?_)
  intro I3 e3
  have hS2 := hS.fr s2
  exact ⟨hS2.c, RS_cred hS2 e3, HN_up h2 e3⟩
theorem c_grow (hV : VS σ) (hS : RS 300 I σ) (hH : HR I u nw pf) (h5 : 0 < σ 5) : wp_X11_grow I J (fun r I' _ => r = grs (updr σ 5 (σ 5 - 1)) ∧ RS 300 I' (updr σ 5 (σ 5 - 1)) ∧ HN I' u pf σ) := by
  have b5 := ms_5 hV.M
  have l5 := hS.l
  refine ⟨rgK (by omega), fun _ => ?_, fun z => by omega⟩
  refine fr_X3_keep (c_keep hV hS hH) (fun I2 J2 h2 s2 => ?_)
  intro I3 e3
  have hS2 := hS.fr s2
  have hS3 : RS 300 I3 (updr σ 5 (σ 5 - 1)) := RS_grow hV.M h5 hS2 (by rw [e3, up2_row, hS2.l]) (by rw [e3, up2_key (by omega)]) (by rw [e3, up2_key (by omega)]) (by rw [e3, up2_key (by omega)]) (by rw [e3, up2_key (by omega)])
  exact groupCount_of sK300 (growZ_VS hV h5) hS3 ⟨rfl, hS3, HN_up h2 e3⟩
theorem c_shrink (hV : VS σ) (hR : RG 200 I J σ nm) (hS : RS 300 I σ) (hH : HR I u nw pf) (h4 : σ 5 ≠ 4) (hp : pairZ σ ≠ 0) : wp_X11_shrink I J (fun r I' _ => r = grs (shZ σ) ∧ RS 300 I' (shZ σ) ∧ HN I' u pf σ) := by
  have b5 := ms_5 hV.M
  refine fr_X11_whyNotShrink (c_whyNotShrink hV hR hS) (fun v I1 J1 hv s1 => ?_)
  rw [if_neg h4, if_neg hp] at hv
  subst hv
  refine ⟨rgK (by omega), fun _ => ?_, fun z => absurd rfl z⟩
  have hH1 : HR I1 u nw pf := HR_same hH s1.k (fun m hm => by
    have : m = 0 ∨ m = 1 ∨ m = 2 ∨ m = 3 ∨ m = 4 ∨ m = 5 := by omega
    rcases this with rfl | rfl | rfl | rfl | rfl | rfl <;> exact ⟨s1.k, s1.k, s1.k, s1.k, s1.k⟩)
  refine fr_X3_keep (c_keep hV (hS.fr s1) hH1) (fun I3 J3 h3 s3 => ?_)
  refine fr_X11_mergeGroups (c_mergeGroups hV (by omega) ((hR.fr s1).fr s3) ((hS.fr s1).fr s3)) (fun I4 J4 h4' s4 => ?_)
  refine groupCount_of sK300 (shZ_VS hV (by omega)) h4' ⟨rfl, h4', HN_same h3 s4.k (fun m hm => ?_)⟩
  have : m = 0 ∨ m = 1 ∨ m = 2 ∨ m = 3 ∨ m = 4 ∨ m = 5 := by omega
  rcases this with rfl | rfl | rfl | rfl | rfl | rfl <;> exact ⟨s4.k, s4.k, s4.k, s4.k, s4.k⟩
end CHG
/-! ===== changes: the class, moves and steps ===== -/
section CHH
variable {I : Ii} {J : Jj} {σ : Nat → Int} {nm : Nat → Int64} {u nw : Nat} {pf : Nat → Nat → Int} {x y : Int}
theorem c_move (hV : VS σ) (hR : RG 200 I J σ nm) (hS : RS 300 I σ) (hH : HR I u nw pf) (hx : 0 ≤ x ∧ x < grs σ) (hy : 0 ≤ y ∧ y < σ 2) (hw : wmZ σ x y = 0) (h6 : σ 6 < 1000000000) : wp_X11_move x y I J (fun r I' _ => r = cutZ (comesZ σ x y) ∧ RS 300 I' (comesZ σ x y) ∧ HN I' u pf σ) := by
  have hne : gPt σ ((x.toNat : Nat) : Int) ≠ ((y.toNat : Nat) : Int) := by
    rw [show ((x.toNat : Nat) : Int) = x by omega, show ((y.toNat : Nat) : Int) = y by omega]
    intro z
    unfold wmZ at hw
    rw [if_pos z] at hw
    omega
  refine fr_X11_whyNotMove (c_whyNotMove hV hR hS hx hy) (fun v I1 J1 hv s1 => ?_)
  rw [hw] at hv
  subst hv
  refine ⟨rgK (by omega), fun _ => ?_, fun z => absurd rfl z⟩
  have hH1 : HR I1 u nw pf := HR_same hH s1.k (fun m hm => by
    have : m = 0 ∨ m = 1 ∨ m = 2 ∨ m = 3 ∨ m = 4 ∨ m = 5 := by omega
    rcases this with rfl | rfl | rfl | rfl | rfl | rfl <;> exact ⟨s1.k, s1.k, s1.k, s1.k, s1.k⟩)
  refine fr_X3_keep (c_keep hV (hS.fr s1) hH1) (fun I3 J3 h3 s3 => ?_)
  have hR3 := (hR.fr s1).fr s3
  have ct := c_takeTo (x := x) (y := y) hV hR3 ((hS.fr s1).fr s3) (g := x.toNat) (p := y.toNat) (by omega) (by omega) (by omega) (by omega) hne
  rw [show ((x.toNat : Nat) : Int) = x by omega, show ((y.toNat : Nat) : Int) = y by omega] at ct
  refine fr_X11_takeTo ct (fun I4 J4 h4 s4 => ?_)
  have hR4 := (hR3.fr s4).ge (comesZ_GE (g := x) (p := y) hV.M) hV.M
  refine fr_X11_cut (c_cut (VS_comes hV hx hy h6) hR4 h4) (fun r I5 J5 h5 s5 => ⟨h5, h4.fr s5, ?_⟩)
  have hN4 : HN I4 u pf σ := HN_same h3 s4.k (fun m hm => by
    have : m = 0 ∨ m = 1 ∨ m = 2 ∨ m = 3 ∨ m = 4 ∨ m = 5 := by omega
    rcases this with rfl | rfl | rfl | rfl | rfl | rfl <;> exact ⟨s4.k, s4.k, s4.k, s4.k, s4.k⟩)
  refine HN_same hN4 s5.k (fun m hm => ?_)
  have : m = 0 ∨ m = 1 ∨ m = 2 ∨ m = 3 ∨ m = 4 ∨ m = 5 := by omega
  rcases this with rfl | rfl | rfl | rfl | rfl | rfl <;> exact ⟨s5.k, s5.k, s5.k, s5.k, s5.k⟩
theorem c_steps {m : Nat} (hV : VS σ) (hR : RG 200 I J σ nm) (hS : RS 300 I σ) (hH : HR I u nw pf) (hm : 1 ≤ m ∧ m ≤ 99) (h6 : σ 6 + 99 ≤ 1000000000) (hx : x = (m : Int)) : wp_X11_steps x I J (fun r I' _ => r = ((stpZ m σ).1 : Int) ∧ RS 300 I' (stpZ m σ).2 ∧ HN I' u pf σ) := by
  subst hx
  refine ⟨rgK (by omega), fun z => by omega, fun _ => ⟨fun z => by omega, fun _ => ⟨fun _ => ?_, fun z => absurd z (by decide)⟩⟩⟩
  refine fr_X3_keep (c_keep hV hS hH) (fun I3 J3 h3 s3 => ?_)
  refine fr_X11_makeSteps (c_makeSteps (Or.inl rfl) (by omega) hV (hR.fr s3) (hS.fr s3) (by omega)) (fun v I4 J4 h4 s4 => ⟨h4.1, h4.2, HN_same h3 s4.k (fun m hm => ?_)⟩)
  have : m = 0 ∨ m = 1 ∨ m = 2 ∨ m = 3 ∨ m = 4 ∨ m = 5 := by omega
  rcases this with rfl | rfl | rfl | rfl | rfl | rfl <;> exact ⟨s4.k, s4.k, s4.k, s4.k, s4.k⟩
end CHH
/-! ===== changes: the class, placing and a step ===== -/
section CHI
variable {I : Ii} {J : Jj} {σ : Nat → Int} {nm : Nat → Int64} {u nw : Nat} {pf : Nat → Nat → Int} {x y : Int}
theorem c_placeBest (hV : VS σ) (hR : RG 200 I J σ nm) (hS : RS 300 I σ) (hH : HR I u nw pf) (h7 : grs σ ≤ 7) (h6 : σ 6 + 14 ≤ 1000000000) : wp_X11_placeBest I J (fun r I' _ => ∃ b : Nat → Nat, FB σ b ∧ r = ((plZ σ (fun g => (b g : Int)) (grs σ).toNat).2 : Int) ∧ RS 300 I' (plZ σ (fun g => (b g : Int)) (grs σ).toNat).1 ∧ HN I' u pf σ) := by
  have gr := grs_b hV.M
  refine groupCount_of sK300 hV hS ⟨rgK (by omega), fun z => by omega, fun _ => ⟨fun _ => ?_, fun z => absurd z (by decide)⟩⟩
  refine fr_X3_keep (c_keep hV hS hH) (fun I3 J3 h3 s3 => ?_)
  have hR3 := hR.fr s3
  have hS3 := hS.fr s3
  refine fr_X11_searchBest (c_searchBest hV h7 hR3 hS3) (fun I7 J7 h7' s7 => ?_)
  obtain ⟨hE, b, hF, -, -, hb⟩ := h7'
  refine fr_X11_takeBest (c_takeBest hV h7 h6 (hR3.fr s7) (hS3.fr s7) hF.1 (fun g hg => (hE.2.2.2.2.2.2.1 g hg).2.2) hb) (fun v I4 J4 h4 s4 => ⟨b, hF, h4.1, h4.2, ?_⟩)
  have hN7 : HN I7 u pf σ := HN_same h3 s7.k (fun m hm => by
    have : m = 0 ∨ m = 1 ∨ m = 2 ∨ m = 3 ∨ m = 4 ∨ m = 5 := by omega
    rcases this with rfl | rfl | rfl | rfl | rfl | rfl <;> exact ⟨s7.k, s7.k, s7.k, s7.k, s7.k⟩)
  refine HN_same hN7 s4.k (fun m hm => ?_)
  have : m = 0 ∨ m = 1 ∨ m = 2 ∨ m = 3 ∨ m = 4 ∨ m = 5 := by omega
  rcases this with rfl | rfl | rfl | rfl | rfl | rfl <;> exact ⟨s4.k, s4.k, s4.k, s4.k, s4.k⟩
theorem c_placeApart (hV : VS σ) (hR : RG 200 I J σ nm) (hS : RS 300 I σ) (hH : HR I u nw pf) (hx : 0 ≤ x ∧ x < σ 0) (hy : 0 ≤ y ∧ y < σ 0) (hxy : x ≠ y) (h2 : σ 2 = 2) (h5 : σ 5 = 0) (h6 : σ 6 + 14 ≤ 1000000000) : wp_X11_placeApart x y I J (fun r I' _ => ∃ T s, FLW σ x.toNat y.toNat T s ∧ r = ((plZ σ (fun g => if s.testBit g = true then 0 else 1) (σ 0).toNat).2 : Int) ∧ RS 300 I' (plZ σ (fun g => if s.testBit g = true then 0 else 1) (σ 0).toNat).1 ∧ HN I' u pf σ) := by
  have b0 := ms_0 hV.M
  have q2 := hR.q
  have l5 := hS.l
  refine reqV_of hV hR hx (reqV_of hV hR hy ⟨rgK (by omega), rgK (by omega), fun _ => ?_, fun z => absurd z hxy⟩)
  refine ⟨rgK (by omega), fun z => by omega, fun _ => ⟨rgK (by omega), fun z => by omega, fun _ => ⟨fun _ => ?_, fun z => absurd z (by decide)⟩⟩⟩
  refine fr_X3_keep (c_keep hV hS hH) (fun I3 J3 h3 s3 => ?_)
  refine fr_X11_takeApart (c_takeApart hV h2 h5 h6 (hR.fr s3) (hS.fr s3) (v := x.toNat) (w := y.toNat) (by omega) (by omega) (by omega) (by omega) (by omega)) (fun v I4 J4 h4 s4 => ?_)
  obtain ⟨T, s, hF, hr, hS'⟩ := h4
  refine ⟨T, s, hF, hr, hS', HN_same h3 s4.k (fun m hm => ?_)⟩
  have : m = 0 ∨ m = 1 ∨ m = 2 ∨ m = 3 ∨ m = 4 ∨ m = 5 := by omega
  rcases this with rfl | rfl | rfl | rfl | rfl | rfl <;> exact ⟨s4.k, s4.k, s4.k, s4.k, s4.k⟩
end CHI
/-! ===== changes: a step of the class ===== -/
section CHJ
variable {I : Ii} {J : Jj} {σ : Nat → Int} {nm : Nat → Int64} {u nw : Nat} {pf : Nat → Nat → Int}
theorem c_step (hV : VS σ) (hR : RG 200 I J σ nm) (hS : RS 300 I σ) (hH : HR I u nw pf) (h6 : σ 6 < 1000000000) : wp_X11_step I J (fun r I' _ => (nxZ σ = -1 → r = -1 ∧ RS 300 I' σ ∧ HR I' u nw pf) ∧ (nxZ σ ≠ -1 → r = cutZ (stpZ 1 σ).2 ∧ RS 300 I' (stpZ 1 σ).2 ∧ HN I' u pf σ)) := by
  have nb := nxZ_b hV.M
  refine fr_X11_nextStep (c_nextStep hV hR hS) (fun v I1 J1 hv s1 => ?_)
  subst hv
  have hH1 : HR I1 u nw pf := HR_same hH s1.k (fun m hm => by
    have : m = 0 ∨ m = 1 ∨ m = 2 ∨ m = 3 ∨ m = 4 ∨ m = 5 := by omega
    rcases this with rfl | rfl | rfl | rfl | rfl | rfl <;> exact ⟨s1.k, s1.k, s1.k, s1.k, s1.k⟩)
  refine ⟨rgK (by omega), fun c => ?_, fun c => ⟨fun _ => ⟨rfl, hS.fr s1, hH1⟩, fun z => absurd c z⟩⟩
  refine fr_X3_keep (c_keep hV (hS.fr s1) hH1) (fun I3 J3 h3 s3 => ?_)
  have hR3 := (hR.fr s1).fr s3
  refine fr_X11_makeSteps (c_makeSteps (Or.inl rfl) (m := 1) (by omega) hV hR3 ((hS.fr s1).fr s3) (by omega)) (fun v I4 J4 h4 s4 => ?_)
  have hs := VS_stp 1 hV (by omega)
  have hR4 := (hR3.fr s4).ge hs.2 hV.M
  refine fr_X11_cut (c_cut hs.1 hR4 h4.2) (fun r I5 J5 h5 s5 => ⟨fun z => absurd z c, fun _ => ⟨h5, h4.2.fr s5, ?_⟩⟩)
  have hN4 : HN I4 u pf σ := HN_same h3 s4.k (fun m hm => by
    have : m = 0 ∨ m = 1 ∨ m = 2 ∨ m = 3 ∨ m = 4 ∨ m = 5 := by omega
    rcases this with rfl | rfl | rfl | rfl | rfl | rfl <;> exact ⟨s4.k, s4.k, s4.k, s4.k, s4.k⟩)
  refine HN_same hN4 s5.k (fun m hm => ?_)
  have : m = 0 ∨ m = 1 ∨ m = 2 ∨ m = 3 ∨ m = 4 ∨ m = 5 := by omega
  rcases this with rfl | rfl | rfl | rfl | rfl | rfl <;> exact ⟨s5.k, s5.k, s5.k, s5.k, s5.k⟩
end CHJ
/-! ===== parts and groups ===== -/
theorem smx_swap (f : Nat → Nat → Int) : ∀ n m, sm (fun p => sm (f p) m) n = sm (fun e => sm (fun p => f p e) n) m
  | 0, m => (sm_zero m).symm
  | n + 1, m => by
    rw [sm_succ, smx_swap f n m, ← sm_add]
    rfl
theorem smx_one {x w : Int} {n : Nat} (h : 0 ≤ x ∧ x < (n : Int)) : sm (fun p => if x = (p : Int) then w else 0) n = w := by
  have e := sm_except (f := fun p : Nat => if x = (p : Int) then w else 0) (h := fun _ => 0) (a := x.toNat) (n := n) (by omega) (fun k _ hne => by rw [if_neg (by omega)])
  rw [e, sm_zero, if_pos (by omega)]
  omega
theorem smx_oneC {A g x w : Int} {n : Nat} (h : 0 ≤ x ∧ x < (n : Int)) : sm (fun p => if A = g ∧ x = (p : Int) then w else 0) n = if A = g then w else 0 := by
  by_cases q : A = g
  · rw [if_pos q]
    refine (sm_cong (fun p _ => ?_)).trans (smx_one (w := w) h)
    by_cases r : x = (p : Int)
    · rw [if_pos ⟨q, r⟩, if_pos r]
    · rw [if_neg (fun z => r z.2), if_neg r]
  · rw [if_neg q]
    exact (sm_cong (fun p _ => if_neg (fun z => q z.1))).trans (sm_zero n)
theorem mem_bit {σ : Nat → Int} (g : Int) {v : Nat} (hv : v < (σ 0).toNat) : (memG σ g).testBit v = true ↔ gAt σ v = g := by
  unfold memG
  rw [bset_bit]
  simp [hv]
theorem inP_bit {σ : Nat → Int} (p : Int) {v : Nat} (hv : v < (σ 0).toNat) : (inP σ p).testBit v = true ↔ σ (21 + v) = p := by
  unfold inP
  rw [bset_bit]
  simp [hv]
theorem bool_eq {a b : Bool} {A B : Prop} (ha : a = true ↔ A) (hb : b = true ↔ B) : a = b ↔ (A ↔ B) := by
  rw [← ha, ← hb]
  cases a <;> cases b <;> simp
/-- what pulls a group is what leaves it -/
theorem pull_out {σ : Nat → Int} (hV : VS σ) (g : Int) : sm (fun p => pullZ σ g (p : Int)) (σ 2).toNat = outZ σ (memG σ g) := by
  unfold pullZ outZ
  rw [smx_swap (fun p e => pullE σ g (p : Int) e)]
  refine sm_cong (fun e he => ?_)
  have ha := hV.a he
  have hb := hV.b he
  have pa := hV.p (v := (σ (110 + e)).toNat) (by omega)
  have pb := hV.p (v := (σ (150 + e)).toNat) (by omega)
  have ba := mem_bit g (σ := σ) (v := (σ (110 + e)).toNat) (by omega)
  have bb := mem_bit g (σ := σ) (v := (σ (150 + e)).toNat) (by omega)
  unfold pullE
  have ee := bool_eq ba bb
  generalize (memG σ g).testBit (σ (110 + e)).toNat = ta at *
  generalize (memG σ g).testBit (σ (150 + e)).toNat = tb at *
  generalize gAt σ (σ (110 + e)).toNat = A at *
  generalize gAt σ (σ (150 + e)).toNat = B at *
  by_cases q : A = B
  · rw [if_pos (ee.mpr (by rw [q]))]
    exact (sm_cong (fun p _ => if_pos q)).trans (sm_zero (σ 2).toNat)
  · rw [show (fun p : Nat => if A = B then (0 : Int) else (if A = g ∧ σ (21 + (σ (150 + e)).toNat) = (p : Int) then σ (190 + e) else 0) + (if B = g ∧ σ (21 + (σ (110 + e)).toNat) = (p : Int) then σ (190 + e) else 0)) = fun p : Nat => (if A = g ∧ σ (21 + (σ (150 + e)).toNat) = (p : Int) then σ (190 + e) else 0) + (if B = g ∧ σ (21 + (σ (110 + e)).toNat) = (p : Int) then σ (190 + e) else 0) from funext fun p => if_neg q]
    rw [sm_add, smx_oneC (by omega), smx_oneC (by omega)]
    by_cases q1 : A = g
    · have q2 : ¬ B = g := by omega
      rw [if_pos q1, if_neg q2, if_neg (fun z => q2 ((ee.mp z).mp q1))]
      omega
    · by_cases q2 : B = g
      · rw [if_neg q1, if_pos q2, if_neg (fun z => q1 ((ee.mp z).mpr q2))]
        omega
      · rw [if_neg q1, if_neg q2, if_pos (ee.mpr ⟨fun z => absurd z q1, fun z => absurd z q2⟩)]
        rfl
/-- two bits and a set -/
theorem and_two {a b W : Nat} : (2 ^ a ||| 2 ^ b) &&& W = 0 ↔ W.testBit a = false ∧ W.testBit b = false := by
  constructor
  · intro h
    have key : ∀ i, (i = a ∨ i = b) → W.testBit i = false := fun i hi => by
      have e := congrArg (fun x => x.testBit i) h
      simp only [Nat.testBit_and, Nat.testBit_or, Nat.testBit_two_pow, Nat.zero_testBit] at e
      have h1 : (decide (a = i) || decide (b = i)) = true := by rcases hi with rfl | rfl <;> simp
      rw [h1, Bool.true_and] at e
      exact e
    exact ⟨key a (Or.inl rfl), key b (Or.inr rfl)⟩
  · intro h
    apply Nat.eq_of_testBit_eq
    intro i
    simp only [Nat.testBit_and, Nat.testBit_or, Nat.testBit_two_pow, Nat.zero_testBit]
    by_cases qa : a = i
    · subst qa; rw [h.1, Bool.and_false]
    · by_cases qb : b = i
      · subst qb; rw [h.2, Bool.and_false]
      · simp [qa, qb]
/-- what a part tells -/
def parZ (σ : Nat → Int) (p y : Int) : Int := if y = 0 then wOf σ p else if y = 1 then debtZ σ p else if y = 2 then ((inP σ p : Nat) : Int) else if y = 3 then pieZ σ (inP σ p) else outZ σ (inP σ p)
/-- what a group tells -/
def groZ (σ : Nat → Int) (g y : Int) : Int := if y = 0 then ((memG σ g : Nat) : Int) else if y = 1 then gW σ g else if y = 2 then gPt σ g else outZ σ (memG σ g)
section ASP
variable {I : Ii} {J : Jj} {σ : Nat → Int} {nm : Nat → Int64} {x y : Int}
theorem c_cutAround (hV : VS σ) (hR : RG 200 I J σ nm) (hS : RS 300 I σ) (hE : ME σ I) (hx : 0 ≤ x ∧ x < σ 2) : wp_X11_cutAround x I J (fun r _ _ => r = outZ σ (inP σ x)) := by
  have b0 := ms_0 hV.M
  have b1 := ms_1 hV.M
  have b2 := ms_2 hV.M
  have hm := hR.m
  have hW := inP_b hV.M x
  refine at_of (n := 4) (i := x.toNat) rfl (by omega) (by omega) ?_
  rw [(hE.2.2.2.2.2.2.2.1 x.toNat (by omega)).1, show ((x.toNat : Nat) : Int) = x by omega]
  refine ⟨41, loopN (L := fun n t v => L_X11_cutAround_17 x _ n ((inP σ x : Nat) : Int) t v I J) (fun v t => t = sm (fun e => if (inP σ x).testBit (σ (110 + e)).toNat = (inP σ x).testBit (σ (150 + e)).toNat then 0 else σ (190 + e)) v) (N := (σ 1).toNat) (fun n v t hv ht k => ?_) 41 0 0 (by omega) (by omega) rfl⟩
  refine ls_X11_cutAround_17 ?_
  generalize hr : L_X11_cutAround_17 x _ n = r at k ⊢
  unfold Lb_X11_cutAround_17
  refine ⟨rgK (by omega), rgK (by omega), fun c => ?_, fun c => ?_⟩
  · rw [ht, show v = (σ 1).toNat by omega]; rfl
  · have hv' : v < (σ 1).toNat := by omega
    have h1 := hV.a hv'
    have h2 := hV.b hv'
    have ba := inP_bit x (σ := σ) (v := (σ (110 + v)).toNat) (by omega)
    have bb := inP_bit x (σ := σ) (v := (σ (150 + v)).toNat) (by omega)
    have ee := bool_eq ba bb
    refine isCut_of hV hR hS rfl hv' (fun d => ⟨fun z => absurd z (by decide), fun _ => endsOf_of (Or.inl rfl) hV hR rfl hv' ?_⟩) (fun d => ⟨fun _ => k (by omega) _ ?_, fun z => absurd rfl z⟩)
    · have p1 : 2 ^ (σ (110 + v)).toNat < 2 ^ 14 := Nat.pow_lt_pow_right (by decide) (by omega)
      have p2 : 2 ^ (σ (150 + v)).toNat < 2 ^ 14 := Nat.pow_lt_pow_right (by decide) (by omega)
      have p3 : 2 ^ (σ (110 + v)).toNat ||| 2 ^ (σ (150 + v)).toNat < 2 ^ 14 := Nat.or_lt_two_pow p1 p2
      rw [andZ_nat (by omega)]
      have two := and_two (a := (σ (110 + v)).toNat) (b := (σ (150 + v)).toNat) (W := inP σ x)
      refine ⟨fun z => k (by omega) _ ?_, fun z => at_of (n := 40) rfl rfl (by omega) (k (by omega) _ ?_)⟩
      · have := two.mp (by omega)
        rw [ht, sm_succ, if_pos (this.1.trans this.2.symm)]
        omega
      · rw [hR.h hv', ht, sm_succ, if_neg]
        intro w
        apply z
        have w2 := ee.mp w
        have na : ¬ σ (21 + (σ (110 + v)).toNat) = x := fun q => d (q.trans (w2.mp q).symm)
        have nb : ¬ σ (21 + (σ (150 + v)).toNat) = x := fun q => na (w2.mpr q)
        have := two.mpr ⟨Bool.eq_false_iff.mpr (fun q => na (ba.mp q)), Bool.eq_false_iff.mpr (fun q => nb (bb.mp q))⟩
        omega
    · have d := Classical.not_not.mp d
      rw [ht, sm_succ, if_pos (ee.mpr (by rw [d]))]
      omega
theorem c_part (hV : VS σ) (hR : RG 200 I J σ nm) (hS : RS 300 I σ) (hx : 0 ≤ x ∧ x < σ 2) (hy : 0 ≤ y ∧ y ≤ 4) : wp_X11_part x y I J (fun r _ _ => r = parZ σ x y) := by
  have b2 := ms_2 hV.M
  have bw := wOf_b hV.M x
  have xx : ((x.toNat : Nat) : Int) = x := by omega
  unfold parZ
  refine reqP_of hV hR hx (fr_X4_take (c_take sK300 hV hR hS) (fun I3 J3 hE s3 => ?_))
  have h7 := hE.2.2.2.2.2.2.2.1 x.toNat (by omega)
  rw [xx] at h7
  refine ⟨rgK (by omega), fun z => by omega, fun c => ?_, fun c => ?_, fun c => ?_, fun c => ?_, fun c => ?_⟩
  · refine at_of (n := 4) (i := x.toNat) rfl (by omega) (by omega) ?_
    rw [if_pos c, h7.2]
  · refine at_of (n := 4) (i := x.toNat) rfl (by omega) (by omega) ?_
    rw [h7.2]
    refine debtAt_of hV hE.2.2.1 (by omega) ?_
    rw [if_neg (by omega), if_pos c, debtZ_pos]
  · refine at_of (n := 4) (i := x.toNat) rfl (by omega) (by omega) ?_
    rw [if_neg (by omega), if_neg (by omega), if_pos c, h7.1]
  · refine at_of (n := 4) (i := x.toNat) rfl (by omega) (by omega) ?_
    rw [h7.1, if_neg (by omega), if_neg (by omega), if_neg (by omega), if_pos c]
    exact fr_X2_pieces (c_pieces (Or.inl rfl) hV (hR.fr s3) rfl (inP_b hV.M x)) (fun v hv => hv)
  · rw [if_neg (by omega), if_neg (by omega), if_neg (by omega), if_neg (by omega)]
    exact c_cutAround hV (hR.fr s3) (hS.fr s3) hE hx
theorem c_group (hV : VS σ) (hR : RG 200 I J σ nm) (hS : RS 300 I σ) (hx : 0 ≤ x ∧ x < grs σ) (hy : 0 ≤ y ∧ y ≤ 3) : wp_X11_group x y I J (fun r _ _ => r = groZ σ x y) := by
  have gr := grs_b hV.M
  have xx : ((x.toNat : Nat) : Int) = x := by omega
  unfold groZ
  refine reqG_of hV hS hx (fr_X4_take (c_take sK300 hV hR hS) (fun I3 J3 hE s3 => ?_))
  have h6 := hE.2.2.2.2.2.2.1 x.toNat (by omega)
  rw [xx] at h6
  refine ⟨rgK (by omega), fun z => by omega, fun c => ?_, fun c => ?_, fun c => ?_, fun c => ?_⟩
  · refine at_of (n := 14) (i := x.toNat) rfl (by omega) (by omega) ?_
    rw [if_pos c, h6.1]
  · refine at_of (n := 14) (i := x.toNat) rfl (by omega) (by omega) ?_
    rw [if_neg (by omega), if_pos c, h6.2.1]
  · refine at_of (n := 14) (i := x.toNat) rfl (by omega) (by omega) ?_
    rw [if_neg (by omega), if_neg (by omega), if_pos c, h6.2.2]
  · refine pullOfAll_of hV hE (g := x.toNat) (by omega) (by omega) ?_
    rw [if_neg (by omega), if_neg (by omega), if_neg (by omega), xx]
    exact pull_out hV x
end ASP
/-! ===== steps that are tried, events ===== -/
/-- how many steps there are to the end; -1 if more than m -/
def endZ (σ : Nat → Int) (m : Nat) : Int := if nxZ (stpZ m σ).2 = -1 then ((stpZ m σ).1 : Int) else -1
/-- an event's number -/
def evtZ (σ : Nat → Int) (x y : Int) : Int := σ (230 + 4 * ((σ 6 - 1 - x) % 30).toNat + y.toNat)
section ASQ
variable {I : Ii} {J : Jj} {σ : Nat → Int} {nm : Nat → Int64} {x y : Int}
theorem c_trySteps {m : Nat} (hm : m ≤ 200) (hV : VS σ) (hR : RG 200 I J σ nm) (hS : RS 300 I σ) (h6 : σ 6 + 200 ≤ 1000000000) : wp_X11_trySteps (m : Int) I J (fun r I' J' => r = ((stpZ m σ).1 : Int) ∧ RS 310 I' (stpZ m σ).2 ∧ RG 200 I' J' (stpZ m σ).2 nm) := by
  refine fr_X8_copyFrom (c_copyS sK310 sK300 (by omega) (by omega) hV hS) (fun I1 J1 h1 s1 => ?_)
  have hR1 : RG 200 I1 J1 σ nm := hR.fr s1
  refine fr_X11_makeSteps (c_makeSteps (Or.inr rfl) hm hV hR1 h1 (by omega)) (fun v I4 J4 h4 s4 => ⟨h4.1, h4.2, ?_⟩)
  have hs := VS_stp m hV (by omega)
  exact (hR1.fr s4).ge hs.2 hV.M
theorem c_stepsToEnd {m : Nat} (hx : x = (m : Int)) (hm : m ≤ 200) (hV : VS σ) (hR : RG 200 I J σ nm) (hS : RS 300 I σ) (h6 : σ 6 + 200 ≤ 1000000000) : wp_X11_stepsToEnd x I J (fun r _ _ => r = endZ σ m) := by
  subst hx
  have hs := VS_stp m hV (by omega)
  have nb := nxZ_b hs.1.M
  unfold endZ
  refine ⟨rgK (by omega), fun z => by omega, fun _ => ⟨fun _ => ?_, fun z => by omega⟩⟩
  refine fr_X11_trySteps (c_trySteps hm hV hR hS h6) (fun v I2 J2 h2 s2 => ?_)
  obtain ⟨rfl, hS2, hR2⟩ := h2
  refine fr_X4_take (c_take sK310 hs.1 hR2 hS2) (fun I3 J3 hE _ => chosenStep_of hs.1 hE ⟨rgK (by omega), fun c => ?_, fun c => ?_⟩)
  · rw [if_neg c]
  · rw [if_pos c]
theorem c_cutBehind {m : Nat} (hx : x = (m : Int)) (hm : m ≤ 200) (hV : VS σ) (hR : RG 200 I J σ nm) (hS : RS 300 I σ) (h6 : σ 6 + 200 ≤ 1000000000) : wp_X11_cutBehind x I J (fun r _ _ => r = cutZ (stpZ m σ).2) := by
  subst hx
  have hs := VS_stp m hV (by omega)
  refine ⟨rgK (by omega), fun z => by omega, fun _ => ⟨fun _ => ?_, fun z => by omega⟩⟩
  refine fr_X11_trySteps (c_trySteps hm hV hR hS h6) (fun v I2 J2 h2 s2 => ?_)
  obtain ⟨rfl, hS2, hR2⟩ := h2
  exact fr_X4_take (c_take sK310 hs.1 hR2 hS2) (fun I3 J3 hE _ => hE.2.2.2.2.2.1)
theorem c_events (hS : RS 300 I σ) : wp_X11_events I J (fun r _ _ => r = kev σ) := hS.e
theorem c_event (hV : VS σ) (hS : RS 300 I σ) (hx : 0 ≤ x ∧ x < kev σ) (hy : 0 ≤ y ∧ y ≤ 3) : wp_X11_event x y I J (fun r _ _ => r = evtZ σ x y) := by
  have kb := kev_b hV.M
  have he := hS.e
  refine ⟨rgK (by omega), fun z => by omega, fun _ => ⟨rgK (by omega), fun _ => ⟨rgK (by omega), fun z => by omega, fun _ => ⟨fun _ => ?_, fun z => by omega⟩⟩, fun z => by omega⟩⟩
  refine at_of (n := 120) (i := 4 * x.toNat + y.toNat) rfl (by omega) (by omega) ?_
  rw [hS.ev (i := x.toNat) (w := y.toNat) (by omega) (by omega), show ((x.toNat : Nat) : Int) = x by omega]
  rfl
end ASQ
