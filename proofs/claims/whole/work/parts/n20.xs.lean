/-! ===== where the class's methods throw ===== -/
section XS
variable {I : Ii} {J : Jj} {σ : Nat → Int} {nm : Nat → Int64} {x y : Int} {Q : Nat → Ii → Jj → Prop}
theorem x_reqV (hV : VS σ) (hR : RG 200 I J σ nm) (hx : rg x) (hP : ¬ (0 ≤ x ∧ x < σ 0)) (hQ : Q 1 I J) : xp_X11_requireVertex x I J Q := by
  have b0 := ms_0 hV.M
  have hn := hR.n
  exact ⟨hx, fun _ => ⟨fun z => absurd rfl z, fun _ => hQ⟩, fun c => ⟨rgK (by omega), fun _ => ⟨fun z => absurd rfl z, fun _ => hQ⟩, fun z => by omega⟩⟩
theorem x_reqP (hV : VS σ) (hR : RG 200 I J σ nm) (hx : rg x) (hP : ¬ (0 ≤ x ∧ x < σ 2)) (hQ : Q 1 I J) : xp_X11_requirePart x I J Q := by
  have b0 := ms_2 hV.M
  have hn := hR.q
  exact ⟨hx, fun _ => ⟨fun z => absurd rfl z, fun _ => hQ⟩, fun c => ⟨rgK (by omega), fun _ => ⟨fun z => absurd rfl z, fun _ => hQ⟩, fun z => by omega⟩⟩
theorem x_reqG (hV : VS σ) (hS : RS 300 I σ) (hx : rg x) (hP : ¬ (0 ≤ x ∧ x < grs σ)) (hQ : Q 1 I J) : xp_X11_requireGroup x I J Q := by
  have gr := grs_b hV.M
  exact ⟨hx, fun _ => ⟨fun z => absurd rfl z, fun _ => hQ⟩, fun c => groupCount_of sK300 hV hS ⟨hx, rgK (by omega), fun _ => ⟨fun z => absurd rfl z, fun _ => hQ⟩, fun z => by omega⟩⟩
theorem x_reqT (hx : rg x) (hP : ¬ (0 ≤ x ∧ x ≤ 200)) (hQ : Q 0 I J) : xp_X11_requireTriedSteps x I J Q :=
  ⟨hx, fun _ => hQ, fun c => ⟨fun z => by omega, fun _ => hQ⟩⟩
theorem x_feed {n : Nat} {v1 v2 v3 v4 v5 : Int} (hn : I 101 1 = (n : Int)) (h8 : n ≤ 800) (h7 : 780 < n) (hQ : Q 2 I J) : xp_X11_feed v1 v2 v3 v4 v5 I J Q :=
  ⟨rgK (by omega), fun z => by omega, fun _ => hQ⟩
theorem x_truncate {n : Nat} (hn : I 101 1 = (n : Int)) (h8 : n ≤ 800) (hx : rg x) (hP : ¬ (0 ≤ x ∧ x ≤ (n : Int))) (hQ : Q 0 I J) : xp_X11_truncate x I J Q :=
  ⟨hx, fun _ => hQ, fun c => ⟨rgK (by omega), fun z => by omega, fun _ => hQ⟩⟩
theorem x_error (hx : rg x) (hP : ¬ (0 ≤ x ∧ x ≤ 2)) (hQ : Q 0 I J) : xp_X11_error x I J Q :=
  ⟨hx, fun _ => hQ, fun z => by omega, fun z => by omega, fun z => by omega⟩
theorem x_setting (hx : rg x) (hP : ¬ (0 ≤ x ∧ x ≤ 11)) (hQ : Q 0 I J) : xp_X11_setting x I J Q :=
  ⟨hx, fun _ => hQ, fun z => by omega, fun z => by omega, fun z => by omega, fun z => by omega, fun z => by omega, fun z => by omega, fun z => by omega, fun z => by omega, fun z => by omega, fun z => by omega, fun z => by omega, fun z => by omega⟩
theorem x_weight (hV : VS σ) (hR : RG 200 I J σ nm) (hx : rg x) (hP : ¬ (0 ≤ x ∧ x < σ 0)) (hQ : Q 1 I J) : xp_X11_weight x I J Q := Or.inl (x_reqV hV hR hx hP hQ)
theorem x_partOf (hV : VS σ) (hR : RG 200 I J σ nm) (hx : rg x) (hP : ¬ (0 ≤ x ∧ x < σ 0)) (hQ : Q 1 I J) : xp_X11_partOf x I J Q := Or.inl (x_reqV hV hR hx hP hQ)
theorem x_groupOf (hV : VS σ) (hR : RG 200 I J σ nm) (hx : rg x) (hP : ¬ (0 ≤ x ∧ x < σ 0)) (hQ : Q 1 I J) : xp_X11_groupOf x I J Q := Or.inl (x_reqV hV hR hx hP hQ)
theorem x_between (hV : VS σ) (hR : RG 200 I J σ nm) (hx : rg x) (hy : rg y) (hP : ¬ ((0 ≤ x ∧ x < σ 0) ∧ (0 ≤ y ∧ y < σ 0))) (hQ : Q 1 I J) : xp_X11_between x y I J Q := by
  by_cases h1 : 0 ≤ x ∧ x < σ 0
  · exact Or.inr (reqV_of hV hR h1 (Or.inl (x_reqV hV hR hy (fun z => hP ⟨h1, z⟩) hQ)))
  · exact Or.inl (x_reqV hV hR hx h1 hQ)
theorem x_flow (hV : VS σ) (hR : RG 200 I J σ nm) (hx : rg x) (hy : rg y) (hP : ¬ ((0 ≤ x ∧ x < σ 0) ∧ (0 ≤ y ∧ y < σ 0))) (hQ : Q 1 I J) : xp_X11_flow x y I J Q := by
  by_cases h1 : 0 ≤ x ∧ x < σ 0
  · exact Or.inr (reqV_of hV hR h1 (Or.inl (x_reqV hV hR hy (fun z => hP ⟨h1, z⟩) hQ)))
  · exact Or.inl (x_reqV hV hR hx h1 hQ)
theorem x_side (hV : VS σ) (hR : RG 200 I J σ nm) (hx : rg x) (hy : rg y) (hP : ¬ ((0 ≤ x ∧ x < σ 0) ∧ (0 ≤ y ∧ y < σ 0))) (hQ : Q 1 I J) : xp_X11_side x y I J Q := by
  by_cases h1 : 0 ≤ x ∧ x < σ 0
  · exact Or.inr (reqV_of hV hR h1 (Or.inl (x_reqV hV hR hy (fun z => hP ⟨h1, z⟩) hQ)))
  · exact Or.inl (x_reqV hV hR hx h1 hQ)
theorem x_edge1 (hV : VS σ) (hR : RG 200 I J σ nm) (hx : rg x) (hP : ¬ (0 ≤ x ∧ x < σ 1)) (hQ : Q 1 I J) : xp_X11_edge x y I J Q := by
  have b1 := ms_1 hV.M
  have hm := hR.m
  exact ⟨hx, fun _ => hQ, fun c => ⟨rgK (by omega), fun z => by omega, fun _ => hQ⟩⟩
theorem x_edge2 (hV : VS σ) (hR : RG 200 I J σ nm) (hx : 0 ≤ x ∧ x < σ 1) (hy : rg y) (hP : ¬ (0 ≤ y ∧ y ≤ 3)) (hQ : Q 0 I J) : xp_X11_edge x y I J Q := by
  have b1 := ms_1 hV.M
  have hm := hR.m
  exact ⟨rgK (by omega), fun z => by omega, fun _ => ⟨rgK (by omega), fun _ => ⟨hy, fun _ => hQ, fun z => by omega, fun z => by omega, fun z => by omega, fun z => by omega⟩, fun z => by omega⟩⟩
theorem x_part1 (hV : VS σ) (hR : RG 200 I J σ nm) (hx : rg x) (hP : ¬ (0 ≤ x ∧ x < σ 2)) (hQ : Q 1 I J) : xp_X11_part x y I J Q := Or.inl (x_reqP hV hR hx hP hQ)
theorem x_part2 (hV : VS σ) (hR : RG 200 I J σ nm) (hS : RS 300 I σ) (hx : 0 ≤ x ∧ x < σ 2) (hy : rg y) (hP : ¬ (0 ≤ y ∧ y ≤ 4)) (hQ : ∀ I' J', Same W_X11_part I J I' J' → Q 0 I' J') : xp_X11_part x y I J Q :=
  Or.inr (reqP_of hV hR hx (fr_X4_take (c_take sK300 hV hR hS) (fun I3 J3 _ s3 => ⟨hy, fun _ => hQ _ _ ((Same.rf I J).trans s3 (WL_sub rfl)), fun z => by omega, fun z => by omega, fun z => by omega, fun z => by omega, fun z => by omega⟩)))
theorem x_group1 (hV : VS σ) (hS : RS 300 I σ) (hx : rg x) (hP : ¬ (0 ≤ x ∧ x < grs σ)) (hQ : Q 1 I J) : xp_X11_group x y I J Q := Or.inl (x_reqG hV hS hx hP hQ)
theorem x_group2 (hV : VS σ) (hR : RG 200 I J σ nm) (hS : RS 300 I σ) (hx : 0 ≤ x ∧ x < grs σ) (hy : rg y) (hP : ¬ (0 ≤ y ∧ y ≤ 3)) (hQ : ∀ I' J', Same W_X11_group I J I' J' → Q 0 I' J') : xp_X11_group x y I J Q :=
  Or.inr (reqG_of hV hS hx (fr_X4_take (c_take sK300 hV hR hS) (fun I3 J3 _ s3 => ⟨hy, fun _ => hQ _ _ ((Same.rf I J).trans s3 (WL_sub rfl)), fun z => by omega, fun z => by omega, fun z => by omega, fun z => by omega⟩)))
theorem x_mate (hV : VS σ) (hS : RS 300 I σ) (hx : rg x) (hP : ¬ (0 ≤ x ∧ x < grs σ)) (hQ : Q 1 I J) : xp_X11_mate x I J Q := Or.inl (x_reqG hV hS hx hP hQ)
theorem x_gain (hV : VS σ) (hR : RG 200 I J σ nm) (hS : RS 300 I σ) (hx : rg x) (hy : rg y) (hP : ¬ ((0 ≤ x ∧ x < grs σ) ∧ (0 ≤ y ∧ y < σ 2))) (hQ : Q 1 I J) : xp_X11_gain x y I J Q := by
  by_cases h1 : 0 ≤ x ∧ x < grs σ
  · exact Or.inr (reqG_of hV hS h1 (Or.inl (x_reqP hV hR hy (fun z => hP ⟨h1, z⟩) hQ)))
  · exact Or.inl (x_reqG hV hS hx h1 hQ)
theorem x_whyNotMove (hV : VS σ) (hR : RG 200 I J σ nm) (hS : RS 300 I σ) (hx : rg x) (hy : rg y) (hP : ¬ ((0 ≤ x ∧ x < grs σ) ∧ (0 ≤ y ∧ y < σ 2))) (hQ : Q 1 I J) : xp_X11_whyNotMove x y I J Q := by
  by_cases h1 : 0 ≤ x ∧ x < grs σ
  · exact Or.inr (reqG_of hV hS h1 (Or.inl (x_reqP hV hR hy (fun z => hP ⟨h1, z⟩) hQ)))
  · exact Or.inl (x_reqG hV hS hx h1 hQ)
theorem x_debtsIf (hV : VS σ) (hR : RG 200 I J σ nm) (hS : RS 300 I σ) (hx : rg x) (hy : rg y) (hP : ¬ ((0 ≤ x ∧ x < grs σ) ∧ (0 ≤ y ∧ y < σ 2))) (hQ : Q 1 I J) : xp_X11_debtsIf x y I J Q := by
  by_cases h1 : 0 ≤ x ∧ x < grs σ
  · exact Or.inr (reqG_of hV hS h1 (Or.inl (x_reqP hV hR hy (fun z => hP ⟨h1, z⟩) hQ)))
  · exact Or.inl (x_reqG hV hS hx h1 hQ)
theorem x_stepsToEnd (hx : rg x) (hP : ¬ (0 ≤ x ∧ x ≤ 200)) (hQ : Q 0 I J) : xp_X11_stepsToEnd x I J Q := Or.inl (x_reqT hx hP hQ)
theorem x_cutBehind (hx : rg x) (hP : ¬ (0 ≤ x ∧ x ≤ 200)) (hQ : Q 0 I J) : xp_X11_cutBehind x I J Q := Or.inl (x_reqT hx hP hQ)
theorem x_event1 (hV : VS σ) (hS : RS 300 I σ) (hx : rg x) (hP : ¬ (0 ≤ x ∧ x < kev σ)) (hQ : Q 1 I J) : xp_X11_event x y I J Q := by
  have kb := kev_b hV.M
  have he := hS.e
  exact ⟨hx, fun _ => hQ, fun c => ⟨rgK (by omega), fun z => by omega, fun _ => hQ⟩⟩
theorem x_event2 (hV : VS σ) (hS : RS 300 I σ) (hx : 0 ≤ x ∧ x < kev σ) (hy : rg y) (hP : ¬ (0 ≤ y ∧ y ≤ 3)) (hQ : Q 0 I J) : xp_X11_event x y I J Q := by
  have kb := kev_b hV.M
  have he := hS.e
  exact ⟨rgK (by omega), fun z => by omega, fun _ => ⟨rgK (by omega), fun _ => ⟨hy, fun _ => hQ, fun c => ⟨fun z => by omega, fun _ => hQ⟩⟩, fun z => by omega⟩⟩
theorem x_shrink (hV : VS σ) (hR : RG 200 I J σ nm) (hS : RS 300 I σ) (hP : σ 5 = 4 ∨ pairZ σ = 0) (hQ : ∀ I' J', Same W_X11_whyNotShrink I J I' J' → Q 2 I' J') : xp_X11_shrink I J Q := by
  refine fr_X11_whyNotShrink (c_whyNotShrink hV hR hS) (fun v I1 J1 hv s1 => ?_)
  have hv1 : v = 1 ∨ v = 2 := by
    rw [hv]
    by_cases c : σ 5 = 4
    · rw [if_pos c]; omega
    · rw [if_neg c, if_pos (hP.resolve_left c)]; omega
  exact ⟨rgK (by omega), fun z => by omega, fun _ => hQ _ _ s1⟩
theorem x_grow (hS : RS 300 I σ) (h5 : σ 5 = 0) (hQ : Q 2 I J) : xp_X11_grow I J Q := by
  have l5 := hS.l
  exact ⟨rgK (by omega), fun z => absurd (l5.trans h5) z, fun _ => hQ⟩
theorem x_move1 (hV : VS σ) (hR : RG 200 I J σ nm) (hS : RS 300 I σ) (hx : rg x) (hy : rg y) (hP : ¬ ((0 ≤ x ∧ x < grs σ) ∧ (0 ≤ y ∧ y < σ 2))) (hQ : Q 1 I J) : xp_X11_move x y I J Q := Or.inl (x_whyNotMove hV hR hS hx hy hP hQ)
theorem x_move2 (hV : VS σ) (hR : RG 200 I J σ nm) (hS : RS 300 I σ) (hx : 0 ≤ x ∧ x < grs σ) (hy : 0 ≤ y ∧ y < σ 2) (hP : wmZ σ x y ≠ 0) (hQ : ∀ I' J', Same W_X11_whyNotMove I J I' J' → Q 2 I' J') : xp_X11_move x y I J Q := by
  have hw := wmZ_b σ x y
  exact Or.inr (fr_X11_whyNotMove (c_whyNotMove hV hR hS hx hy) (fun v I1 J1 hv s1 => ⟨rgK (by omega), fun z => absurd (hv.symm.trans z) hP, fun _ => hQ _ _ s1⟩))
theorem x_steps (hx : rg x) (hP : ¬ (1 ≤ x ∧ x ≤ 99)) (hQ : Q 0 I J) : xp_X11_steps x I J Q :=
  ⟨hx, fun _ => ⟨fun z => absurd rfl z, fun _ => hQ⟩, fun c => ⟨fun _ => ⟨fun z => absurd rfl z, fun _ => hQ⟩, fun z => by omega⟩⟩
theorem x_placeBest (hV : VS σ) (hS : RS 300 I σ) (h7 : 7 < grs σ) (hQ : Q 2 I J) : xp_X11_placeBest I J Q := by
  have gr := grs_b hV.M
  exact groupCount_of sK300 hV hS ⟨rgK (by omega), fun _ => ⟨fun z => absurd rfl z, fun _ => hQ⟩, fun z => by omega⟩
theorem x_placeApart1 (hV : VS σ) (hR : RG 200 I J σ nm) (hx : rg x) (hy : rg y) (hP : ¬ ((0 ≤ x ∧ x < σ 0) ∧ (0 ≤ y ∧ y < σ 0))) (hQ : Q 1 I J) : xp_X11_placeApart x y I J Q := by
  by_cases h1 : 0 ≤ x ∧ x < σ 0
  · exact Or.inr (reqV_of hV hR h1 (Or.inl (x_reqV hV hR hy (fun z => hP ⟨h1, z⟩) hQ)))
  · exact Or.inl (x_reqV hV hR hx h1 hQ)
theorem x_placeApart2 (hV : VS σ) (hR : RG 200 I J σ nm) (hx : 0 ≤ x ∧ x < σ 0) (hy : 0 ≤ y ∧ y < σ 0) (hP : x = y) (hQ : Q 0 I J) : xp_X11_placeApart x y I J Q := by
  have b0 := ms_0 hV.M
  exact Or.inr (reqV_of hV hR hx (Or.inr (reqV_of hV hR hy ⟨rgK (by omega), rgK (by omega), fun z => absurd hP z, fun _ => hQ⟩)))
theorem x_placeApart3 (hV : VS σ) (hR : RG 200 I J σ nm) (hS : RS 300 I σ) (hx : 0 ≤ x ∧ x < σ 0) (hy : 0 ≤ y ∧ y < σ 0) (hxy : x ≠ y) (hP : ¬ (σ 2 = 2 ∧ σ 5 = 0)) (hQ : Q 2 I J) : xp_X11_placeApart x y I J Q := by
  have b0 := ms_0 hV.M
  have b2 := ms_2 hV.M
  have b5 := ms_5 hV.M
  have q2 := hR.q
  have l5 := hS.l
  exact Or.inr (reqV_of hV hR hx (Or.inr (reqV_of hV hR hy ⟨rgK (by omega), rgK (by omega), fun _ => ⟨rgK (by omega), fun _ => ⟨fun z => absurd rfl z, fun _ => hQ⟩, fun c => ⟨rgK (by omega), fun _ => ⟨fun z => absurd rfl z, fun _ => hQ⟩, fun z => absurd ⟨q2.symm.trans c, l5.symm.trans z⟩ hP⟩⟩, fun z => absurd z hxy⟩)))
theorem x_setCredit (hx : rg x) (hP : ¬ (0 ≤ x ∧ x ≤ 99)) (hQ : Q 0 I J) : xp_X11_setCredit x I J Q :=
  ⟨hx, fun _ => ⟨fun z => absurd rfl z, fun _ => hQ⟩, fun c => ⟨fun _ => ⟨fun z => absurd rfl z, fun _ => hQ⟩, fun z => by omega⟩⟩
theorem x_reportByte {R : List Int} (h : hlC I R) (hl : R.length ≤ 152) (hx : rg x) (hP : ¬ (0 ≤ x ∧ x < (R.length : Int))) (hQ : Q 1 I J) : xp_X11_reportByte x I J Q := by
  have h1 := h.1
  exact ⟨hx, fun _ => hQ, fun c => ⟨rgK (by omega), fun z => by omega, fun _ => hQ⟩⟩
theorem x_restore (h : I 100 10 = 0) (hQ : Q 2 I J) : xp_X11_restore I J Q :=
  ⟨rgK (by omega), fun z => absurd h z, fun _ => hQ⟩
/-- what a text that is refused leaves -/
def W_rdX : Nat → Nat → Prop := WL [(101, 1), (101, 2), (101, 3), (101, 4), (101, 5), (101, 6), (101, 7), (101, 8), (101, 9), (101, 10), (101, 11), (103, 0), (210, 1000), (211, 1000), (212, 1000), (213, 1000), (214, 1000), (215, 1000), (105, 1000), (106, 4), (106, 5), (107, 1000), (108, 1000), (109, 1000)]
theorem x_readText {B : Nat → Int} {E : Nat} {σ0 : Nat → Int} {nm0 : Nat → Int64} {e : Int × Nat} (hz : Z0 σ0) (h1 : I 101 1 = (E : Int)) (hB : ∀ i, i < E → I 102 i = B i) (hE : E ≤ 800) (hb : ∀ i, i < E → 0 ≤ B i ∧ B i ≤ 255) (hx : txt B E (E + 1) (σ0, nm0, 0, 0) = .error e) (hQ : ∀ I' J', Same W_rdX I J I' J' → CE e.1 e.2 0 I' → I' 101 1 = 0 → Q 0 I' J') : xp_X11_readText I J Q := by
  refine fr_X10_begin (c_begin h1 hB hE hb) (fun I1 J1 q1 s1 => ?_)
  obtain ⟨q1, p1, -⟩ := q1
  refine fr_X9_read (c_read (nm := nm0) hz q1) (fun v2 I2 J2 h2 s2 => ?_)
  rw [hx] at h2
  obtain ⟨hv, hc⟩ : v2 = 0 ∧ CE e.1 e.2 0 I2 := h2
  exact ⟨fun z => absurd hv z, fun _ => hQ _ _ (((Same.rf I J).trans s1 (WL_sub rfl)).trans s2 (WL_sub rfl)) hc (s2.i.trans p1)⟩
theorem x_runScript {B : Nat → Int} {E : Nat} {e : Int × Nat × Nat} (hM : MS σ) (hd : ND nm (σ 0).toNat) (hR : RG 200 I J σ nm) (h1 : I 101 1 = (E : Int)) (hB : ∀ i, i < E → I 102 i = B i) (hE : E ≤ 800) (hb : ∀ i, i < E → 0 ≤ B i ∧ B i ≤ 255) (hx : scr B E nm (σ 0).toNat (E + 1) S0 = .error e) (hQ : ∀ I' J', Same W_rdX I J I' J' → CE e.1 e.2.1 e.2.2 I' → I' 101 1 = 0 → Q 0 I' J') : xp_X11_runScript I J Q := by
  refine fr_X10_begin (c_begin h1 hB hE hb) (fun I1 J1 q1 s1 => ?_)
  obtain ⟨q1, p1, -⟩ := q1
  have hR1 := hR.fr s1
  refine fr_X7_read (c_readScript (K := fun _ => 0) (A := fun _ => 0) (C := fun _ => 0) (O := fun _ => 0) hM hd hR1 q1) (fun v2 I2 J2 h2 s2 => ?_)
  have h2' : CQF (scr B E nm (σ 0).toNat (E + 1) S0) v2 I2 := h2
  rw [hx] at h2'
  obtain ⟨hv, hc⟩ : v2 = 0 ∧ CE e.1 e.2.1 e.2.2 I2 := h2'
  exact ⟨fun z => absurd hv z, fun _ => hQ _ _ (((Same.rf I J).trans s1 (WL_sub rfl)).trans s2 (WL_sub rfl)) hc (s2.i.trans p1)⟩
end XS
