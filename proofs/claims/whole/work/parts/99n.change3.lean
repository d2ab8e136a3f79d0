/-! ===== changes: the class, placing and a step ===== -/
section CHI
variable {I : Ii} {J : Jj} {σ : Nat → Int} {nm : Nat → Int64} {u nw : Nat} {pf : Nat → Nat → Int} {x y : Int}
theorem c_placeBest (hV : VS σ) (hR : RG 200 I J σ nm) (hS : RS 300 I σ) (hH : HR I u nw pf) (h7 : grs σ ≤ 7) (h6 : σ 6 + 14 ≤ 1000000000) : wp_X11_placeBest I J (fun r I' _ => ∃ b : Nat → Nat, FB σ b ∧ r = ((plZ σ (fun g => (b g : Int)) (grs σ).toNat).2 : Int) ∧ RS 300 I' (plZ σ (fun g => (b g : Int)) (grs σ).toNat).1 ∧ HN I' u pf σ) := by
  have gr := grs_b hV.M
  refine groupCount_of sK300 hV hS ⟨rgK (by omega), fun z => by omega, fun _ => ⟨fun _ => ?_, fun z => absurd z (by decide)⟩⟩
  refine fr_X3_keep (c_keep hV hS hH) (fun I3 J3 h3 s3 => ?_)
  have hR3 := hR.fr s3
  have hS3 := hS.fr s3
  refine fr_X11_searchBest (c_searchBest hV h7 hR3 hS3) (fun I7 J7 h7' s7 => ?_)
  obtain ⟨hE, b, hF, -, -, hb⟩ := h7'
  refine fr_X11_takeBest (c_takeBest hV h7 h6 (hR3.fr s7) (hS3.fr s7) hF.1 (fun g hg => (hE.2.2.2.2.2.2.1 g hg).2.2) hb) (fun v I4 J4 h4 s4 => ⟨b, hF, h4.1, h4.2, ?_⟩)
  have hN7 : HN I7 u pf σ := HN_same h3 s7.k (fun m hm => by
    have : m = 0 ∨ m = 1 ∨ m = 2 ∨ m = 3 ∨ m = 4 ∨ m = 5 := by omega
    rcases this with rfl | rfl | rfl | rfl | rfl | rfl <;> exact ⟨s7.k, s7.k, s7.k, s7.k, s7.k⟩)
  refine HN_same hN7 s4.k (fun m hm => ?_)
  have : m = 0 ∨ m = 1 ∨ m = 2 ∨ m = 3 ∨ m = 4 ∨ m = 5 := by omega
  rcases this with rfl | rfl | rfl | rfl | rfl | rfl <;> exact ⟨s4.k, s4.k, s4.k, s4.k, s4.k⟩
theorem c_placeApart (hV : VS σ) (hR : RG 200 I J σ nm) (hS : RS 300 I σ) (hH : HR I u nw pf) (hx : 0 ≤ x ∧ x < σ 0) (hy : 0 ≤ y ∧ y < σ 0) (hxy : x ≠ y) (h2 : σ 2 = 2) (h5 : σ 5 = 0) (h6 : σ 6 + 14 ≤ 1000000000) : wp_X11_placeApart x y I J (fun r I' _ => ∃ T s, FLW σ x.toNat y.toNat T s ∧ r = ((plZ σ (fun g => if s.testBit g = true then 0 else 1) (σ 0).toNat).2 : Int) ∧ RS 300 I' (plZ σ (fun g => if s.testBit g = true then 0 else 1) (σ 0).toNat).1 ∧ HN I' u pf σ) := by
  have b0 := ms_0 hV.M
  have q2 := hR.q
  have l5 := hS.l
  refine reqV_of hV hR hx (reqV_of hV hR hy ⟨rgK (by omega), rgK (by omega), fun _ => ?_, fun z => absurd z hxy⟩)
  refine ⟨rgK (by omega), fun z => by omega, fun _ => ⟨rgK (by omega), fun z => by omega, fun _ => ⟨fun _ => ?_, fun z => absurd z (by decide)⟩⟩⟩
  refine fr_X3_keep (c_keep hV hS hH) (fun I3 J3 h3 s3 => ?_)
  refine fr_X11_takeApart (c_takeApart hV h2 h5 h6 (hR.fr s3) (hS.fr s3) (v := x.toNat) (w := y.toNat) (by omega) (by omega) (by omega) (by omega) (by omega)) (fun v I4 J4 h4 s4 => ?_)
  obtain ⟨T, s, hF, hr, hS'⟩ := h4
  refine ⟨T, s, hF, hr, hS', HN_same h3 s4.k (fun m hm => ?_)⟩
  have : m = 0 ∨ m = 1 ∨ m = 2 ∨ m = 3 ∨ m = 4 ∨ m = 5 := by omega
  rcases this with rfl | rfl | rfl | rfl | rfl | rfl <;> exact ⟨s4.k, s4.k, s4.k, s4.k, s4.k⟩
end CHI
