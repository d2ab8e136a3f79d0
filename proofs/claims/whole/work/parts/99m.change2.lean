/-! ===== changes: the class, moves and steps ===== -/
section CHH
variable {I : Ii} {J : Jj} {σ : Nat → Int} {nm : Nat → Int64} {u nw : Nat} {pf : Nat → Nat → Int} {x y : Int}
theorem c_move (hV : VS σ) (hR : RG 200 I J σ nm) (hS : RS 300 I σ) (hH : HR I u nw pf) (hx : 0 ≤ x ∧ x < grs σ) (hy : 0 ≤ y ∧ y < σ 2) (hw : wmZ σ x y = 0) (h6 : σ 6 < 1000000000) : wp_X11_move x y I J (fun r I' _ => r = cutZ (comesZ σ x y) ∧ RS 300 I' (comesZ σ x y) ∧ HN I' u pf σ) := by
  have hne : gPt σ ((x.toNat : Nat) : Int) ≠ ((y.toNat : Nat) : Int) := by
    rw [show ((x.toNat : Nat) : Int) = x by omega, show ((y.toNat : Nat) : Int) = y by omega]
    intro z
    unfold wmZ at hw
    rw [if_pos z] at hw
    omega
  refine fr_X11_whyNotMove (c_whyNotMove hV hR hS hx hy) (fun v I1 J1 hv s1 => ?_)
  rw [hw] at hv
  subst hv
  refine ⟨rgK (by omega), fun _ => ?_, fun z => absurd rfl z⟩
  have hH1 : HR I1 u nw pf := HR_same hH s1.k (fun m hm => by
    have : m = 0 ∨ m = 1 ∨ m = 2 ∨ m = 3 ∨ m = 4 ∨ m = 5 := by omega
    rcases this with rfl | rfl | rfl | rfl | rfl | rfl <;> exact ⟨s1.k, s1.k, s1.k, s1.k, s1.k⟩)
  refine fr_X3_keep (c_keep hV (hS.fr s1) hH1) (fun I3 J3 h3 s3 => ?_)
  have hR3 := (hR.fr s1).fr s3
  have ct := c_takeTo (x := x) (y := y) hV hR3 ((hS.fr s1).fr s3) (g := x.toNat) (p := y.toNat) (by omega) (by omega) (by omega) (by omega) hne
  rw [show ((x.toNat : Nat) : Int) = x by omega, show ((y.toNat : Nat) : Int) = y by omega] at ct
  refine fr_X11_takeTo ct (fun I4 J4 h4 s4 => ?_)
  have hR4 := (hR3.fr s4).ge (comesZ_GE (g := x) (p := y) hV.M) hV.M
  refine fr_X11_cut (c_cut (VS_comes hV hx hy h6) hR4 h4) (fun r I5 J5 h5 s5 => ⟨h5, h4.fr s5, ?_⟩)
  have hN4 : HN I4 u pf σ := HN_same h3 s4.k (fun m hm => by
    have : m = 0 ∨ m = 1 ∨ m = 2 ∨ m = 3 ∨ m = 4 ∨ m = 5 := by omega
    rcases this with rfl | rfl | rfl | rfl | rfl | rfl <;> exact ⟨s4.k, s4.k, s4.k, s4.k, s4.k⟩)
  refine HN_same hN4 s5.k (fun m hm => ?_)
  have : m = 0 ∨ m = 1 ∨ m = 2 ∨ m = 3 ∨ m = 4 ∨ m = 5 := by omega
  rcases this with rfl | rfl | rfl | rfl | rfl | rfl <;> exact ⟨s5.k, s5.k, s5.k, s5.k, s5.k⟩
theorem c_steps {m : Nat} (hV : VS σ) (hR : RG 200 I J σ nm) (hS : RS 300 I σ) (hH : HR I u nw pf) (hm : 1 ≤ m ∧ m ≤ 99) (h6 : σ 6 + 99 ≤ 1000000000) (hx : x = (m : Int)) : wp_X11_steps x I J (fun r I' _ => r = ((stpZ m σ).1 : Int) ∧ RS 300 I' (stpZ m σ).2 ∧ HN I' u pf σ) := by
  subst hx
  refine ⟨rgK (by omega), fun z => by omega, fun _ => ⟨fun z => by omega, fun _ => ⟨fun _ => ?_, fun z => absurd z (by decide)⟩⟩⟩
  refine fr_X3_keep (c_keep hV hS hH) (fun I3 J3 h3 s3 => ?_)
  refine fr_X11_makeSteps (c_makeSteps (Or.inl rfl) (by omega) hV (hR.fr s3) (hS.fr s3) (by omega)) (fun v I4 J4 h4 s4 => ⟨h4.1, h4.2, HN_same h3 s4.k (fun m hm => ?_)⟩)
  have : m = 0 ∨ m = 1 ∨ m = 2 ∨ m = 3 ∨ m = 4 ∨ m = 5 := by omega
  rcases this with rfl | rfl | rfl | rfl | rfl | rfl <;> exact ⟨s4.k, s4.k, s4.k, s4.k, s4.k⟩
end CHH
