/-! ===== changes: a step of the class ===== -/
section CHJ
variable {I : Ii} {J : Jj} {σ : Nat → Int} {nm : Nat → Int64} {u nw : Nat} {pf : Nat → Nat → Int}
theorem c_step (hV : VS σ) (hR : RG 200 I J σ nm) (hS : RS 300 I σ) (hH : HR I u nw pf) (h6 : σ 6 < 1000000000) : wp_X11_step I J (fun r I' _ => (nxZ σ = -1 → r = -1 ∧ RS 300 I' σ ∧ HR I' u nw pf) ∧ (nxZ σ ≠ -1 → r = cutZ (stpZ 1 σ).2 ∧ RS 300 I' (stpZ 1 σ).2 ∧ HN I' u pf σ)) := by
  have nb := nxZ_b hV.M
  refine fr_X11_nextStep (c_nextStep hV hR hS) (fun v I1 J1 hv s1 => ?_)
  subst hv
  have hH1 : HR I1 u nw pf := HR_same hH s1.k (fun m hm => by
    have : m = 0 ∨ m = 1 ∨ m = 2 ∨ m = 3 ∨ m = 4 ∨ m = 5 := by omega
    rcases this with rfl | rfl | rfl | rfl | rfl | rfl <;> exact ⟨s1.k, s1.k, s1.k, s1.k, s1.k⟩)
  refine ⟨rgK (by omega), fun c => ?_, fun c => ⟨fun _ => ⟨rfl, hS.fr s1, hH1⟩, fun z => absurd c z⟩⟩
  refine fr_X3_keep (c_keep hV (hS.fr s1) hH1) (fun I3 J3 h3 s3 => ?_)
  have hR3 := (hR.fr s1).fr s3
  refine fr_X11_makeSteps (c_makeSteps (Or.inl rfl) (m := 1) (by omega) hV hR3 ((hS.fr s1).fr s3) (by omega)) (fun v I4 J4 h4 s4 => ?_)
  have hs := VS_stp 1 hV (by omega)
  have hR4 := (hR3.fr s4).ge hs.2 hV.M
  refine fr_X11_cut (c_cut hs.1 hR4 h4.2) (fun r I5 J5 h5 s5 => ⟨fun z => absurd z c, fun _ => ⟨h5, h4.2.fr s5, ?_⟩⟩)
  have hN4 : HN I4 u pf σ := HN_same h3 s4.k (fun m hm => by
    have : m = 0 ∨ m = 1 ∨ m = 2 ∨ m = 3 ∨ m = 4 ∨ m = 5 := by omega
    rcases this with rfl | rfl | rfl | rfl | rfl | rfl <;> exact ⟨s4.k, s4.k, s4.k, s4.k, s4.k⟩)
  refine HN_same hN4 s5.k (fun m hm => ?_)
  have : m = 0 ∨ m = 1 ∨ m = 2 ∨ m = 3 ∨ m = 4 ∨ m = 5 := by omega
  rcases this with rfl | rfl | rfl | rfl | rfl | rfl <;> exact ⟨s5.k, s5.k, s5.k, s5.k, s5.k⟩
end CHJ
