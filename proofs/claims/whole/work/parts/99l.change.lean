/-! ===== changes: the class ===== -/
theorem HN_same {I I' : Ii} {u : Nat} {pf : Nat → Nat → Int} {σ : Nat → Int} (h : HN I u pf σ) (e : I' 111 = I 111) (ek : ∀ m, m < 6 → I' (330 + 10 * m) = I (330 + 10 * m) ∧ I' (330 + 10 * m + 1) = I (330 + 10 * m + 1) ∧ I' (330 + 10 * m + 2) = I (330 + 10 * m + 2) ∧ I' (330 + 10 * m + 3) = I (330 + 10 * m + 3) ∧ I' (330 + 10 * m + 4) = I (330 + 10 * m + 4)) : HN I' u pf σ := by
  obtain ⟨nw', g1, g2⟩ := h
  exact ⟨nw', fun hu pf' e1 e2 => HR_same (g1 hu pf' e1 e2) e ek, fun hu pf' e1 e2 => HR_same (g2 hu pf' e1 e2) e ek⟩
theorem HN_up {I I' : Ii} {u : Nat} {pf : Nat → Nat → Int} {σ : Nat → Int} {i : Nat} {v : Int} (h : HN I u pf σ) (e : I' = up2 I 300 i v) : HN I' u pf σ :=
  HN_same h (by rw [e, up2_key (by omega)]) (fun m _ => ⟨by rw [e, up2_key (by omega)], by rw [e, up2_key (by omega)], by rw [e, up2_key (by omega)], by rw [e, up2_key (by omega)], by rw [e, up2_key (by omega)]⟩)
section CHG
variable {I : Ii} {J : Jj} {σ : Nat → Int} {nm : Nat → Int64} {u nw : Nat} {pf : Nat → Nat → Int}
theorem c_setCredit {a : Int} (hV : VS σ) (hS : RS 300 I σ) (hH : HR I u nw pf) (ha : 0 ≤ a ∧ a ≤ 99) : wp_X11_setCredit a I J (fun r I' _ => r = σ 4 ∧ RS 300 I' (updr σ 4 a) ∧ HN I' u pf σ) := by
  refine ⟨rgK (by omega), fun z => by omega, fun _ => ⟨fun z => by omega, fun _ => ⟨fun _ => ?_, fun z => absurd z (by decide)⟩⟩⟩
  refine fr_X3_keep (c_keep hV hS hH) (fun I2 J2 h2 s2 => ?_)
  intro I3 e3
  have hS2 := hS.fr s2
  exact ⟨hS2.c, RS_cred hS2 e3, HN_up h2 e3⟩
theorem c_grow (hV : VS σ) (hS : RS 300 I σ) (hH : HR I u nw pf) (h5 : 0 < σ 5) : wp_X11_grow I J (fun r I' _ => r = grs (updr σ 5 (σ 5 - 1)) ∧ RS 300 I' (updr σ 5 (σ 5 - 1)) ∧ HN I' u pf σ) := by
  have b5 := ms_5 hV.M
  have l5 := hS.l
  refine ⟨rgK (by omega), fun _ => ?_, fun z => by omega⟩
  refine fr_X3_keep (c_keep hV hS hH) (fun I2 J2 h2 s2 => ?_)
  intro I3 e3
  have hS2 := hS.fr s2
  have hS3 : RS 300 I3 (updr σ 5 (σ 5 - 1)) := RS_grow hV.M h5 hS2 (by rw [e3, up2_row, hS2.l]) (by rw [e3, up2_key (by omega)]) (by rw [e3, up2_key (by omega)]) (by rw [e3, up2_key (by omega)]) (by rw [e3, up2_key (by omega)])
  exact groupCount_of sK300 (growZ_VS hV h5) hS3 ⟨rfl, hS3, HN_up h2 e3⟩
theorem c_shrink (hV : VS σ) (hR : RG 200 I J σ nm) (hS : RS 300 I σ) (hH : HR I u nw pf) (h4 : σ 5 ≠ 4) (hp : pairZ σ ≠ 0) : wp_X11_shrink I J (fun r I' _ => r = grs (shZ σ) ∧ RS 300 I' (shZ σ) ∧ HN I' u pf σ) := by
  have b5 := ms_5 hV.M
  refine fr_X11_whyNotShrink (c_whyNotShrink hV hR hS) (fun v I1 J1 hv s1 => ?_)
  rw [if_neg h4, if_neg hp] at hv
  subst hv
  refine ⟨rgK (by omega), fun _ => ?_, fun z => absurd rfl z⟩
  have hH1 : HR I1 u nw pf := HR_same hH s1.k (fun m hm => by
    have : m = 0 ∨ m = 1 ∨ m = 2 ∨ m = 3 ∨ m = 4 ∨ m = 5 := by omega
    rcases this with rfl | rfl | rfl | rfl | rfl | rfl <;> exact ⟨s1.k, s1.k, s1.k, s1.k, s1.k⟩)
  refine fr_X3_keep (c_keep hV (hS.fr s1) hH1) (fun I3 J3 h3 s3 => ?_)
  refine fr_X11_mergeGroups (c_mergeGroups hV (by omega) ((hR.fr s1).fr s3) ((hS.fr s1).fr s3)) (fun I4 J4 h4' s4 => ?_)
  refine groupCount_of sK300 (shZ_VS hV (by omega)) h4' ⟨rfl, h4', HN_same h3 s4.k (fun m hm => ?_)⟩
  have : m = 0 ∨ m = 1 ∨ m = 2 ∨ m = 3 ∨ m = 4 ∨ m = 5 := by omega
  rcases this with rfl | rfl | rfl | rfl | rfl | rfl <;> exact ⟨s4.k, s4.k, s4.k, s4.k, s4.k⟩
end CHG
