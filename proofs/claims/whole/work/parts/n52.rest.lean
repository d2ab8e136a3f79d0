/-! ===== one call: the rest ===== -/
section STE
variable {n : Nat} {I : Ii} {J : Jj} {x y : Int}
theorem st_placeApart (h : Inv n I J) (hn : n ≤ 600) (hx : rg x) (hy : rg y) : wpx_X11_placeApart x y I J (MX (wp_X12_placeApart x y) n cdA) (MN (wp_X12_placeApart x y) n) := by
  obtain ⟨hV, hT, hT7, hD, hNm, hE, hR, hS⟩ := h.1
  obtain ⟨u, nw, hu, hH, hq⟩ := h.2.1
  obtain ⟨t3, t5, t6, t8, t9⟩ := h.2.2.2.2.2.2
  have hu6 := hH.2.2.1
  have b0 := ms_0 hV.M
  by_cases hP : (0 ≤ x ∧ x < I 2 0) ∧ (0 ≤ y ∧ y < I 2 0)
  · by_cases hxy : x = y
    · refine Or.inl (x_placeApart2 hV hR hP.1 hP.2 hxy ?_)
      refine mx_of (by decide) ?_
      refine fr_X12_placeApart (s_placeApart (u := u) (T := 0) (s := 0) hV hx hy hT t5 hu hu6 (by omega) (fun _ z _ => absurd hxy z)) (fun b I2 J2 hb s2 => ?_)
      rcases hb with ⟨-, hb, -⟩ | ⟨hb, -⟩ | ⟨-, -, hc⟩ | ⟨-, hb, -⟩
      · exact absurd hxy hb
      · exact absurd hP hb
      · exact ⟨hc.1, (h.nc hc (ag_of s2 rfl)).mono⟩
      · exact absurd hxy hb
    · by_cases hm : I 2 2 = 2 ∧ I 2 5 = 0
      · refine Or.inr (fr_X11_placeApart (c_placeApart hV hR hS hH hP.1 hP.2 hxy hm.1 hm.2 (by omega)) (fun r I1 J1 hr s1 => ?_))
        obtain ⟨T1, s1', hF1, hr, hS1, hN1⟩ := hr
        intro J1' hJ
        have e2 : I1 2 = I 2 := s1.k
        have e5 : I1 5 = I 5 := s1.k
        have e23 : I1 0 23 = I 0 23 := s1.i
        have g5 : grs (I 2) = I 2 0 := by
          unfold grs
          rw [hm.2]
          exact hV.n0
        have hb2 : ∀ i : Nat, (i : Int) < grs (I 2) → 0 ≤ (fun g => if s1'.testBit g = true then (0 : Int) else 1) i ∧ (fun g => if s1'.testBit g = true then (0 : Int) else 1) i < I 2 2 := fun i _ => by
          dsimp only
          split <;> omega
        have hk := plZ_keeps hV hb2 (by omega) (I 2 0).toNat (by omega)
        have ht := plZ_Tl hV hb2 (by omega) hT (I 2 0).toNat (by omega)
        refine fr_X12_placeApart (s_placeApart (u := u) (T := T1) (s := s1') (by rw [e2]; exact hV) hx hy (by rw [e2]; exact hT) (by rw [e5]; exact t5) (e23.trans hu) hu6 (by rw [e2]; omega) (fun _ _ _ => by rw [e2]; exact hF1)) (fun b I2 J2 hb s2 => ?_)
        rw [e2] at hb
        rcases hb with ⟨-, -, -, hb, hc⟩ | ⟨hb, -⟩ | ⟨-, hb, -⟩ | ⟨-, -, hb, -⟩
        · exact ⟨hc.1, by rw [hb, hr], s2.kJ, h.chg hu6 hq (ag_of s1 rfl) hJ (ag_of s2 rfl) (ag_of s2 rfl) hk.1 ht hk.2.1 (by have := hk.2.2.2.2.1; omega) hS1 hN1 hc⟩
        · exact absurd hP hb
        · exact absurd hb hxy
        · exact absurd hm hb
      · refine Or.inl (x_placeApart3 hV hR hS hP.1 hP.2 hxy hm ?_)
        refine mx_of (by decide) ?_
        refine fr_X12_placeApart (s_placeApart (u := u) (T := 0) (s := 0) hV hx hy hT t5 hu hu6 (by omega) (fun _ _ z => absurd z hm)) (fun b I2 J2 hb s2 => ?_)
        rcases hb with ⟨-, -, hb, -⟩ | ⟨hb, -⟩ | ⟨-, hb, -⟩ | ⟨-, -, -, hc⟩
        · exact absurd hb hm
        · exact absurd hP hb
        · exact absurd hb hxy
        · exact ⟨hc.1, (h.nc hc (ag_of s2 rfl)).mono⟩
  · refine Or.inl (x_placeApart1 hV hR hx hy hP ?_)
    refine mx_of (by decide) ?_
    refine fr_X12_placeApart (s_placeApart (u := u) (T := 0) (s := 0) hV hx hy hT t5 hu hu6 (by omega) (fun z _ _ => absurd z hP)) (fun b I2 J2 hb s2 => ?_)
    rcases hb with ⟨hb, -⟩ | ⟨-, hc⟩ | ⟨hb, -⟩ | ⟨hb, -⟩
    · exact absurd hb hP
    · exact ⟨hc.1, (h.nc hc (ag_of s2 rfl)).mono⟩
    · exact absurd hb hP
    · exact absurd hb hP
theorem st_step (h : Inv n I J) (hn : n ≤ 600) : wp_X11_step I J (fun r I1 J1 => wp_X12_step I1 J1 (fun b I2 J2 => b = r ∧ Inv (n + 1) I2 J2)) := by
  obtain ⟨hV, hT, hT7, hD, hNm, hE, hR, hS⟩ := h.1
  obtain ⟨u, nw, hu, hH, hq⟩ := h.2.1
  obtain ⟨t3, t5, t6, t8, t9⟩ := h.2.2.2.2.2.2
  have hu6 := hH.2.2.1
  refine fr_X11_step (c_step hV hR hS hH (by omega)) (fun r I1 J1 hr s1 => ?_)
  have e2 : I1 2 = I 2 := s1.k
  have e4 : I1 4 = I 4 := s1.k
  have e5 : I1 5 = I 5 := s1.k
  have e23 : I1 0 23 = I 0 23 := s1.i
  refine fr_X12_step (s_step (u := u) (by rw [e2]; exact hV) (by rw [e2]; exact hT) (by rw [e5]; exact t5) (e23.trans hu) hu6 (by rw [e2]; omega)) (fun b I2 J2 hb s2 => ?_)
  rw [e2] at hb
  rcases hb with ⟨hnx, hb, hc⟩ | ⟨hnx, hb, z0, z2, z5, z4, z23⟩
  · obtain ⟨hr, hS1, hN1⟩ := hr.2 hnx
    have hs := VS_stp 1 hV (by omega)
    have hk := stpZ_keeps 1 hV.M hV.GV (by omega)
    exact ⟨by rw [hb, hr], h.chg (J1' := J1) hu6 hq (ag_of s1 rfl) (fun _ _ => rfl) (ag_of s2 rfl) (ag_of s2 rfl) hs.1 (stpZ_Tl 1 hV (by omega) hT) hs.2 (by have := hk.2.2.1; omega) hS1 hN1 hc⟩
  · obtain ⟨hr, hS1, hH1⟩ := hr.1 hnx
    have a : ag kC pC jC I J I2 J2 := (ag_of (ks := kC) (ps := pC) (js := jC) s1 rfl).trans (ag_of s2 rfl)
    have a3 : ag (k3s ++ kRg) [] [] I1 J1 I2 J2 := ag_of s2 rfl
    rw [e4] at z4
    refine ⟨by rw [hb, hr], h.build a z2 hV hT (GE.refl _) (by omega) (hS1.cong (a3.1 300 (by decide)) (a3.1 301 (by decide)) (a3.1 302 (by decide)) (a3.1 303 (by decide)) (a3.1 304 (by decide))) (by rw [z5]; exact hT) ⟨u, nw, z23.trans (e23.trans hu), by rw [z4]; exact HR_ag hH1 (a3.sub rfl rfl rfl), fun i hi => ?_⟩⟩
    rw [z2, z4]
    have := hq i hi
    exact ⟨this.1, this.2.1, by have := this.2.2; omega⟩
end STE
