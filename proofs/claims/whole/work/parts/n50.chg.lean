/-! ===== one call: the changes ===== -/
abbrev kRg : List Nat := [111, 330, 331, 332, 333, 334, 340, 341, 342, 343, 344, 350, 351, 352, 353, 354, 360, 361, 362, 363, 364, 370, 371, 372, 373, 374, 380, 381, 382, 383, 384]
abbrev k3s : List Nat := [300, 301, 302, 303, 304]
abbrev kC : List Nat := [3, 6, 1, 102, 21, 132, 200, 202, 203, 204, 205, 220, 222, 223, 224, 225, 320, 321, 322, 323, 324]
abbrev pC : List (Nat × Nat) := [(0, 24), (100, 10), (0, 2), (101, 1), (0, 11), (0, 12), (0, 13), (101, 9), (101, 10), (101, 11), (0, 46), (0, 47), (100, 17)]
abbrev jC : List Nat := [7, 201, 8, 221, 9]
section STC
variable {n u nw : Nat} {I I1 I2 : Ii} {J J1 J2 : Jj} {τ : Nat → Int}
theorem ag.sub {ks ks' js js' : List Nat} {ps ps' : List (Nat × Nat)} {I I' : Ii} {J J' : Jj} (h : ag ks ps js I J I' J') (h1 : (ks'.all fun q => decide (q ∈ ks)) = true) (h2 : (ps'.all fun q => decide (q ∈ ps)) = true) (h3 : (js'.all fun q => decide (q ∈ js)) = true) : ag ks' ps' js' I J I' J' :=
  ⟨fun q hq => h.1 q (of_decide_eq_true (List.all_eq_true.mp h1 q hq)), fun q hq => h.2.1 q (of_decide_eq_true (List.all_eq_true.mp h2 q hq)), fun q hq => h.2.2 q (of_decide_eq_true (List.all_eq_true.mp h3 q hq))⟩
/-- a change of the row: the graph stays -/
theorem Inv.build (h : Inv n I J) (a : ag kC pC jC I J I2 J2) (e2 : I2 2 = τ) (hV : VS τ) (hT : Tl 350 τ) (hG : GE (I 2) τ) (h6 : τ 6 ≤ 5000 * ((n + 1 : Nat) : Int)) (hS : RS 300 I2 τ) (h5 : Tl 350 (I2 5)) (hH : IH (n + 1) I2) : Inv (n + 1) I2 J2 := by
  obtain ⟨⟨g1, g2, g3, g4, g5, g6, g7, g8⟩, h2, h3, h4, hE, hR, t3, t5, t6, t8, t9⟩ := h
  have e7 := a.2.2 7 (by decide)
  have e0 : τ 0 = I 2 0 := hG 0 (Or.inl (by omega))
  refine ⟨⟨by rw [e2]; exact hV, by rw [e2]; exact hT, by rw [e7]; exact g3, by rw [e2, e7, e0]; exact g4, by rw [e2, e7, e0]; exact g5, by rw [e2]; exact h6, ?_, by rw [e2]; exact hS⟩, hH, h3.mono.ag (a.sub rfl rfl rfl), h4.ag (a.sub rfl rfl rfl), hE.ag (a.sub rfl rfl rfl), hR.ag (a.sub rfl rfl rfl), ?_⟩
  · rw [e2, e7]
    exact (g7.ge hG g1.M).cong (a.1 200 (by decide)) (a.2.2 201 (by decide)) (a.1 202 (by decide)) (a.1 203 (by decide)) (a.1 204 (by decide)) (a.1 205 (by decide))
  · unfold ITl
    rw [a.1 3 (by decide), a.1 6 (by decide), a.2.2 8 (by decide), a.2.2 9 (by decide)]
    exact ⟨t3, h5, t6, t8, t9⟩
/-- the history behind a change -/
theorem IH_chg {σ : Nat → Int} (hu6 : u ≤ 6) (hq : IHq n u σ (seg (I 4))) (hVs : VS σ) (hsb : σ 6 ≤ 5000 * (n : Int)) (hG : GE σ τ) (hN : HN I1 u (seg (I 4)) σ) (a : ag kRg [] [] I1 J1 I2 J2) (e4 : I1 4 = I 4) (hk : KPs u σ I1 I2) (e2 : I2 2 = τ) : IH (n + 1) I2 := by
  obtain ⟨nw', g1, g2⟩ := hN
  obtain ⟨k1, k2⟩ := hk
  rw [e4] at k1 k2
  rcases Nat.lt_or_ge u 6 with c | c
  · obtain ⟨q1, q2, q3⟩ := k1 c
    refine ⟨u + 1, nw', by rw [q1]; omega, HR_ag (g1 c _ q3 q2) a, fun i hi => ?_⟩
    rw [e2]
    by_cases d : i = u
    · rw [d, q2]; exact ⟨hVs, hG.symm, by omega⟩
    · rw [q3 i (by omega)]
      have := hq i (by omega)
      exact ⟨this.1, hG.symm.trans this.2.1, by have := this.2.2; omega⟩
  · have c6 : u = 6 := by omega
    obtain ⟨q1, q2, q3⟩ := k2 c6
    refine ⟨6, nw', q1, HR_ag (g2 c6 _ q3 q2) a, fun i hi => ?_⟩
    rw [e2]
    by_cases d : i = 5
    · rw [d, q2]; exact ⟨hVs, hG.symm, by omega⟩
    · rw [q3 i (by omega)]
      have := hq (i + 1) (by omega)
      exact ⟨this.1, hG.symm.trans this.2.1, by have := this.2.2; omega⟩
/-- a change of both -/
theorem Inv.chg {J1' : Jj} (h : Inv n I J) (hu6 : u ≤ 6) (hq : IHq n u (I 2) (seg (I 4))) (b1 : ag (2 :: 4 :: kC) pC jC I J I1 J1) (hJ : ∀ k, k ≠ 50 → J1' k = J1 k) (b2 : ag kC pC jC I1 J1' I2 J2) (b3 : ag (k3s ++ kRg) [] [] I1 J1' I2 J2) (hV : VS τ) (hT : Tl 350 τ) (hG : GE (I 2) τ) (h6 : τ 6 ≤ I 2 6 + 5000) (hS : RS 300 I1 τ) (hN : HN I1 u (seg (I 4)) (I 2)) (hc : CHs u τ I1 I2) : Inv (n + 1) I2 J2 := by
  have e2 : I1 2 = I 2 := b1.1 2 (by decide)
  have e4 : I1 4 = I 4 := b1.1 4 (by decide)
  obtain ⟨c0, c2, c5, ck⟩ := hc
  rw [e2] at c5 ck
  have hb := h.1.2.2.2.2.2.1
  refine h.build ((b1.sub rfl rfl rfl).trans ((ag_J hJ rfl).trans b2)) c2 hV hT hG (by omega) (hS.cong (b3.1 300 (by decide)) (b3.1 301 (by decide)) (b3.1 302 (by decide)) (b3.1 303 (by decide)) (b3.1 304 (by decide))) (by rw [c5]; exact h.1.2.1) (IH_chg hu6 hq h.1.1 hb hG hN (b3.sub rfl rfl rfl) e4 ck c2)
/-- no change of the reference -/
theorem Inv.nc {c : Int} (h : Inv n I J) (hc : NCs c I I2) (b : ag (k3s ++ kRg ++ kC) pC jC I J I2 J2) : Inv n I2 J2 := by
  obtain ⟨h1, h2, h3, h4, h5, h6, t3, t5, t6, t8, t9⟩ := h
  obtain ⟨c0, c2, c5, c4, c23⟩ := hc
  have key : ∀ ks : List Nat, (ks.all fun q => decide (q = 2 ∨ q = 4 ∨ q ∈ (k3s ++ kRg ++ kC))) = true → ∀ q ∈ ks, I2 q = I q := fun ks hk q hq => by
    rcases of_decide_eq_true (List.all_eq_true.mp hk q hq) with e | e | e
    · rw [e]; exact c2
    · rw [e]; exact c4
    · exact b.1 q e
  refine ⟨h1.ag ⟨key _ rfl, fun p hp => absurd hp (by simp), fun q hq => b.2.2 q (by revert q; decide)⟩, h2.ag (J := J) (J' := J2) ⟨key _ rfl, fun p hp => ?_, fun q hq => absurd hq (by simp)⟩, h3.ag (b.sub rfl rfl rfl), h4.ag (b.sub rfl rfl rfl), h5.ag (b.sub rfl rfl rfl), h6.ag (b.sub rfl rfl rfl), ?_⟩
  · rw [List.mem_singleton] at hp
    rw [hp]
    exact c23
  · unfold ITl
    rw [b.1 3 (by decide), b.1 6 (by decide), c5, b.2.2 8 (by decide), b.2.2 9 (by decide)]
    exact ⟨t3, t5, t6, t8, t9⟩
end STC
section STD
variable {n : Nat} {I : Ii} {J : Jj} {x y : Int}
theorem st_shrink (h : Inv n I J) (hn : n ≤ 600) : wpx_X11_shrink I J (MX wp_X12_shrink n cdS) (MN wp_X12_shrink n) := by
  obtain ⟨hV, hT, hT7, hD, hNm, hE, hR, hS⟩ := h.1
  obtain ⟨u, nw, hu, hH, hq⟩ := h.2.1
  obtain ⟨t3, t5, t6, t8, t9⟩ := h.2.2.2.2.2.2
  have hu6 := hH.2.2.1
  have b5 := ms_5 hV.M
  by_cases hP : I 2 5 ≠ 4 ∧ pairZ (I 2) ≠ 0
  · refine Or.inr (fr_X11_shrink (c_shrink hV hR hS hH hP.1 hP.2) (fun r I1 J1 hr s1 => ?_))
    obtain ⟨hr, hS1, hN1⟩ := hr
    intro J1' hJ
    have e2 : I1 2 = I 2 := s1.k
    have e5 : I1 5 = I 5 := s1.k
    have e23 : I1 0 23 = I 0 23 := s1.i
    refine fr_X12_shrink (s_shrink (u := u) (by rw [e2]; exact hV) (by rw [e2]; exact hT) (by rw [e5]; exact t5) (e23.trans hu) hu6) (fun b I2 J2 hb s2 => ?_)
    rw [e2] at hb
    rcases hb with ⟨-, hb, hc⟩ | ⟨hb, -⟩
    · have h5 : I 2 5 < 4 := by have := hP.1; omega
      exact ⟨hc.1, by rw [hb, hr], s2.kJ, h.chg hu6 hq (ag_of s1 rfl) hJ (ag_of s2 rfl) (ag_of s2 rfl) (shZ_VS hV h5) (shZ_Tl hV.M h5 hT) (shZ_GE hV.M h5) (by rw [shZ_o hV.M h5 (by omega)]; omega) hS1 hN1 hc⟩
    · exact absurd hP hb
  · refine Or.inl (x_shrink hV hR hS (by
      by_cases c : I 2 5 = 4
      · exact Or.inl c
      · exact Or.inr (Classical.not_not.mp (fun z => hP ⟨c, z⟩))) (fun I1 J1 s1 => ?_))
    have h1 := h.fr s1
    have e2 : I1 2 = I 2 := s1.k
    have e5 : I1 5 = I 5 := s1.k
    have e23 : I1 0 23 = I 0 23 := s1.i
    refine mx_of (by decide) ?_
    refine fr_X12_shrink (s_shrink (u := u) h1.1.1 h1.1.2.1 (by rw [e5]; exact t5) (e23.trans hu) hu6) (fun b I2 J2 hb s2 => ?_)
    rw [e2] at hb
    rcases hb with ⟨hb, -⟩ | ⟨-, hc⟩
    · exact absurd hb hP
    · exact ⟨hc.1, (h1.nc hc (ag_of s2 rfl)).mono⟩
theorem st_grow (h : Inv n I J) (hn : n ≤ 600) : wpx_X11_grow I J (MX wp_X12_grow n cdS) (MN wp_X12_grow n) := by
  obtain ⟨hV, hT, hT7, hD, hNm, hE, hR, hS⟩ := h.1
  obtain ⟨u, nw, hu, hH, hq⟩ := h.2.1
  obtain ⟨t3, t5, t6, t8, t9⟩ := h.2.2.2.2.2.2
  have hu6 := hH.2.2.1
  have b5 := ms_5 hV.M
  by_cases hP : 0 < I 2 5
  · refine Or.inr (fr_X11_grow (c_grow hV hS hH hP) (fun r I1 J1 hr s1 => ?_))
    obtain ⟨hr, hS1, hN1⟩ := hr
    intro J1' hJ
    have e2 : I1 2 = I 2 := s1.k
    have e5 : I1 5 = I 5 := s1.k
    have e23 : I1 0 23 = I 0 23 := s1.i
    refine fr_X12_grow (s_grow (u := u) (by rw [e2]; exact hV) (by rw [e2]; exact hT) (by rw [e5]; exact t5) (e23.trans hu) hu6) (fun b I2 J2 hb s2 => ?_)
    rw [e2] at hb
    rcases hb with ⟨-, hb, hc⟩ | ⟨hb, -⟩
    · exact ⟨hc.1, by rw [hb, hr], s2.kJ, h.chg hu6 hq (ag_of s1 rfl) hJ (ag_of s2 rfl) (ag_of s2 rfl) (growZ_VS hV hP) (Tl_up hT (by omega)) (growZ_GE _) (by rw [updr_ne (by omega)]; omega) hS1 hN1 hc⟩
    · exact absurd hP hb
  · refine Or.inl (x_grow hS (by omega) ?_)
    refine mx_of (by decide) ?_
    refine fr_X12_grow (s_grow (u := u) hV hT t5 hu hu6) (fun b I2 J2 hb s2 => ?_)
    rcases hb with ⟨hb, -⟩ | ⟨-, hc⟩
    · exact absurd hb hP
    · exact ⟨hc.1, (h.nc hc (ag_of s2 rfl)).mono⟩
theorem st_move (h : Inv n I J) (hn : n ≤ 600) (hx : rg x) (hy : rg y) : wpx_X11_move x y I J (MX (wp_X12_move x y) n cdM) (MN (wp_X12_move x y) n) := by
  obtain ⟨hV, hT, hT7, hD, hNm, hE, hR, hS⟩ := h.1
  obtain ⟨u, nw, hu, hH, hq⟩ := h.2.1
  obtain ⟨t3, t5, t6, t8, t9⟩ := h.2.2.2.2.2.2
  have hu6 := hH.2.2.1
  by_cases hP : (0 ≤ x ∧ x < grs (I 2)) ∧ (0 ≤ y ∧ y < I 2 2)
  · by_cases hW : wmZ (I 2) x y = 0
    · refine Or.inr (fr_X11_move (c_move hV hR hS hH hP.1 hP.2 hW (by omega)) (fun r I1 J1 hr s1 => ?_))
      obtain ⟨hr, hS1, hN1⟩ := hr
      intro J1' hJ
      have e2 : I1 2 = I 2 := s1.k
      have e5 : I1 5 = I 5 := s1.k
      have e23 : I1 0 23 = I 0 23 := s1.i
      refine fr_X12_move (s_move (u := u) (by rw [e2]; exact hV) hx hy (by rw [e2]; exact hT) (by rw [e5]; exact t5) (e23.trans hu) hu6 (by rw [e2]; omega)) (fun b I2 J2 hb s2 => ?_)
      rw [e2] at hb
      rcases hb with ⟨-, -, hb, hc⟩ | ⟨hb, -⟩ | ⟨-, hb, -⟩
      · exact ⟨hc.1, by rw [hb, hr], s2.kJ, h.chg hu6 hq (ag_of s1 rfl) hJ (ag_of s2 rfl) (ag_of s2 rfl) (VS_comes hV hP.1 hP.2 (by omega)) (comesZ_Tl hV.M hT) (comesZ_GE hV.M) (by rw [comesZ_6 hV.M]; split <;> omega) hS1 hN1 hc⟩
      · exact absurd hP hb
      · exact absurd hW hb
    · refine Or.inl (x_move2 hV hR hS hP.1 hP.2 hW (fun I1 J1 s1 => ?_))
      have h1 := h.fr s1
      have e2 : I1 2 = I 2 := s1.k
      have e5 : I1 5 = I 5 := s1.k
      have e23 : I1 0 23 = I 0 23 := s1.i
      refine mx_of (by decide) ?_
      refine fr_X12_move (s_move (u := u) h1.1.1 hx hy h1.1.2.1 (by rw [e5]; exact t5) (e23.trans hu) hu6 (by rw [e2]; omega)) (fun b I2 J2 hb s2 => ?_)
      rw [e2] at hb
      rcases hb with ⟨-, hb, -⟩ | ⟨hb, -⟩ | ⟨-, -, hc⟩
      · exact absurd hb hW
      · exact absurd hP hb
      · exact ⟨hc.1, (h1.nc hc (ag_of s2 rfl)).mono⟩
  · refine Or.inl (x_move1 hV hR hS hx hy hP ?_)
    refine mx_of (by decide) ?_
    refine fr_X12_move (s_move (u := u) hV hx hy hT t5 hu hu6 (by omega)) (fun b I2 J2 hb s2 => ?_)
    rcases hb with ⟨hb, -⟩ | ⟨-, hc⟩ | ⟨hb, -⟩
    · exact absurd hb hP
    · exact ⟨hc.1, (h.nc hc (ag_of s2 rfl)).mono⟩
    · exact absurd hb hP
theorem st_steps (h : Inv n I J) (hn : n ≤ 600) (hx : rg x) : wpx_X11_steps x I J (MX (wp_X12_steps x) n cdI) (MN (wp_X12_steps x) n) := by
  obtain ⟨hV, hT, hT7, hD, hNm, hE, hR, hS⟩ := h.1
  obtain ⟨u, nw, hu, hH, hq⟩ := h.2.1
  obtain ⟨t3, t5, t6, t8, t9⟩ := h.2.2.2.2.2.2
  have hu6 := hH.2.2.1
  by_cases hP : 1 ≤ x ∧ x ≤ 99
  · have hs := VS_stp x.toNat hV (by omega)
    have hk := stpZ_keeps x.toNat hV.M hV.GV (by omega)
    refine Or.inr (fr_X11_steps (c_steps (m := x.toNat) hV hR hS hH (by omega) (by omega) (by omega)) (fun r I1 J1 hr s1 => ?_))
    obtain ⟨hr, hS1, hN1⟩ := hr
    intro J1' hJ
    have e2 : I1 2 = I 2 := s1.k
    have e5 : I1 5 = I 5 := s1.k
    have e23 : I1 0 23 = I 0 23 := s1.i
    refine fr_X12_steps (s_steps (u := u) (by rw [e2]; exact hV) hx (by rw [e2]; exact hT) (by rw [e5]; exact t5) (e23.trans hu) hu6 (by rw [e2]; omega)) (fun b I2 J2 hb s2 => ?_)
    rw [e2] at hb
    rcases hb with ⟨-, hb, hc⟩ | ⟨hb, -⟩
    · exact ⟨hc.1, by rw [hb, hr], s2.kJ, h.chg hu6 hq (ag_of s1 rfl) hJ (ag_of s2 rfl) (ag_of s2 rfl) hs.1 (stpZ_Tl x.toNat hV (by omega) hT) hs.2 (by have := hk.2.2.1; omega) hS1 hN1 hc⟩
    · exact absurd hP hb
  · refine Or.inl (x_steps hx hP ?_)
    refine mx_of (by decide) ?_
    refine fr_X12_steps (s_steps (u := u) hV hx hT t5 hu hu6 (by omega)) (fun b I2 J2 hb s2 => ?_)
    rcases hb with ⟨hb, -⟩ | ⟨-, hc⟩
    · exact absurd hb hP
    · exact ⟨hc.1, (h.nc hc (ag_of s2 rfl)).mono⟩
theorem st_placeBest (h : Inv n I J) (hn : n ≤ 600) : wpx_X11_placeBest I J (MX wp_X12_placeBest n cdS) (MN wp_X12_placeBest n) := by
  obtain ⟨hV, hT, hT7, hD, hNm, hE, hR, hS⟩ := h.1
  obtain ⟨u, nw, hu, hH, hq⟩ := h.2.1
  obtain ⟨t3, t5, t6, t8, t9⟩ := h.2.2.2.2.2.2
  have hu6 := hH.2.2.1
  have gr := grs_b hV.M
  by_cases hP : grs (I 2) ≤ 7
  · refine Or.inr (fr_X11_placeBest (c_placeBest hV hR hS hH hP (by omega)) (fun r I1 J1 hr s1 => ?_))
    obtain ⟨f, hf, hr, hS1, hN1⟩ := hr
    intro J1' hJ
    have e2 : I1 2 = I 2 := s1.k
    have e5 : I1 5 = I 5 := s1.k
    have e23 : I1 0 23 = I 0 23 := s1.i
    refine fr_X12_placeBest (s_placeBest (u := u) (by rw [e2]; exact hV) (by rw [e2]; exact hT) (by rw [e5]; exact t5) (e23.trans hu) hu6 (by rw [e2]; omega)) (fun b I2 J2 hb s2 => ?_)
    rw [e2] at hb
    rcases hb with ⟨-, g, hg, hb, hc⟩ | ⟨hb, -⟩
    · have eq : ∀ i : Nat, i < (grs (I 2)).toNat → f i = g i := (FB_one hf hg).1
      have ep : plZ (I 2) (fun i => (f i : Int)) (grs (I 2)).toNat = plZ (I 2) (fun i => (g i : Int)) (grs (I 2)).toNat := plZ_cong (fun i hi => by rw [eq i hi])
      rw [← ep] at hb hc
      have hb2 : ∀ i : Nat, (i : Int) < grs (I 2) → 0 ≤ (f i : Int) ∧ (f i : Int) < I 2 2 := fun i hi => by have := hf.1 i (by omega); have := ms_2 hV.M; omega
      have hk := plZ_keeps (b := fun i => (f i : Int)) hV hb2 (by omega) (grs (I 2)).toNat (by omega)
      exact ⟨hc.1, by rw [hb, hr], s2.kJ, h.chg hu6 hq (ag_of s1 rfl) hJ (ag_of s2 rfl) (ag_of s2 rfl) hk.1 (plZ_Tl hV hb2 (by omega) hT _ (by omega)) hk.2.1 (by have := hk.2.2.2.2.1; omega) hS1 hN1 hc⟩
    · exact absurd hP hb
  · refine Or.inl (x_placeBest hV hS (by omega) ?_)
    refine mx_of (by decide) ?_
    refine fr_X12_placeBest (s_placeBest (u := u) hV hT t5 hu hu6 (by omega)) (fun b I2 J2 hb s2 => ?_)
    rcases hb with ⟨hb, -⟩ | ⟨-, hc⟩
    · exact absurd hb hP
    · exact ⟨hc.1, (h.nc hc (ag_of s2 rfl)).mono⟩
theorem st_setCredit (h : Inv n I J) (hn : n ≤ 600) (hx : rg x) : wpx_X11_setCredit x I J (MX (wp_X12_setCredit x) n cdI) (MN (wp_X12_setCredit x) n) := by
  obtain ⟨hV, hT, hT7, hD, hNm, hE, hR, hS⟩ := h.1
  obtain ⟨u, nw, hu, hH, hq⟩ := h.2.1
  obtain ⟨t3, t5, t6, t8, t9⟩ := h.2.2.2.2.2.2
  have hu6 := hH.2.2.1
  by_cases hP : 0 ≤ x ∧ x ≤ 99
  · refine Or.inr (fr_X11_setCredit (c_setCredit hV hS hH hP) (fun r I1 J1 hr s1 => ?_))
    obtain ⟨hr, hS1, hN1⟩ := hr
    intro J1' hJ
    have e2 : I1 2 = I 2 := s1.k
    have e5 : I1 5 = I 5 := s1.k
    have e23 : I1 0 23 = I 0 23 := s1.i
    refine fr_X12_setCredit (s_setCredit (u := u) (by rw [e2]; exact hV) hx (by rw [e2]; exact hT) (by rw [e5]; exact t5) (e23.trans hu) hu6) (fun b I2 J2 hb s2 => ?_)
    rw [e2] at hb
    rcases hb with ⟨-, hb, hc⟩ | ⟨hb, -⟩
    · exact ⟨hc.1, by rw [hb, hr], s2.kJ, h.chg hu6 hq (ag_of s1 rfl) hJ (ag_of s2 rfl) (ag_of s2 rfl) (credZ_VS hV hP) (Tl_up hT (by omega)) (credZ_GE _ _) (by rw [updr_ne (by omega)]; omega) hS1 hN1 hc⟩
    · exact absurd hP hb
  · refine Or.inl (x_setCredit hx hP ?_)
    refine mx_of (by decide) ?_
    refine fr_X12_setCredit (s_setCredit (u := u) hV hx hT t5 hu hu6) (fun b I2 J2 hb s2 => ?_)
    rcases hb with ⟨hb, -⟩ | ⟨-, hc⟩
    · exact absurd hb hP
    · exact ⟨hc.1, (h.nc hc (ag_of s2 rfl)).mono⟩
end STD
