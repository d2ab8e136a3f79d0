/-! ===== one call: a text, a script ===== -/
section STG
variable {n : Nat} {I : Ii} {J : Jj} {x y : Int}
theorem Z1_0 : Z1 0 = 0 := by unfold Z1; rw [updr_ne (by omega)]
theorem st_readText (h : Inv n I J) (hn : n ≤ 600) : wpx_X11_readText I J (MX wp_X12_readText n cdI) (MN wp_X12_readText n) := by
  obtain ⟨hV, hT, hT7, hD, hNm, hE, hR, hS⟩ := h.1
  obtain ⟨t3, t5, t6, t8, t9⟩ := h.2.2.2.2.2.2
  obtain ⟨m, b1, b2, b3, b4, b5⟩ := h.2.2.2.1
  cases hx : txt (I 1) m (m + 1) (Z1, J 7, 0, 0) with
  | error e =>
    refine Or.inl (x_readText Z1_Z0 b3 b4 b1 b5 hx (fun I1 J1 s1 hc q1 => ?_))
    have e1 : I1 1 = I 1 := s1.k
    have e2 : I1 2 = I 2 := s1.k
    have e5 : I1 5 = I 5 := s1.k
    have e7 : J1 7 = J 7 := s1.kJ
    have e9 : J1 9 = J 9 := s1.kJ
    have e02 : I1 0 2 = I 0 2 := s1.i
    have e23 : I1 0 23 = I 0 23 := s1.i
    refine mx_of (by decide) ?_
    refine fr_X12_readText (s_readText (E := m) (e02.trans b2) b1 (by rw [e1]; exact b5) (by rw [e2]; exact hT) (by rw [e5]; exact t5) (by rw [e7]; exact hT7) (by rw [e9]; exact t9)) (fun b I2 J2 hb s2 => ?_)
    rw [e1, e7, hx, e2, e23] at hb
    obtain ⟨hb, z02, y2, y7, y5, y9⟩ := hb
    obtain ⟨-, z0, z11, z12, z13, z2, z7, z23⟩ : b = 0 ∧ I2 0 0 = 1 ∧ I2 0 11 = e.1 ∧ I2 0 12 = (e.2 : Int) ∧ I2 0 13 = 0 ∧ I2 2 = I 2 ∧ J2 7 = J 7 ∧ I2 0 23 = I 0 23 := hb
    have a : ag ([3, 4, 6, 111, 200, 202, 203, 204, 205, 220, 222, 223, 224, 225, 300, 301, 302, 303, 304, 320, 321, 322, 323, 324] ++ kRg ++ kBt ++ kRt) ([(0, 24), (100, 10)] ++ pR) [201, 8, 221] I J I2 J2 := (ag_of (ks := [3, 4, 6, 111, 200, 202, 203, 204, 205, 220, 222, 223, 224, 225, 300, 301, 302, 303, 304, 320, 321, 322, 323, 324] ++ kRg ++ kBt ++ kRt) (ps := [(0, 24), (100, 10)] ++ pR) (js := [201, 8, 221]) s1 rfl).trans (ag_of s2 rfl)
    have a3 : ag [] [(101, 1), (101, 9), (101, 10), (101, 11)] [] I1 J1 I2 J2 := ag_of s2 rfl
    obtain ⟨h1, h2, h3, h4, h5, h6, h7⟩ := h.mono
    have kk : ∀ q, q = 2 ∨ q ∈ ([3, 4, 6, 111, 200, 202, 203, 204, 205, 220, 222, 223, 224, 225, 300, 301, 302, 303, 304, 320, 321, 322, 323, 324] ++ kRg ++ kBt ++ kRt) → I2 q = I q := fun q hq => by
      rcases hq with rfl | hq
      · exact z2
      · exact a.1 q hq
    have kj : ∀ q, q = 7 ∨ q = 201 → J2 q = J q := fun q hq => by
      rcases hq with rfl | rfl
      · exact z7
      · exact a.2.2 201 (by decide)
    refine ⟨z0, h1.ag ⟨fun q hq => kk q (by revert q; decide), fun p hp => absurd hp (by simp), fun q hq => kj q (by revert q; decide)⟩, h2.ag (J := J) (J' := J2) ⟨fun q hq => kk q (by revert q; decide), fun p hp => by rw [List.mem_singleton] at hp; rw [hp]; exact z23, fun q hq => absurd hq (by simp)⟩, h3.ag (a.sub rfl rfl rfl), ⟨0, by omega, z02, (a3.2.1 (101, 1) (by decide)).trans q1, fun i hi => absurd hi (by omega), fun i hi => absurd hi (by omega)⟩, ⟨?_, ?_, ?_⟩, h6.ag (a.sub rfl rfl rfl), ?_⟩
    · rw [z11]; exact ((a3.2.1 (101, 9) (by decide)).trans hc.1).symm
    · rw [z12]; exact ((a3.2.1 (101, 10) (by decide)).trans hc.2.1).symm
    · rw [z13]; exact ((a3.2.1 (101, 11) (by decide)).trans hc.2.2).symm
    · unfold ITl
      rw [a.1 3 (by decide), a.1 6 (by decide), a.2.2 8 (by decide)]
      exact ⟨t3, y5, t6, t8, y9⟩
  | ok u =>
    have hP := txt_PO (B := I 1) (E := m) (f := m + 1) (Z1_Z0.PSt (nm := J 7))
    have hG := txt_GN (B := I 1) (E := m) (f := m + 1) (Z1_Z0.PSt (nm := J 7)) (fun v hv => by
      rw [show ((Z1, J 7, 0, 0) : St).1 0 = 0 from Z1_0] at hv
      exact absurd hv (by omega))
    rw [hx] at hP hG
    have hG : GSt u := hG
    obtain ⟨hP1, hd, -, -⟩ : PSt m u := hP
    have hV2 := hP1.vs
    have h6z : u.1 6 = 0 := hP1.2.2.2.1
    refine Or.inr (fr_X11_readText (c_readText Z1_Z0 b3 b4 b1 b5 hx) (fun r I1 J1 hr s1 => ?_))
    obtain ⟨hr, q1, q2, q3, q4, q5, q6, q7⟩ := hr
    intro J1' hJ
    have e1 : I1 1 = I 1 := s1.k
    have e2 : I1 2 = I 2 := s1.k
    have e5 : I1 5 = I 5 := s1.k
    have e7 : J1' 7 = J 7 := (hJ 7 (by omega)).trans s1.kJ
    have e9 : J1' 9 = J 9 := (hJ 9 (by omega)).trans s1.kJ
    have e02 : I1 0 2 = I 0 2 := s1.i
    refine fr_X12_readText (s_readText (E := m) (e02.trans b2) b1 (by rw [e1]; exact b5) (by rw [e2]; exact hT) (by rw [e5]; exact t5) (by rw [e7]; exact hT7) (by rw [e9]; exact t9)) (fun b I2 J2 hb s2 => ?_)
    rw [e1, e7, hx] at hb
    obtain ⟨hb, z02, y2, y7, y5, y9⟩ := hb
    obtain ⟨hb, z0, z11, z12, z13, z2, z7, z23⟩ : b = u.1 0 ∧ I2 0 0 = 0 ∧ I2 0 11 = 0 ∧ I2 0 12 = -1 ∧ I2 0 13 = -1 ∧ I2 2 = u.1 ∧ J2 7 = u.2.1 ∧ I2 0 23 = 0 := hb
    have a : ag ([3, 6, 220, 222, 223, 224, 225, 320, 321, 322, 323, 324] ++ kBt ++ kRt) ([(0, 24), (100, 10), (111, 1)] ++ pR) [8, 221] I J I2 J2 := (ag_of (ks := [3, 6, 220, 222, 223, 224, 225, 320, 321, 322, 323, 324] ++ kBt ++ kRt) (ps := [(0, 24), (100, 10), (111, 1)] ++ pR) (js := [8, 221]) s1 rfl).trans ((ag_J hJ rfl).trans (ag_of s2 rfl))
    have a3 : ag [200, 202, 203, 204, 205, 300, 301, 302, 303, 304] [(111, 2), (101, 1), (101, 9), (101, 10), (101, 11)] [201] I1 J1 I2 J2 := (ag_J hJ rfl).trans (ag_of s2 rfl)
    obtain ⟨v, nw, hu, hH, hq⟩ := h.2.1
    obtain ⟨h1, h2, h3, h4, h5, h6, h7⟩ := h.mono
    refine ⟨z0, by rw [hb, hr], s2.kJ, ?_, ⟨0, nw, z23, ⟨(a3.2.1 (111, 2) (by decide)).trans q3, (a.2.1 (111, 1) (by decide)).trans hH.2.1, by omega, hH.2.2.2.1, fun j hj => absurd hj (by omega)⟩, fun i hi => absurd hi (by omega)⟩, h3.ag (a.sub rfl rfl rfl), ⟨0, by omega, z02, (a3.2.1 (101, 1) (by decide)).trans q4, fun i hi => absurd hi (by omega), fun i hi => absurd hi (by omega)⟩, ⟨?_, ?_, ?_⟩, h6.ag (a.sub rfl rfl rfl), ?_⟩
    · unfold IA
      rw [z2, z7]
      refine ⟨hV2, z2 ▸ y2, z7 ▸ y7, hd, hG, by omega, q1.cong (a3.1 200 (by decide)) (a3.2.2 201 (by decide)) (a3.1 202 (by decide)) (a3.1 203 (by decide)) (a3.1 204 (by decide)) (a3.1 205 (by decide)), q2.cong (a3.1 300 (by decide)) (a3.1 301 (by decide)) (a3.1 302 (by decide)) (a3.1 303 (by decide)) (a3.1 304 (by decide))⟩
    · rw [z11]; exact ((a3.2.1 (101, 9) (by decide)).trans q5).symm
    · rw [z12]; exact ((a3.2.1 (101, 10) (by decide)).trans q6).symm
    · rw [z13]; exact ((a3.2.1 (101, 11) (by decide)).trans q7).symm
    · unfold ITl
      rw [a.1 3 (by decide), a.1 6 (by decide), a.2.2 8 (by decide)]
      exact ⟨t3, y5, t6, t8, y9⟩
theorem st_runScript (h : Inv n I J) (hn : n ≤ 600) : wpx_X11_runScript I J (MX wp_X12_runScript n cdI) (MN wp_X12_runScript n) := by
  obtain ⟨hV, hT, hT7, hD, hNm, hE, hR, hS⟩ := h.1
  obtain ⟨u, nw, hu, hH, hq⟩ := h.2.1
  obtain ⟨t3, t5, t6, t8, t9⟩ := h.2.2.2.2.2.2
  obtain ⟨m, b1, b2, b3, b4, b5⟩ := h.2.2.2.1
  have hu6 := hH.2.2.1
  cases hx : scr (I 1) m (J 7) (I 2 0).toNat (m + 1) S0 with
  | error e =>
    refine Or.inl (x_runScript hV.M hD hR b3 b4 b1 b5 hx (fun I1 J1 s1 hc q1 => ?_))
    have e1 : I1 1 = I 1 := s1.k
    have e2 : I1 2 = I 2 := s1.k
    have e4 : I1 4 = I 4 := s1.k
    have e5 : I1 5 = I 5 := s1.k
    have e7 : J1 7 = J 7 := s1.kJ
    have e02 : I1 0 2 = I 0 2 := s1.i
    have e23 : I1 0 23 = I 0 23 := s1.i
    refine mx_of (by decide) ?_
    refine fr_X12_runScript (s_runScript (E := m) (u := u) (de := 0) (τ := I 2) (e02.trans b2) b1 (by rw [e1]; exact b5) (by rw [e2]; exact hV) (by rw [e2]; exact hT) (by rw [e5]; exact t5) (e23.trans hu) hu6 (by rw [e2]; omega) (fun t ht => by rw [e1, e7, e2, hx] at ht; cases ht)) (fun b I2 J2 hb s2 => ?_)
    rw [e1, e7, e2, hx, e23, e4, e5] at hb
    obtain ⟨hb, z02⟩ := hb
    obtain ⟨-, z0, z11, z12, z13, z2, z23, z4, z5⟩ : b = 0 ∧ I2 0 0 = 1 ∧ I2 0 11 = e.1 ∧ I2 0 12 = (e.2.1 : Int) ∧ I2 0 13 = (e.2.2 : Int) ∧ I2 2 = I 2 ∧ I2 0 23 = I 0 23 ∧ I2 4 = I 4 ∧ I2 5 = I 5 := hb
    have a : ag ([3, 6, 111, 200, 202, 203, 204, 205, 220, 222, 223, 224, 225, 300, 301, 302, 303, 304, 320, 321, 322, 323, 324] ++ kRg ++ kBt) ([(0, 24), (100, 10)]) [7, 201, 8, 221, 9] I J I2 J2 := (ag_of (ks := [3, 6, 111, 200, 202, 203, 204, 205, 220, 222, 223, 224, 225, 300, 301, 302, 303, 304, 320, 321, 322, 323, 324] ++ kRg ++ kBt) (ps := [(0, 24), (100, 10)]) (js := [7, 201, 8, 221, 9]) s1 rfl).trans (ag_of s2 rfl)
    have aR : ag kRt pR [] I J I2 J2 := (ag_of (ks := kRt) (ps := pR) (js := []) s1 rfl).trans (ag_of s2 rfl)
    have a3 : ag [] [(101, 1), (101, 9), (101, 10), (101, 11)] [] I1 J1 I2 J2 := ag_of s2 rfl
    obtain ⟨h1, h2, h3, h4, h5, h6, h7⟩ := h.mono
    have kk : ∀ q, (q = 2 ∨ q = 4) ∨ q ∈ ([3, 6, 111, 200, 202, 203, 204, 205, 220, 222, 223, 224, 225, 300, 301, 302, 303, 304, 320, 321, 322, 323, 324] ++ kRg ++ kBt) → I2 q = I q := fun q hq => by
      rcases hq with (rfl | rfl) | hq
      · exact z2
      · exact z4
      · exact a.1 q hq
    refine ⟨z0, h1.ag ⟨fun q hq => kk q (by revert q; decide), fun p hp => absurd hp (by simp), fun q hq => a.2.2 q (by revert q; decide)⟩, h2.ag (J := J) (J' := J2) ⟨fun q hq => kk q (by revert q; decide), fun p hp => by rw [List.mem_singleton] at hp; rw [hp]; exact z23, fun q hq => absurd hq (by simp)⟩, h3.ag (a.sub rfl rfl rfl), ⟨0, by omega, z02, (a3.2.1 (101, 1) (by decide)).trans q1, fun i hi => absurd hi (by omega), fun i hi => absurd hi (by omega)⟩, ⟨?_, ?_, ?_⟩, h6.ag aR, ?_⟩
    · rw [z11]; exact ((a3.2.1 (101, 9) (by decide)).trans hc.1).symm
    · rw [z12]; exact ((a3.2.1 (101, 10) (by decide)).trans hc.2.1).symm
    · rw [z13]; exact ((a3.2.1 (101, 11) (by decide)).trans hc.2.2).symm
    · unfold ITl
      rw [a.1 3 (by decide), a.1 6 (by decide), a.2.2 8 (by decide), a.2.2 9 (by decide), z5]
      exact ⟨t3, t5, t6, t8, t9⟩
  | ok t =>
    have hW := S0_WF (B := I 1) (E := m) (nm := J 7) (σ := I 2) (f := m + 1) hV.M
    rw [hx] at hW
    obtain ⟨hW, hd0, hn6⟩ : goW (I 2) t ∧ t.2.2.2.2.2.1 = 0 ∧ t.2.2.2.1 ≤ 60 := hW
    refine Or.inr (fr_X11_runScript (c_runScript hV hD hR hS hH b3 b4 b1 b5 (by omega) hx) (fun r I1 J1 hr s1 => ?_))
    obtain ⟨de, τ, hrun, hr, q2, qV, q1, q6, hN1, q4, q5, q7, q8⟩ := hr
    intro J1' hJ
    have e1 : I1 1 = I 1 := s1.k
    have e2 : I1 2 = I 2 := s1.k
    have e4 : I1 4 = I 4 := s1.k
    have e5 : I1 5 = I 5 := s1.k
    have e7 : J1' 7 = J 7 := (hJ 7 (by omega)).trans s1.kJ
    have e02 : I1 0 2 = I 0 2 := s1.i
    have e23 : I1 0 23 = I 0 23 := s1.i
    refine fr_X12_runScript (s_runScript (E := m) (u := u) (de := de) (τ := τ) (e02.trans b2) b1 (by rw [e1]; exact b5) (by rw [e2]; exact hV) (by rw [e2]; exact hT) (by rw [e5]; exact t5) (e23.trans hu) hu6 (by rw [e2]; omega) (fun t' ht => by
      rw [e1, e7, e2, hx] at ht
      cases ht
      rw [e2]
      exact hrun)) (fun b I2 J2 hb s2 => ?_)
    rw [e1, e7, e2, hx] at hb
    obtain ⟨hb, z02⟩ := hb
    obtain ⟨hb, z0, z11, z12, z13, z2, z5, z6⟩ : b = (de : Int) ∧ I2 0 0 = 0 ∧ I2 0 11 = 0 ∧ I2 0 12 = -1 ∧ I2 0 13 = -1 ∧ I2 2 = τ ∧ I2 5 = I 2 ∧ KPs u (I 2) I1 I2 := hb
    have hGE := RUN_GE 24001 0 l0Z 0 (I 2) hrun (by omega) hW.2.2 hV (by omega)
    have hTl := RUN_Tl 24001 0 l0Z 0 (I 2) hrun (by omega) hW.2.2 hV (by omega) hT
    have a : ag ([3, 6, 200, 202, 203, 204, 205, 220, 222, 223, 224, 225, 320, 321, 322, 323, 324] ++ kBt ++ kRt) ([(0, 24), (100, 10)] ++ pR) [7, 201, 8, 221, 9] I J I2 J2 := (ag_of (ks := [3, 6, 200, 202, 203, 204, 205, 220, 222, 223, 224, 225, 320, 321, 322, 323, 324] ++ kBt ++ kRt) (ps := [(0, 24), (100, 10)] ++ pR) (js := [7, 201, 8, 221, 9]) s1 rfl).trans ((ag_J hJ rfl).trans (ag_of s2 rfl))
    have a3 : ag [300, 301, 302, 303, 304] [(101, 1), (101, 9), (101, 10), (101, 11)] [] I1 J1 I2 J2 := (ag_J hJ rfl).trans (ag_of s2 rfl)
    have a4 : ag kRg [] [] I1 J1 I2 J2 := (ag_J hJ rfl).trans (ag_of s2 rfl)
    have hIH := IH_chg (n := n) (τ := τ) hu6 hq hV hE hGE hN1 a4 e4 z6 z2
    obtain ⟨h1, h2, h3, h4, h5, h6, h7⟩ := h.mono
    have e7' := a.2.2 7 (by decide)
    have e0 : τ 0 = I 2 0 := hGE 0 (Or.inl (by omega))
    refine ⟨z0, by rw [hb, hr], s2.kJ, ?_, hIH, h3.ag (a.sub rfl rfl rfl), ⟨0, by omega, z02, (a3.2.1 (101, 1) (by decide)).trans q4, fun i hi => absurd hi (by omega), fun i hi => absurd hi (by omega)⟩, ⟨?_, ?_, ?_⟩, h6.ag (a.sub rfl rfl rfl), ?_⟩
    · unfold IA
      rw [z2, e7', e0]
      have g7 := hR
      refine ⟨qV, hTl, hT7, hD, hNm, by omega, (hR.ge hGE hV.M).cong (a.1 200 (by decide)) (a.2.2 201 (by decide)) (a.1 202 (by decide)) (a.1 203 (by decide)) (a.1 204 (by decide)) (a.1 205 (by decide)), q2.cong (a3.1 300 (by decide)) (a3.1 301 (by decide)) (a3.1 302 (by decide)) (a3.1 303 (by decide)) (a3.1 304 (by decide))⟩
    · rw [z11]; exact ((a3.2.1 (101, 9) (by decide)).trans q5).symm
    · rw [z12]; exact ((a3.2.1 (101, 10) (by decide)).trans q7).symm
    · rw [z13]; exact ((a3.2.1 (101, 11) (by decide)).trans q8).symm
    · unfold ITl
      rw [a.1 3 (by decide), a.1 6 (by decide), a.2.2 8 (by decide), a.2.2 9 (by decide), z5]
      exact ⟨t3, hT, t6, t8, t9⟩
end STG
