/-! ===== one call: bytes, report, back, saved ===== -/
abbrev kAllB : List Nat := [2, 3, 4, 5, 6, 111, 200, 202, 203, 204, 205, 220, 222, 223, 224, 225, 300, 301, 302, 303, 304, 320, 321, 322, 323, 324, 330, 331, 332, 333, 334, 340, 341, 342, 343, 344, 350, 351, 352, 353, 354, 360, 361, 362, 363, 364, 370, 371, 372, 373, 374, 380, 381, 382, 383, 384]
abbrev pAllB : List (Nat × Nat) := [(0, 23), (0, 24), (100, 10)]
abbrev kBt : List Nat := [1, 102]
abbrev pBt : List (Nat × Nat) := [(0, 2), (101, 1)]
abbrev kRt : List Nat := [21, 132]
theorem fed4_eq {B B' : Nat → Int} {n : Nat} {v : Int} (h : ∀ i, i < n → B i = B' i) : ∀ i, i < n + 4 → fed4 B n v i = fed4 B' n v i := fun i hi => by
  unfold fed4 updr
  by_cases a3 : i = n + 3
  · rw [if_pos a3, if_pos a3]
  rw [if_neg a3, if_neg a3]
  by_cases a2 : i = n + 2
  · rw [if_pos a2, if_pos a2]
  rw [if_neg a2, if_neg a2]
  by_cases a1 : i = n + 1
  · rw [if_pos a1, if_pos a1]
  rw [if_neg a1, if_neg a1]
  by_cases a0 : i = n
  · rw [if_pos a0, if_pos a0]
  rw [if_neg a0, if_neg a0]
  exact h i (by omega)
theorem fed4_b {B : Nat → Int} {n : Nat} {v : Int} (h : ∀ i, i < n → 0 ≤ B i ∧ B i ≤ 255) : ∀ i, i < n + 4 → 0 ≤ fed4 B n v i ∧ fed4 B n v i ≤ 255 := fun i hi => by
  unfold fed4 updr
  by_cases a3 : i = n + 3
  · rw [if_pos a3]; exact byt_b _ _
  rw [if_neg a3]
  by_cases a2 : i = n + 2
  · rw [if_pos a2]; exact byt_b _ _
  rw [if_neg a2]
  by_cases a1 : i = n + 1
  · rw [if_pos a1]; exact byt_b _ _
  rw [if_neg a1]
  by_cases a0 : i = n
  · rw [if_pos a0]; exact byt_b _ _
  rw [if_neg a0]
  exact h i (by omega)
theorem fed20_eq {B B' : Nat → Int} {n : Nat} {v1 v2 v3 v4 v5 : Int} (h : ∀ i, i < n → B i = B' i) : ∀ i, i < n + 20 → fed20 B n v1 v2 v3 v4 v5 i = fed20 B' n v1 v2 v3 v4 v5 i :=
  fed4_eq (n := n + 16) (fed4_eq (n := n + 12) (fed4_eq (n := n + 8) (fed4_eq (n := n + 4) (fed4_eq h))))
theorem fed20_b {B : Nat → Int} {n : Nat} {v1 v2 v3 v4 v5 : Int} (h : ∀ i, i < n → 0 ≤ B i ∧ B i ≤ 255) : ∀ i, i < n + 20 → 0 ≤ fed20 B n v1 v2 v3 v4 v5 i ∧ fed20 B n v1 v2 v3 v4 v5 i ≤ 255 :=
  fed4_b (n := n + 16) (fed4_b (n := n + 12) (fed4_b (n := n + 8) (fed4_b (n := n + 4) (fed4_b h))))
section STF
variable {n : Nat} {I I2 : Ii} {J J2 : Jj} {x y : Int}
theorem Inv.setB (h : Inv n I J) (a : ag (kAllB ++ kRt) (pAllB ++ pE ++ pR) jC I J I2 J2) (hB : IB I2) : Inv n I2 J2 := by
  obtain ⟨h1, h2, h3, h4, h5, h6, h7⟩ := h
  exact ⟨h1.ag (a.sub rfl rfl rfl), h2.ag (a.sub rfl rfl rfl), h3.ag (a.sub rfl rfl rfl), hB, h5.ag (a.sub rfl rfl rfl), h6.ag (a.sub rfl rfl rfl), h7.ag (a.sub rfl rfl rfl)⟩
theorem st_feed {v1 v2 v3 v4 v5 : Int} (h : Inv n I J) (hn : n ≤ 600) : wpx_X11_feed v1 v2 v3 v4 v5 I J (MX (wp_X12_feed v1 v2 v3 v4 v5) n cdS) (MN (wp_X12_feed v1 v2 v3 v4 v5) n) := by
  obtain ⟨m, b1, b2, b3, b4, b5⟩ := h.2.2.2.1
  by_cases hP : m ≤ 780
  · refine Or.inr (fr_X11_feed (c_feed b3 hP) (fun r I1 J1 hr s1 => ?_))
    obtain ⟨hr, q1, q2⟩ := hr
    intro J1' hJ
    have e1 : I1 1 = I 1 := s1.k
    have e02 : I1 0 2 = I 0 2 := s1.i
    refine fr_X12_feed (s_feed (n := m) (e02.trans b2) b1) (fun b I2 J2 hb s2 => ?_)
    obtain ⟨hb, p1, p2, p3⟩ := hb.1 hP
    rw [e1] at p2
    have f1 : I2 101 1 = I1 101 1 := s2.i
    have f2 : I2 102 = I1 102 := s2.k
    refine ⟨p3, by rw [hb, hr], s2.kJ, (h.setB ((ag_of s1 rfl).trans ((ag_J hJ rfl).trans (ag_of s2 rfl))) ⟨m + 20, by omega, p1, f1.trans q1, ?_, ?_⟩).mono⟩
    · rw [f2, q2, p2]; exact fed20_eq b4
    · rw [p2]; exact fed20_b b5
  · refine Or.inl (x_feed b3 b1 (by omega) ?_)
    refine mx_of (by decide) ?_
    refine fr_X12_feed (s_feed (n := m) b2 b1) (fun b I2 J2 hb s2 => ?_)
    obtain ⟨-, e⟩ := hb.2 (by omega)
    refine ⟨by rw [e, up2_self]; rfl, (h.setB (ag_of s2 rfl) ?_).mono⟩
    rw [e]
    exact h.2.2.2.1.ag (J := J) (J' := J) ⟨fun q hq => up2_key (by revert q; decide), fun p hp => up2_ne (by revert p; decide), fun _ _ => rfl⟩
theorem st_truncate (h : Inv n I J) (hn : n ≤ 600) (hx : rg x) : wpx_X11_truncate x I J (MX (wp_X12_truncate x) n cdI) (MN (wp_X12_truncate x) n) := by
  obtain ⟨m, b1, b2, b3, b4, b5⟩ := h.2.2.2.1
  by_cases hP : 0 ≤ x ∧ x ≤ (m : Int)
  · refine Or.inr (fr_X11_truncate (c_truncate b3 b1 hP) (fun r I1 J1 hr s1 => ?_))
    obtain ⟨hr, q1⟩ := hr
    intro J1' hJ
    have e1 : I1 1 = I 1 := s1.k
    have e02 : I1 0 2 = I 0 2 := s1.i
    refine fr_X12_truncate (s_truncate (n := m) hx (e02.trans b2) b1) (fun b I2 J2 hb s2 => ?_)
    rcases hb with ⟨-, -, hb, e⟩ | ⟨hb, -⟩
    · have f1 : I2 101 1 = I1 101 1 := s2.i
      have f2 : I2 102 = I1 102 := s2.k
      have f3 : I2 1 = I1 1 := s2.k
      have g2 : I1 102 = I 102 := by rw [q1, up2_key (by omega)]
      refine ⟨by rw [e, up2_ne (by omega), up2_self], by rw [hb, hr], s2.kJ, (h.setB ((ag_of s1 rfl).trans ((ag_J hJ rfl).trans (ag_of s2 rfl))) ⟨x.toNat, by omega, ?_, ?_, fun i hi => ?_, fun i hi => ?_⟩).mono⟩
      · rw [e, up2_self]; omega
      · rw [f1, q1, up2_self]; omega
      · rw [f2, g2, f3, e1]; exact b4 i (by omega)
      · rw [f3, e1]; exact b5 i (by omega)
    · exact absurd ⟨hP.1, hP.2⟩ hb
  · refine Or.inl (x_truncate b3 b1 hx hP ?_)
    refine mx_of (by decide) ?_
    refine fr_X12_truncate (s_truncate (n := m) hx b2 b1) (fun b I2 J2 hb s2 => ?_)
    rcases hb with ⟨h1, h2, -⟩ | ⟨-, -, e⟩
    · exact absurd ⟨h1, h2⟩ hP
    · refine ⟨by rw [e, up2_self]; rfl, (h.setB (ag_of s2 rfl) ?_).mono⟩
      rw [e]
      exact h.2.2.2.1.ag (J := J) (J' := J) ⟨fun q hq => up2_key (by revert q; decide), fun p hp => up2_ne (by revert p; decide), fun _ _ => rfl⟩
theorem st_report (h : Inv n I J) (hn : n ≤ 600) : wp_X11_report I J (fun r I1 J1 => wp_X12_report I1 J1 (fun b I2 J2 => b = r ∧ Inv (n + 1) I2 J2)) := by
  obtain ⟨hV, hT, hT7, hD, hNm, hE, hR, hS⟩ := h.1
  refine fr_X11_report (c_report hV hR hS hNm) (fun r I1 J1 hr s1 => ?_)
  obtain ⟨hr, q1⟩ := hr
  have e2 : I1 2 = I 2 := s1.k
  have e7 : J1 7 = J 7 := s1.kJ
  refine fr_X12_report (s_report (by rw [e2]; exact hV) (by rw [e2, e7]; exact hNm)) (fun b I2 J2 hb s2 => ?_)
  rw [e2, e7] at hb
  obtain ⟨hb, p1, p2, p3⟩ := hb
  have a : ag (kAllB ++ kBt) (pAllB ++ pE ++ pBt) jC I J I2 J2 := (ag_of (ks := kAllB ++ kBt) (ps := pAllB ++ pE ++ pBt) (js := jC) s1 rfl).trans (ag_of s2 rfl)
  have f1 : I2 100 17 = I1 100 17 := s2.i
  have f2 : I2 132 = I1 132 := s2.k
  obtain ⟨h1, h2, h3, h4, h5, h6, h7⟩ := h.mono
  exact ⟨by rw [hb, hr], h1.ag (a.sub rfl rfl rfl), h2.ag (a.sub rfl rfl rfl), h3.ag (a.sub rfl rfl rfl), h4.ag (a.sub rfl rfl rfl), h5.ag (a.sub rfl rfl rfl), ⟨repZ (I 2) (J 7), repZ_len _ hV, ⟨f1.trans q1.1, by rw [f2]; exact q1.2⟩, Or.inl ⟨p3, p1⟩⟩, h7.ag (a.sub rfl rfl rfl)⟩
theorem st_undo (h : Inv n I J) (hn : n ≤ 600) : wp_X11_undo I J (fun r I1 J1 => wp_X12_undo I1 J1 (fun b I2 J2 => b = r ∧ Inv (n + 1) I2 J2)) := by
  obtain ⟨hV, hT, hT7, hD, hNm, hE, hR, hS⟩ := h.1
  obtain ⟨u, nw, hu, hH, hq⟩ := h.2.1
  obtain ⟨t3, t5, t6, t8, t9⟩ := h.2.2.2.2.2.2
  have hu6 := hH.2.2.1
  refine fr_X11_undo (c_undo hS (fun i hi => (hq i hi).1) hH) (fun r I1 J1 hr s1 => ?_)
  have e2 : I1 2 = I 2 := s1.k
  have e4 : I1 4 = I 4 := s1.k
  have e5 : I1 5 = I 5 := s1.k
  have e23 : I1 0 23 = I 0 23 := s1.i
  refine fr_X12_undo (s_undo (u := u) (e23.trans hu) hu6 (by rw [e2]; exact hT)) (fun b I2 J2 hb s2 => ?_)
  obtain ⟨z0, hb0, hb1⟩ := hb
  have a : ag kC pC jC I J I2 J2 := (ag_of (ks := kC) (ps := pC) (js := jC) s1 rfl).trans (ag_of s2 rfl)
  have a3 : ag (k3s ++ kRg) [] [] I1 J1 I2 J2 := ag_of s2 rfl
  have f4 : I2 4 = I 4 := (show I2 4 = I1 4 from s2.k).trans e4
  have f5 : I2 5 = I 5 := (show I2 5 = I1 5 from s2.k).trans e5
  by_cases c : u = 0
  · obtain ⟨hr, hS1, hH1⟩ := hr.1 c
    obtain ⟨hb, z2, z23⟩ := hb0 c
    rw [e2] at z2
    refine ⟨by rw [hb, hr], h.build a z2 hV hT (GE.refl _) (by omega) (hS1.cong (a3.1 300 (by decide)) (a3.1 301 (by decide)) (a3.1 302 (by decide)) (a3.1 303 (by decide)) (a3.1 304 (by decide))) (by rw [f5]; exact t5) ⟨u, nw, by rw [z23, c]; rfl, by rw [f4]; exact HR_ag hH1 (a3.sub rfl rfl rfl), fun i hi => absurd hi (by omega)⟩⟩
  · obtain ⟨hr, hS1, nw', hH1⟩ := hr.2 (by omega)
    obtain ⟨hb, z23, z2⟩ := hb1 (by omega)
    rw [e4] at z2
    have k := hq (u - 1) (by omega)
    refine ⟨by rw [hb, hr], h.build a z2 k.1 (seg_Tl _ _) k.2.1 (by have := k.2.2; omega) (hS1.cong (a3.1 300 (by decide)) (a3.1 301 (by decide)) (a3.1 302 (by decide)) (a3.1 303 (by decide)) (a3.1 304 (by decide))) (by rw [f5]; exact t5) ⟨u - 1, nw', by rw [z23]; omega, by rw [f4]; exact HR_ag hH1 (a3.sub rfl rfl rfl), fun i hi => ?_⟩⟩
    rw [z2, f4]
    have := hq i (by omega)
    exact ⟨this.1, k.2.1.symm.trans this.2.1, by have := this.2.2; omega⟩
theorem st_save (h : Inv n I J) (hn : n ≤ 600) : wp_X11_save I J (fun r I1 J1 => wp_X12_save I1 J1 (fun b I2 J2 => b = r ∧ Inv (n + 1) I2 J2)) := by
  obtain ⟨hV, hT, hT7, hD, hNm, hE, hR, hS⟩ := h.1
  obtain ⟨t3, t5, t6, t8, t9⟩ := h.2.2.2.2.2.2
  refine fr_X11_save (c_save hV hR hS) (fun r I1 J1 hr s1 => ?_)
  obtain ⟨hr, q1, q2, q3⟩ := hr
  have e2 : I1 2 = I 2 := s1.k
  have e3 : I1 3 = I 3 := s1.k
  have e7 : J1 7 = J 7 := s1.kJ
  have e8 : J1 8 = J 8 := s1.kJ
  refine fr_X12_save (s_save (by rw [e2]; exact hV.M) (by rw [e2]; exact hT) (by rw [e3]; exact t3) (by rw [e7]; exact hT7) (by rw [e8]; exact t8)) (fun b I2 J2 hb s2 => ?_)
  obtain ⟨hb, z0, z24, z3, z8⟩ := hb
  rw [e2] at hb z3
  rw [e7] at z8
  have a : ag ([2, 4, 5, 6, 111, 200, 202, 203, 204, 205, 300, 301, 302, 303, 304] ++ kRg ++ kBt ++ kRt) ([(0, 23)] ++ pE ++ pBt ++ pR) [7, 201, 9] I J I2 J2 := (ag_of (ks := [2, 4, 5, 6, 111, 200, 202, 203, 204, 205, 300, 301, 302, 303, 304] ++ kRg ++ kBt ++ kRt) (ps := [(0, 23)] ++ pE ++ pBt ++ pR) (js := [7, 201, 9]) s1 rfl).trans (ag_of s2 rfl)
  have a3 : ag [220, 222, 223, 224, 225, 320, 321, 322, 323, 324] [(100, 10)] [221] I1 J1 I2 J2 := ag_of s2 rfl
  obtain ⟨h1, h2, h3, h4, h5, h6, h7⟩ := h.mono
  refine ⟨by rw [hb, hr], h1.ag (a.sub rfl rfl rfl), h2.ag (a.sub rfl rfl rfl), Or.inr ⟨z24, (a3.2.1 (100, 10) (by decide)).trans q3, ?_⟩, h4.ag (a.sub rfl rfl rfl), h5.ag (a.sub rfl rfl rfl), h6.ag (a.sub rfl rfl rfl), ?_⟩
  · rw [z3, z8]
    exact ⟨hV, hD, hNm, by omega, q1.cong (a3.1 220 (by decide)) (a3.2.2 221 (by decide)) (a3.1 222 (by decide)) (a3.1 223 (by decide)) (a3.1 224 (by decide)) (a3.1 225 (by decide)), q2.cong (a3.1 320 (by decide)) (a3.1 321 (by decide)) (a3.1 322 (by decide)) (a3.1 323 (by decide)) (a3.1 324 (by decide))⟩
  · unfold ITl
    rw [z3, z8, a.1 5 (by decide), a.1 6 (by decide), a.2.2 9 (by decide)]
    exact ⟨hT, t5, t6, hT7, t9⟩
theorem st_restore (h : Inv n I J) (hn : n ≤ 600) : wpx_X11_restore I J (MX wp_X12_restore n cdS) (MN wp_X12_restore n) := by
  obtain ⟨hV, hT, hT7, hD, hNm, hE, hR, hS⟩ := h.1
  obtain ⟨t3, t5, t6, t8, t9⟩ := h.2.2.2.2.2.2
  rcases h.2.2.1 with ⟨g1, g2⟩ | ⟨g1, g2, gV, gD, gN, gE, gR, gS⟩
  · refine Or.inl (x_restore g2 ?_)
    refine mx_of (by decide) ?_
    refine fr_X12_restore (s_restore (Or.inl g1) (fun z => by omega) hT t3 hT7 t8) (fun b I2 J2 hb s2 => ?_)
    obtain ⟨z24, hb, -⟩ := hb
    obtain ⟨z0, z23, z2, z7⟩ := hb g1
    have a : ag ([3, 4, 5, 6, 111, 200, 202, 203, 204, 205, 220, 222, 223, 224, 225, 300, 301, 302, 303, 304, 320, 321, 322, 323, 324] ++ kRg ++ kBt ++ kRt) ([(0, 24), (100, 10)] ++ pE ++ pBt ++ pR) [201, 8, 221, 9] I J I2 J2 := ag_of s2 rfl
    obtain ⟨h1, h2, h3, h4, h5, h6, h7⟩ := h.mono
    have kk : ∀ q, q = 2 ∨ q ∈ ([3, 4, 5, 6, 111, 200, 202, 203, 204, 205, 220, 222, 223, 224, 225, 300, 301, 302, 303, 304, 320, 321, 322, 323, 324] ++ kRg ++ kBt ++ kRt) → I2 q = I q := fun q hq => by
      rcases hq with rfl | hq
      · exact z2
      · exact a.1 q hq
    have kj : ∀ q, q = 7 ∨ q = 201 → J2 q = J q := fun q hq => by
      rcases hq with rfl | rfl
      · exact z7
      · exact a.2.2 201 (by decide)
    exact ⟨z0, h1.ag ⟨fun q hq => kk q (by revert q; decide), fun p hp => absurd hp (by simp), fun q hq => kj q (by revert q; decide)⟩, h2.ag (J := J) (J' := J2) ⟨fun q hq => kk q (by revert q; decide), fun p hp => by rw [List.mem_singleton] at hp; rw [hp]; exact z23, fun q hq => absurd hq (by simp)⟩, h3.ag (a.sub rfl rfl rfl), h4.ag (a.sub rfl rfl rfl), h5.ag (a.sub rfl rfl rfl), h6.ag (a.sub rfl rfl rfl), h7.ag (a.sub rfl rfl rfl)⟩
  · refine Or.inr (fr_X11_restore (c_restore g2 gV gR gS) (fun r I1 J1 hr s1 => ?_))
    obtain ⟨hr, q1, q2, q3⟩ := hr
    intro J1' hJ
    have e2 : I1 2 = I 2 := s1.k
    have e3 : I1 3 = I 3 := s1.k
    have e24 : I1 0 24 = I 0 24 := s1.i
    have e7 : J1' 7 = J 7 := (hJ 7 (by omega)).trans s1.kJ
    have e8 : J1' 8 = J 8 := (hJ 8 (by omega)).trans s1.kJ
    refine fr_X12_restore (s_restore (by rw [e24]; exact Or.inr g1) (fun _ => by rw [e3]; exact gV.M) (by rw [e2]; exact hT) (by rw [e3]; exact t3) (by rw [e7]; exact hT7) (by rw [e8]; exact t8)) (fun b I2 J2 hb s2 => ?_)
    obtain ⟨z24, -, hb⟩ := hb
    obtain ⟨hb, z0, z23, z2, z7⟩ := hb (e24.trans g1)
    rw [e3] at hb z2
    rw [e8] at z7
    have a : ag ([3, 5, 6, 220, 222, 223, 224, 225, 320, 321, 322, 323, 324] ++ kBt ++ kRt) ([(0, 24), (100, 10), (111, 1)] ++ pE ++ pBt ++ pR) [8, 221, 9] I J I2 J2 := (ag_of (ks := [3, 5, 6, 220, 222, 223, 224, 225, 320, 321, 322, 323, 324] ++ kBt ++ kRt) (ps := [(0, 24), (100, 10), (111, 1)] ++ pE ++ pBt ++ pR) (js := [8, 221, 9]) s1 rfl).trans ((ag_J hJ rfl).trans (ag_of s2 rfl))
    have a3 : ag [200, 202, 203, 204, 205, 300, 301, 302, 303, 304] [(111, 2)] [201] I1 J1 I2 J2 := (ag_J hJ rfl).trans (ag_of s2 rfl)
    obtain ⟨u, nw, hu, hH, hq⟩ := h.2.1
    obtain ⟨h1, h2, h3, h4, h5, h6, h7⟩ := h.mono
    refine ⟨z0, by rw [hb, hr], s2.kJ, ?_, ⟨0, nw, z23, ⟨(a3.2.1 (111, 2) (by decide)).trans q3, (a.2.1 (111, 1) (by decide)).trans hH.2.1, by omega, hH.2.2.2.1, fun j hj => absurd hj (by omega)⟩, fun i hi => absurd hi (by omega)⟩, h3.ag (a.sub rfl rfl rfl), h4.ag (a.sub rfl rfl rfl), h5.ag (a.sub rfl rfl rfl), h6.ag (a.sub rfl rfl rfl), h7.ag (a.sub rfl rfl rfl)⟩
    unfold IA
    rw [z2, z7]
    exact ⟨gV, t3, t8, gD, gN, by omega, q1.cong (a3.1 200 (by decide)) (a3.2.2 201 (by decide)) (a3.1 202 (by decide)) (a3.1 203 (by decide)) (a3.1 204 (by decide)) (a3.1 205 (by decide)), q2.cong (a3.1 300 (by decide)) (a3.1 301 (by decide)) (a3.1 302 (by decide)) (a3.1 303 (by decide)) (a3.1 304 (by decide))⟩
end STF
