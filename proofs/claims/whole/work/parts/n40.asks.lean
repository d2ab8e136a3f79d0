/-! ===== one call: what the class answers, the reference answers ===== -/
/-- the reference's call behind an answer of the class; behind a throw -/
def MN (M : Ii → Jj → (Int → Ii → Jj → Prop) → Prop) (n : Nat) : Int → Ii → Jj → Prop := fun r I1 J1 => ∀ J1' : Jj, (∀ k, k ≠ 50 → J1' k = J1 k) → M I1 J1' (fun b I2 J2 => I2 0 0 = 0 ∧ b = r ∧ J2 50 = J1' 50 ∧ Inv (n + 1) I2 J2)
def MX (M : Ii → Jj → (Int → Ii → Jj → Prop) → Prop) (n : Nat) (cd : Nat → Int) : Nat → Ii → Jj → Prop := fun e I1 J1 => cd e ≠ 0 ∧ M I1 J1 (fun _ I2 J2 => I2 0 0 = cd e ∧ Inv (n + 1) I2 J2)
theorem mx_of {M : Ii → Jj → (Int → Ii → Jj → Prop) → Prop} {n e : Nat} {cd : Nat → Int} {I1 : Ii} {J1 : Jj} (h0 : cd e ≠ 0) (h : M I1 J1 (fun _ I2 J2 => I2 0 0 = cd e ∧ Inv (n + 1) I2 J2)) : MX M n cd e I1 J1 := ⟨h0, h⟩
/-- the law's numbers of exceptions -/
def cdA (e : Nat) : Int := match e with
  | 1 => 1
  | 0 => 2
  | 2 => 3
  | _ => 0
def cdB (e : Nat) : Int := match e with
  | 1 => 1
  | 0 => 2
  | _ => 0
def cdM (e : Nat) : Int := match e with
  | 1 => 1
  | 2 => 2
  | _ => 0
def cdV (e : Nat) : Int := match e with
  | 1 => 1
  | _ => 0
def cdI (e : Nat) : Int := match e with
  | 0 => 1
  | _ => 0
def cdS (e : Nat) : Int := match e with
  | 2 => 1
  | _ => 0
section STH
variable {n : Nat} {I I' : Ii} {J J' : Jj}
/-- steps were tried on the row, which came back -/
theorem Inv.tried (h : Inv n I J) (hs : Same (WL [(0, 0), (2, 1000), (6, 1000)]) I J I' J') (e2 : I' 2 = I 2) (e6 : I' 6 = I 2) : Inv n I' J' := by
  obtain ⟨h1, h2, h3, h4, h5, h6, h7⟩ := h
  have k : ∀ q, q ≠ 0 → q ≠ 2 → q ≠ 6 → I' q = I q := fun q a b c => hs.rI (WL_n (by simp [wlk, Ne.symm a, Ne.symm b, Ne.symm c]))
  have kj : ∀ q, q ≠ 0 → q ≠ 2 → q ≠ 6 → J' q = J q := fun q a b c => hs.rJ (WL_n (by simp [wlk, Ne.symm a, Ne.symm b, Ne.symm c]))
  have k2 : ∀ q, q ≠ 0 → q ≠ 6 → I' q = I q := fun q a c => by
    by_cases b : q = 2
    · rw [b, e2]
    · exact k q a b c
  refine ⟨h1.ag ⟨fun q hq => k2 q (by rintro rfl; revert hq; decide) (by rintro rfl; revert hq; decide), fun p hp => absurd hp (by simp), fun q hq => kj q (by rintro rfl; revert hq; decide) (by rintro rfl; revert hq; decide) (by rintro rfl; revert hq; decide)⟩,
    h2.ag (J := J) (J' := J') ⟨fun q hq => k2 q (by rintro rfl; revert hq; decide) (by rintro rfl; revert hq; decide), (ag_of (ks := []) (js := []) hs rfl).2.1, fun q hq => absurd hq (by simp)⟩,
    h3.ag (ag_of hs rfl), h4.ag (ag_of hs rfl), h5.ag (ag_of hs rfl), h6.ag (ag_of hs rfl), ?_⟩
  obtain ⟨t3, t5, t6, t8, t9⟩ := h7
  unfold ITl
  rw [k 3 (by omega) (by omega) (by omega), k 5 (by omega) (by omega) (by omega), e6, kj 8 (by omega) (by omega) (by omega), kj 9 (by omega) (by omega) (by omega)]
  exact ⟨t3, t5, h1.2.1, t8, t9⟩
theorem Inv.up00 (h : Inv n I J) {c : Int} (e : I' = up2 I 0 0 c) : Inv n I' J := h.fr ((Same.rf (W := WL [(0, 0)]) I J).upI e rfl)
theorem Inv.up00J (h : Inv n I J) {c : Int} (e : I' = up2 I 0 0 c) (hJ : ∀ q ∈ [7, 8, 9, 201, 221], J' q = J q) : Inv n I' J' := by
  obtain ⟨h1, h2, h3, h4, h5, h6, h7⟩ := h.up00 e
  exact ⟨h1.ag ⟨fun _ _ => rfl, fun _ _ => rfl, fun q hq => hJ q (by revert q; decide)⟩, h2, h3.ag ⟨fun _ _ => rfl, fun _ _ => rfl, fun q hq => hJ q (by revert q; decide)⟩, h4, h5, h6, h7.ag ⟨fun _ _ => rfl, fun _ _ => rfl, fun q hq => hJ q (by revert q; decide)⟩⟩
end STH
section STA
variable {n : Nat} {I : Ii} {J : Jj} {x y : Int}
theorem st_weight (h : Inv n I J) (hx : rg x) : wpx_X11_weight x I J (MX (wp_X12_weight x) n cdV) (MN (wp_X12_weight x) n) := by
  obtain ⟨hV, hT, hT7, hD, hN, hE, hR, hS⟩ := h.1
  by_cases hP : (0 ≤ x ∧ x < I 2 0)
  · refine Or.inr (fr_X11_weight (c_weight hV hR hP) (fun r hr => ?_))
    intro J1' hJ
    have h1 := h.j50 hJ
    have e2 : I 2 = I 2 := rfl
    refine fr_X12_weight (s_weight h1.1.1.M hx) (fun b I2 J2 hb s2 => ?_)
    rcases hb with ⟨-, hb, e⟩ | ⟨hb, -⟩
    · exact ⟨by rw [e, up2_self], by rw [hb, hr, e2], s2.kJ, (h1.fr s2).mono⟩
    · exact absurd (by rw [e2]; exact hP) hb
  · refine Or.inl (x_weight hV hR hx hP ?_)
    refine mx_of (by decide) ?_
    refine fr_X12_weight (s_weight hV.M hx) (fun b I2 J2 hb s2 => ?_)
    rcases hb with ⟨hb, -⟩ | ⟨-, -, e⟩
    · exact absurd hb hP
    · exact ⟨by rw [e, up2_self]; rfl, (h.fr s2).mono⟩
theorem st_partOf (h : Inv n I J) (hx : rg x) : wpx_X11_partOf x I J (MX (wp_X12_partOf x) n cdV) (MN (wp_X12_partOf x) n) := by
  obtain ⟨hV, hT, hT7, hD, hN, hE, hR, hS⟩ := h.1
  by_cases hP : (0 ≤ x ∧ x < I 2 0)
  · refine Or.inr (fr_X11_partOf (c_partOf hV hR hS hP) (fun r hr => ?_))
    intro J1' hJ
    have h1 := h.j50 hJ
    have e2 : I 2 = I 2 := rfl
    refine fr_X12_partOf (s_partOf h1.1.1.M hx) (fun b I2 J2 hb s2 => ?_)
    rcases hb with ⟨-, hb, e⟩ | ⟨hb, -⟩
    · exact ⟨by rw [e, up2_self], by rw [hb, hr, e2], s2.kJ, (h1.fr s2).mono⟩
    · exact absurd (by rw [e2]; exact hP) hb
  · refine Or.inl (x_partOf hV hR hx hP ?_)
    refine mx_of (by decide) ?_
    refine fr_X12_partOf (s_partOf hV.M hx) (fun b I2 J2 hb s2 => ?_)
    rcases hb with ⟨hb, -⟩ | ⟨-, -, e⟩
    · exact absurd hb hP
    · exact ⟨by rw [e, up2_self]; rfl, (h.fr s2).mono⟩
theorem st_groupOf (h : Inv n I J) (hx : rg x) : wpx_X11_groupOf x I J (MX (wp_X12_groupOf x) n cdV) (MN (wp_X12_groupOf x) n) := by
  obtain ⟨hV, hT, hT7, hD, hN, hE, hR, hS⟩ := h.1
  by_cases hP : (0 ≤ x ∧ x < I 2 0)
  · refine Or.inr (fr_X11_groupOf (c_groupOf hV hR hS hP) (fun r hr => ?_))
    intro J1' hJ
    have h1 := h.j50 hJ
    have e2 : I 2 = I 2 := rfl
    refine fr_X12_groupOf (s_groupOf h1.1.1.M hx) (fun b I2 J2 hb s2 => ?_)
    rcases hb with ⟨-, hb, e⟩ | ⟨hb, -⟩
    · exact ⟨by rw [e, up2_self], by rw [hb, hr, e2], s2.kJ, (h1.fr s2).mono⟩
    · exact absurd (by rw [e2]; exact hP) hb
  · refine Or.inl (x_groupOf hV hR hx hP ?_)
    refine mx_of (by decide) ?_
    refine fr_X12_groupOf (s_groupOf hV.M hx) (fun b I2 J2 hb s2 => ?_)
    rcases hb with ⟨hb, -⟩ | ⟨-, -, e⟩
    · exact absurd hb hP
    · exact ⟨by rw [e, up2_self]; rfl, (h.fr s2).mono⟩
theorem st_between (h : Inv n I J) (hx : rg x) (hy : rg y) : wpx_X11_between x y I J (MX (wp_X12_between x y) n cdV) (MN (wp_X12_between x y) n) := by
  obtain ⟨hV, hT, hT7, hD, hN, hE, hR, hS⟩ := h.1
  by_cases hP : (0 ≤ x ∧ x < I 2 0) ∧ (0 ≤ y ∧ y < I 2 0)
  · refine Or.inr (fr_X11_between (c_between hV hR hP.1 hP.2) (fun r hr => ?_))
    intro J1' hJ
    have h1 := h.j50 hJ
    have e2 : I 2 = I 2 := rfl
    refine fr_X12_between (s_between h1.1.1.M hx hy) (fun b I2 J2 hb s2 => ?_)
    rcases hb with ⟨-, hb, e⟩ | ⟨hb, -⟩
    · exact ⟨by rw [e, up2_self], by rw [hb, hr, e2], s2.kJ, (h1.fr s2).mono⟩
    · exact absurd (by rw [e2]; exact hP) hb
  · refine Or.inl (x_between hV hR hx hy hP ?_)
    refine mx_of (by decide) ?_
    refine fr_X12_between (s_between hV.M hx hy) (fun b I2 J2 hb s2 => ?_)
    rcases hb with ⟨hb, -⟩ | ⟨-, -, e⟩
    · exact absurd hb hP
    · exact ⟨by rw [e, up2_self]; rfl, (h.fr s2).mono⟩
theorem st_gain (h : Inv n I J) (hx : rg x) (hy : rg y) : wpx_X11_gain x y I J (MX (wp_X12_gain x y) n cdV) (MN (wp_X12_gain x y) n) := by
  obtain ⟨hV, hT, hT7, hD, hN, hE, hR, hS⟩ := h.1
  by_cases hP : (0 ≤ x ∧ x < grs (I 2)) ∧ (0 ≤ y ∧ y < I 2 2)
  · refine Or.inr (fr_X11_gain (c_gain hV hR hS hP.1 hP.2) (fun r I1 J1 hr s1 => ?_))
    intro J1' hJ
    have h1 := (h.fr s1).j50 hJ
    have e2 : I1 2 = I 2 := s1.k
    refine fr_X12_gain (s_gain h1.1.1 hx hy) (fun b I2 J2 hb s2 => ?_)
    rcases hb with ⟨-, hb, e⟩ | ⟨hb, -⟩
    · exact ⟨by rw [e, up2_self], by rw [hb, hr, e2], s2.kJ, (h1.fr s2).mono⟩
    · exact absurd (by rw [e2]; exact hP) hb
  · refine Or.inl (x_gain hV hR hS hx hy hP ?_)
    refine mx_of (by decide) ?_
    refine fr_X12_gain (s_gain hV hx hy) (fun b I2 J2 hb s2 => ?_)
    rcases hb with ⟨hb, -⟩ | ⟨-, -, e⟩
    · exact absurd hb hP
    · exact ⟨by rw [e, up2_self]; rfl, (h.fr s2).mono⟩
theorem st_whyNotMove (h : Inv n I J) (hx : rg x) (hy : rg y) : wpx_X11_whyNotMove x y I J (MX (wp_X12_whyNotMove x y) n cdV) (MN (wp_X12_whyNotMove x y) n) := by
  obtain ⟨hV, hT, hT7, hD, hN, hE, hR, hS⟩ := h.1
  by_cases hP : (0 ≤ x ∧ x < grs (I 2)) ∧ (0 ≤ y ∧ y < I 2 2)
  · refine Or.inr (fr_X11_whyNotMove (c_whyNotMove hV hR hS hP.1 hP.2) (fun r I1 J1 hr s1 => ?_))
    intro J1' hJ
    have h1 := (h.fr s1).j50 hJ
    have e2 : I1 2 = I 2 := s1.k
    refine fr_X12_whyNotMove (s_whyNotMove h1.1.1 hx hy) (fun b I2 J2 hb s2 => ?_)
    rcases hb with ⟨-, hb, e⟩ | ⟨hb, -⟩
    · exact ⟨by rw [e, up2_self], by rw [hb, hr, e2], s2.kJ, (h1.fr s2).mono⟩
    · exact absurd (by rw [e2]; exact hP) hb
  · refine Or.inl (x_whyNotMove hV hR hS hx hy hP ?_)
    refine mx_of (by decide) ?_
    refine fr_X12_whyNotMove (s_whyNotMove hV hx hy) (fun b I2 J2 hb s2 => ?_)
    rcases hb with ⟨hb, -⟩ | ⟨-, -, e⟩
    · exact absurd hb hP
    · exact ⟨by rw [e, up2_self]; rfl, (h.fr s2).mono⟩
theorem st_debtsIf (h : Inv n I J) (hx : rg x) (hy : rg y) : wpx_X11_debtsIf x y I J (MX (wp_X12_debtsIf x y) n cdV) (MN (wp_X12_debtsIf x y) n) := by
  obtain ⟨hV, hT, hT7, hD, hN, hE, hR, hS⟩ := h.1
  by_cases hP : (0 ≤ x ∧ x < grs (I 2)) ∧ (0 ≤ y ∧ y < I 2 2)
  · refine Or.inr (fr_X11_debtsIf (c_debtsIf hV hR hS hP.1 hP.2) (fun r I1 J1 hr s1 => ?_))
    intro J1' hJ
    have h1 := (h.fr s1).j50 hJ
    have e2 : I1 2 = I 2 := s1.k
    refine fr_X12_debtsIf (s_debtsIf h1.1.1 hx hy) (fun b I2 J2 hb s2 => ?_)
    rcases hb with ⟨-, hb, e⟩ | ⟨hb, -⟩
    · exact ⟨by rw [e, up2_self], by rw [hb, hr, e2], s2.kJ, (h1.fr s2).mono⟩
    · exact absurd (by rw [e2]; exact hP) hb
  · refine Or.inl (x_debtsIf hV hR hS hx hy hP ?_)
    refine mx_of (by decide) ?_
    refine fr_X12_debtsIf (s_debtsIf hV hx hy) (fun b I2 J2 hb s2 => ?_)
    rcases hb with ⟨hb, -⟩ | ⟨-, -, e⟩
    · exact absurd hb hP
    · exact ⟨by rw [e, up2_self]; rfl, (h.fr s2).mono⟩
theorem st_edge (h : Inv n I J) (hx : rg x) (hy : rg y) : wpx_X11_edge x y I J (MX (wp_X12_edge x y) n cdB) (MN (wp_X12_edge x y) n) := by
  obtain ⟨hV, hT, hT7, hD, hN, hE, hR, hS⟩ := h.1
  by_cases hP : (0 ≤ x ∧ x < I 2 1)
  · by_cases hQ : (0 ≤ y ∧ y ≤ 3)
    · refine Or.inr (fr_X11_edge (c_edge hV hR hS hP hQ) (fun r hr => ?_))
      intro J1' hJ
      have h1 := h.j50 hJ
      have e2 : I 2 = I 2 := rfl
      refine fr_X12_edge (s_edge h1.1.1.M hx hy) (fun b I2 J2 hb s2 => ?_)
      rcases hb with ⟨-, -, hb, e⟩ | ⟨hb, -⟩ | ⟨-, hb, -⟩
      · exact ⟨by rw [e, up2_self], by rw [hb, hr, e2], s2.kJ, (h1.fr s2).mono⟩
      · exact absurd (by rw [e2]; exact hP) hb
      · exact absurd hQ hb
    · refine Or.inl (x_edge2 hV hR hP hy hQ ?_)
      refine mx_of (by decide) ?_
      refine fr_X12_edge (s_edge hV.M hx hy) (fun b I2 J2 hb s2 => ?_)
      rcases hb with ⟨-, hb, -⟩ | ⟨hb, -⟩ | ⟨-, -, -, e⟩
      · exact absurd hb hQ
      · exact absurd hP hb
      · exact ⟨by rw [e, up2_self]; rfl, (h.fr s2).mono⟩
  · refine Or.inl (x_edge1 hV hR hx hP ?_)
    refine mx_of (by decide) ?_
    refine fr_X12_edge (s_edge hV.M hx hy) (fun b I2 J2 hb s2 => ?_)
    rcases hb with ⟨hb, -⟩ | ⟨-, -, e⟩ | ⟨hb, -⟩
    · exact absurd hb hP
    · exact ⟨by rw [e, up2_self]; rfl, (h.fr s2).mono⟩
    · exact absurd hb hP
theorem st_part (h : Inv n I J) (hx : rg x) (hy : rg y) : wpx_X11_part x y I J (MX (wp_X12_part x y) n cdB) (MN (wp_X12_part x y) n) := by
  obtain ⟨hV, hT, hT7, hD, hN, hE, hR, hS⟩ := h.1
  by_cases hP : (0 ≤ x ∧ x < I 2 2)
  · by_cases hQ : (0 ≤ y ∧ y ≤ 4)
    · refine Or.inr (fr_X11_part (c_part hV hR hS hP hQ) (fun r I1 J1 hr s1 => ?_))
      intro J1' hJ
      have h1 := (h.fr s1).j50 hJ
      have e2 : I1 2 = I 2 := s1.k
      refine fr_X12_part (s_part h1.1.1 hx hy) (fun b I2 J2 hb s2 => ?_)
      rcases hb with ⟨-, -, hb, e⟩ | ⟨hb, -⟩ | ⟨-, hb, -⟩
      · exact ⟨by rw [e, up2_self], by rw [hb, hr, e2], s2.kJ, (h1.fr s2).mono⟩
      · exact absurd (by rw [e2]; exact hP) hb
      · exact absurd hQ hb
    · refine Or.inl (x_part2 hV hR hS hP hy hQ (fun I1 J1 s1 => ?_))
      have h1 := h.fr s1
      have e2 : I1 2 = I 2 := s1.k
      refine mx_of (by decide) ?_
      refine fr_X12_part (s_part h1.1.1 hx hy) (fun b I2 J2 hb s2 => ?_)
      rcases hb with ⟨-, hb, -⟩ | ⟨hb, -⟩ | ⟨-, -, -, e⟩
      · exact absurd hb hQ
      · exact absurd (by rw [e2]; exact hP) hb
      · exact ⟨by rw [e, up2_self]; rfl, (h1.fr s2).mono⟩
  · refine Or.inl (x_part1 hV hR hx hP ?_)
    refine mx_of (by decide) ?_
    refine fr_X12_part (s_part hV hx hy) (fun b I2 J2 hb s2 => ?_)
    rcases hb with ⟨hb, -⟩ | ⟨-, -, e⟩ | ⟨hb, -⟩
    · exact absurd hb hP
    · exact ⟨by rw [e, up2_self]; rfl, (h.fr s2).mono⟩
    · exact absurd hb hP
theorem st_group (h : Inv n I J) (hx : rg x) (hy : rg y) : wpx_X11_group x y I J (MX (wp_X12_group x y) n cdB) (MN (wp_X12_group x y) n) := by
  obtain ⟨hV, hT, hT7, hD, hN, hE, hR, hS⟩ := h.1
  by_cases hP : (0 ≤ x ∧ x < grs (I 2))
  · by_cases hQ : (0 ≤ y ∧ y ≤ 3)
    · refine Or.inr (fr_X11_group (c_group hV hR hS hP hQ) (fun r I1 J1 hr s1 => ?_))
      intro J1' hJ
      have h1 := (h.fr s1).j50 hJ
      have e2 : I1 2 = I 2 := s1.k
      refine fr_X12_group (s_group h1.1.1 hx hy) (fun b I2 J2 hb s2 => ?_)
      rcases hb with ⟨-, -, hb, e⟩ | ⟨hb, -⟩ | ⟨-, hb, -⟩
      · exact ⟨by rw [e, up2_self], by rw [hb, hr, e2], s2.kJ, (h1.fr s2).mono⟩
      · exact absurd (by rw [e2]; exact hP) hb
      · exact absurd hQ hb
    · refine Or.inl (x_group2 hV hR hS hP hy hQ (fun I1 J1 s1 => ?_))
      have h1 := h.fr s1
      have e2 : I1 2 = I 2 := s1.k
      refine mx_of (by decide) ?_
      refine fr_X12_group (s_group h1.1.1 hx hy) (fun b I2 J2 hb s2 => ?_)
      rcases hb with ⟨-, hb, -⟩ | ⟨hb, -⟩ | ⟨-, -, -, e⟩
      · exact absurd hb hQ
      · exact absurd (by rw [e2]; exact hP) hb
      · exact ⟨by rw [e, up2_self]; rfl, (h1.fr s2).mono⟩
  · refine Or.inl (x_group1 hV hS hx hP ?_)
    refine mx_of (by decide) ?_
    refine fr_X12_group (s_group hV hx hy) (fun b I2 J2 hb s2 => ?_)
    rcases hb with ⟨hb, -⟩ | ⟨-, -, e⟩ | ⟨hb, -⟩
    · exact absurd hb hP
    · exact ⟨by rw [e, up2_self]; rfl, (h.fr s2).mono⟩
    · exact absurd hb hP
theorem st_event (h : Inv n I J) (hx : rg x) (hy : rg y) : wpx_X11_event x y I J (MX (wp_X12_event x y) n cdB) (MN (wp_X12_event x y) n) := by
  obtain ⟨hV, hT, hT7, hD, hN, hE, hR, hS⟩ := h.1
  by_cases hP : (0 ≤ x ∧ x < kev (I 2))
  · by_cases hQ : (0 ≤ y ∧ y ≤ 3)
    · refine Or.inr (fr_X11_event (c_event hV hS hP hQ) (fun r hr => ?_))
      intro J1' hJ
      have h1 := h.j50 hJ
      have e2 : I 2 = I 2 := rfl
      refine fr_X12_event (s_event h1.1.1.M hx hy) (fun b I2 J2 hb s2 => ?_)
      rcases hb with ⟨-, -, hb, e⟩ | ⟨hb, -⟩ | ⟨-, hb, -⟩
      · exact ⟨by rw [e, up2_self], by rw [hb, hr, e2], s2.kJ, (h1.fr s2).mono⟩
      · exact absurd (by rw [e2]; exact hP) hb
      · exact absurd hQ hb
    · refine Or.inl (x_event2 hV hS hP hy hQ ?_)
      refine mx_of (by decide) ?_
      refine fr_X12_event (s_event hV.M hx hy) (fun b I2 J2 hb s2 => ?_)
      rcases hb with ⟨-, hb, -⟩ | ⟨hb, -⟩ | ⟨-, -, -, e⟩
      · exact absurd hb hQ
      · exact absurd hP hb
      · exact ⟨by rw [e, up2_self]; rfl, (h.fr s2).mono⟩
  · refine Or.inl (x_event1 hV hS hx hP ?_)
    refine mx_of (by decide) ?_
    refine fr_X12_event (s_event hV.M hx hy) (fun b I2 J2 hb s2 => ?_)
    rcases hb with ⟨hb, -⟩ | ⟨-, -, e⟩ | ⟨hb, -⟩
    · exact absurd hb hP
    · exact ⟨by rw [e, up2_self]; rfl, (h.fr s2).mono⟩
    · exact absurd hb hP
theorem st_error (h : Inv n I J) (hx : rg x) : wpx_X11_error x I J (MX (wp_X12_error x) n cdI) (MN (wp_X12_error x) n) := by
  obtain ⟨i1, i2, i3⟩ := h.2.2.2.2.1
  by_cases hP : 0 ≤ x ∧ x ≤ 2
  · refine Or.inr (fr_X11_error (c_error hP) (fun r hr => ?_))
    intro J1' hJ
    have h1 := h.j50 hJ
    refine fr_X12_error (s_error hx) (fun b I2 J2 hb s2 => ?_)
    rcases hb with ⟨-, hb, e⟩ | ⟨hb, -⟩
    · exact ⟨by rw [e, up2_self], by rw [hb, hr, i1, i2, i3], s2.kJ, (h1.fr s2).mono⟩
    · exact absurd hP hb
  · refine Or.inl (x_error hx hP ?_)
    refine mx_of (by decide) ?_
    refine fr_X12_error (s_error hx) (fun b I2 J2 hb s2 => ?_)
    rcases hb with ⟨hb, -⟩ | ⟨-, -, e⟩
    · exact absurd hb hP
    · exact ⟨by rw [e, up2_self]; rfl, (h.fr s2).mono⟩
theorem st_setting (h : Inv n I J) (hx : rg x) : wpx_X11_setting x I J (MX (wp_X12_setting x) n cdI) (MN (wp_X12_setting x) n) := by
  obtain ⟨hV, hT, hT7, hD, hN, hE, hR, hS⟩ := h.1
  obtain ⟨u, nw, hu, hH, -⟩ := h.2.1
  by_cases hP : 0 ≤ x ∧ x ≤ 11
  · refine Or.inr (fr_X11_setting (c_setting hV hR hS hH hP) (fun r hr => ?_))
    intro J1' hJ
    have h1 := h.j50 hJ
    refine fr_X12_setting (s_setting h1.1.1 hx) (fun b I2 J2 hb s2 => ?_)
    rcases hb with ⟨-, hb, e⟩ | ⟨hb, -⟩
    · exact ⟨by rw [e, up2_self], by rw [hb, hr, hu], s2.kJ, (h1.fr s2).mono⟩
    · exact absurd hP hb
  · refine Or.inl (x_setting hx hP ?_)
    refine mx_of (by decide) ?_
    refine fr_X12_setting (s_setting hV hx) (fun b I2 J2 hb s2 => ?_)
    rcases hb with ⟨hb, -⟩ | ⟨-, -, e⟩
    · exact absurd hb hP
    · exact ⟨by rw [e, up2_self]; rfl, (h.fr s2).mono⟩
theorem st_flow (h : Inv n I J) (hx : rg x) (hy : rg y) : wpx_X11_flow x y I J (MX (wp_X12_flow x y) n cdV) (MN (wp_X12_flow x y) n) := by
  obtain ⟨hV, hT, hT7, hD, hN, hE, hR, hS⟩ := h.1
  have b0 := ms_0 hV.M
  by_cases hP : (0 ≤ x ∧ x < I 2 0) ∧ (0 ≤ y ∧ y < I 2 0)
  · refine Or.inr (fr_X11_flow (c_flow (a := x.toNat) (b := y.toNat) hV hR (by omega) (by omega) (by omega) (by omega)) (fun r I1 J1 hr s1 => ?_))
    intro J1' hJ
    have h1 := (h.fr s1).j50 hJ
    have e2 : I1 2 = I 2 := s1.k
    obtain ⟨hr0, hr1⟩ := hr
    by_cases q : x = y
    · refine fr_X12_flow (s_flow (T := 0) (s := 0) h1.1.1.M hx hy (fun _ _ z => absurd q z)) (fun b I2 J2 hb s2 => ?_)
      rcases hb with ⟨-, hb, -, z0⟩ | ⟨hb, -⟩
      · exact ⟨z0, (hb q).trans (hr0 (by rw [q])).symm, s2.kJ, (h1.fr s2).mono⟩
      · exact absurd (by rw [e2]; exact hP) hb
    · obtain ⟨T, s, hF, hrT⟩ := hr1 (by omega)
      refine fr_X12_flow (s_flow (T := T) (s := s) h1.1.1.M hx hy (fun _ _ _ => by rw [e2]; exact hF)) (fun b I2 J2 hb s2 => ?_)
      rcases hb with ⟨-, -, hb, z0⟩ | ⟨hb, -⟩
      · exact ⟨z0, (hb q).trans hrT.symm, s2.kJ, (h1.fr s2).mono⟩
      · exact absurd (by rw [e2]; exact hP) hb
  · refine Or.inl (x_flow hV hR hx hy hP ?_)
    refine mx_of (by decide) ?_
    refine fr_X12_flow (s_flow (T := 0) (s := 0) hV.M hx hy (fun z1 z2 _ => absurd ⟨z1, z2⟩ hP)) (fun b I2 J2 hb s2 => ?_)
    rcases hb with ⟨hb, -⟩ | ⟨-, -, z0⟩
    · exact absurd hb hP
    · exact ⟨z0, (h.fr s2).mono⟩
theorem st_side (h : Inv n I J) (hx : rg x) (hy : rg y) : wpx_X11_side x y I J (MX (wp_X12_side x y) n cdV) (MN (wp_X12_side x y) n) := by
  obtain ⟨hV, hT, hT7, hD, hN, hE, hR, hS⟩ := h.1
  have b0 := ms_0 hV.M
  by_cases hP : (0 ≤ x ∧ x < I 2 0) ∧ (0 ≤ y ∧ y < I 2 0)
  · refine Or.inr (fr_X11_side (c_side (a := x.toNat) (b := y.toNat) hV hR (by omega) (by omega) (by omega) (by omega)) (fun r I1 J1 hr s1 => ?_))
    intro J1' hJ
    have h1 := (h.fr s1).j50 hJ
    have e2 : I1 2 = I 2 := s1.k
    obtain ⟨hr0, hr1⟩ := hr
    by_cases q : x = y
    · refine fr_X12_side (s_side (T := 0) (s := 0) h1.1.1.M hx hy (fun _ _ z => absurd q z)) (fun b I2 J2 hb s2 => ?_)
      rcases hb with ⟨-, hb, -, z0⟩ | ⟨hb, -⟩
      · exact ⟨z0, (hb q).trans (hr0 (by rw [q])).symm, s2.kJ, (h1.fr s2).mono⟩
      · exact absurd (by rw [e2]; exact hP) hb
    · obtain ⟨T, s, hF, hrT⟩ := hr1 (by omega)
      refine fr_X12_side (s_side (T := T) (s := s) h1.1.1.M hx hy (fun _ _ _ => by rw [e2]; exact hF)) (fun b I2 J2 hb s2 => ?_)
      rcases hb with ⟨-, -, hb, z0⟩ | ⟨hb, -⟩
      · exact ⟨z0, (hb q).trans hrT.symm, s2.kJ, (h1.fr s2).mono⟩
      · exact absurd (by rw [e2]; exact hP) hb
  · refine Or.inl (x_side hV hR hx hy hP ?_)
    refine mx_of (by decide) ?_
    refine fr_X12_side (s_side (T := 0) (s := 0) hV.M hx hy (fun z1 z2 _ => absurd ⟨z1, z2⟩ hP)) (fun b I2 J2 hb s2 => ?_)
    rcases hb with ⟨hb, -⟩ | ⟨-, -, z0⟩
    · exact absurd hb hP
    · exact ⟨z0, (h.fr s2).mono⟩
theorem st_mate (h : Inv n I J) (hx : rg x) : wpx_X11_mate x I J (MX (wp_X12_mate x) n cdV) (MN (wp_X12_mate x) n) := by
  obtain ⟨hV, hT, hT7, hD, hN, hE, hR, hS⟩ := h.1
  by_cases hP : 0 ≤ x ∧ x < grs (I 2)
  · refine Or.inr (fr_X11_mate (c_mate hV hR hS hP) (fun r I1 J1 hr s1 => ?_))
    intro J1' hJ
    have h1 := (h.fr s1).j50 hJ
    have e2 : I1 2 = I 2 := s1.k
    refine fr_X12_mate (s_mate h1.1.1 hx) (fun b I2 J2 hb s2 => ?_)
    rcases hb with ⟨-, hb, z0⟩ | ⟨hb, -⟩
    · exact ⟨z0, by rw [hb, hr, e2], s2.kJ, (h1.fr s2).mono⟩
    · exact absurd (by rw [e2]; exact hP) hb
  · refine Or.inl (x_mate hV hS hx hP ?_)
    refine mx_of (by decide) ?_
    refine fr_X12_mate (s_mate hV hx) (fun b I2 J2 hb s2 => ?_)
    rcases hb with ⟨hb, -⟩ | ⟨-, -, z0⟩
    · exact absurd hb hP
    · exact ⟨z0, (h.fr s2).mono⟩
theorem st_reportByte (h : Inv n I J) (hx : rg x) : wpx_X11_reportByte x I J (MX (wp_X12_reportByte x) n cdV) (MN (wp_X12_reportByte x) n) := by
  obtain ⟨R, hl, hC, hS⟩ := h.2.2.2.2.2.1
  have hS' : I 0 47 = 1 ∧ hlS I R ∧ R.length ≤ 152 ∨ I 0 47 = 0 ∧ R = [] := by
    rcases hS with ⟨a, b⟩ | ⟨a, b⟩
    · exact Or.inl ⟨a, b, hl⟩
    · exact Or.inr ⟨a, b⟩
  by_cases hP : 0 ≤ x ∧ x < (R.length : Int)
  · refine Or.inr (fr_X11_reportByte (c_reportByte hC hl hP) (fun r hr => ?_))
    intro J1' hJ
    have h1 := h.j50 hJ
    refine fr_X12_reportByte (s_reportByte hx hS') (fun b I2 J2 hb s2 => ?_)
    rcases hb with ⟨-, hb, e⟩ | ⟨hb, -⟩
    · exact ⟨by rw [e, up2_self], by rw [hb, hr], s2.kJ, (h1.fr s2).mono⟩
    · exact absurd hP hb
  · refine Or.inl (x_reportByte hC hl hx hP ?_)
    refine mx_of (by decide) ?_
    refine fr_X12_reportByte (s_reportByte hx hS') (fun b I2 J2 hb s2 => ?_)
    rcases hb with ⟨hb, -⟩ | ⟨-, -, e⟩
    · exact absurd hb hP
    · exact ⟨by rw [e, up2_self]; rfl, (h.fr s2).mono⟩
theorem st_stepsToEnd (h : Inv n I J) (hn : n ≤ 600) (hx : rg x) : wpx_X11_stepsToEnd x I J (MX (wp_X12_stepsToEnd x) n cdI) (MN (wp_X12_stepsToEnd x) n) := by
  obtain ⟨hV, hT, hT7, hD, hN, hE, hR, hS⟩ := h.1
  obtain ⟨t3, t5, t6, t8, t9⟩ := h.2.2.2.2.2.2
  by_cases hP : 0 ≤ x ∧ x ≤ 200
  · refine Or.inr (fr_X11_stepsToEnd (c_stepsToEnd (m := x.toNat) (by omega) (by omega) hV hR hS (by omega)) (fun r I1 J1 hr s1 => ?_))
    intro J1' hJ
    have h1 := (h.fr s1).j50 hJ
    have e2 : I1 2 = I 2 := s1.k
    refine fr_X12_stepsToEnd (s_stepsToEnd h1.1.1 hx h1.1.2.1 h1.2.2.2.2.2.2.2.2.1 (by rw [e2]; omega)) (fun b I2 J2 hb s2 => ?_)
    rcases hb with ⟨-, hb, z0, z2, z6⟩ | ⟨hb, -⟩
    · exact ⟨z0, by rw [hb, hr, e2], s2.kJ, (h1.tried s2 z2 z6).mono⟩
    · exact absurd hP hb
  · refine Or.inl (x_stepsToEnd hx hP ?_)
    refine mx_of (by decide) ?_
    refine fr_X12_stepsToEnd (s_stepsToEnd hV hx hT t6 (by omega)) (fun b I2 J2 hb s2 => ?_)
    rcases hb with ⟨hb, -⟩ | ⟨-, -, e⟩
    · exact absurd hb hP
    · exact ⟨by rw [e, up2_self]; rfl, (h.up00J e (ag_of (ks := []) (ps := []) (js := [7, 8, 9, 201, 221]) s2 rfl).2.2).mono⟩
theorem st_cutBehind (h : Inv n I J) (hn : n ≤ 600) (hx : rg x) : wpx_X11_cutBehind x I J (MX (wp_X12_cutBehind x) n cdI) (MN (wp_X12_cutBehind x) n) := by
  obtain ⟨hV, hT, hT7, hD, hN, hE, hR, hS⟩ := h.1
  obtain ⟨t3, t5, t6, t8, t9⟩ := h.2.2.2.2.2.2
  by_cases hP : 0 ≤ x ∧ x ≤ 200
  · refine Or.inr (fr_X11_cutBehind (c_cutBehind (m := x.toNat) (by omega) (by omega) hV hR hS (by omega)) (fun r I1 J1 hr s1 => ?_))
    intro J1' hJ
    have h1 := (h.fr s1).j50 hJ
    have e2 : I1 2 = I 2 := s1.k
    refine fr_X12_cutBehind (s_cutBehind h1.1.1 hx h1.1.2.1 h1.2.2.2.2.2.2.2.2.1 (by rw [e2]; omega)) (fun b I2 J2 hb s2 => ?_)
    rcases hb with ⟨-, hb, z0, z2, z6⟩ | ⟨hb, -⟩
    · exact ⟨z0, by rw [hb, hr, e2], s2.kJ, (h1.tried s2 z2 z6).mono⟩
    · exact absurd hP hb
  · refine Or.inl (x_cutBehind hx hP ?_)
    refine mx_of (by decide) ?_
    refine fr_X12_cutBehind (s_cutBehind hV hx hT t6 (by omega)) (fun b I2 J2 hb s2 => ?_)
    rcases hb with ⟨hb, -⟩ | ⟨-, -, e⟩
    · exact absurd hb hP
    · exact ⟨by rw [e, up2_self]; rfl, (h.up00J e (ag_of (ks := []) (ps := []) (js := [7, 8, 9, 201, 221]) s2 rfl).2.2).mono⟩
end STA
section STB
variable {n : Nat} {I : Ii} {J : Jj}
theorem st_cut (h : Inv n I J) : wp_X11_cut I J (fun r I1 J1 => wp_X12_cut I1 J1 (fun b I2 J2 => b = r ∧ Inv (n + 1) I2 J2)) := by
  obtain ⟨hV, hT, hT7, hD, hN, hE, hR, hS⟩ := h.1
  refine fr_X11_cut (c_cut hV hR hS) (fun r I1 J1 hr s1 => ?_)
  have h1 := h.fr s1
  have e2 : I1 2 = I 2 := s1.k
  refine fr_X12_cut (s_cut h1.1.1.M) (fun b I2 J2 hb s2 => ⟨?_, (h1.fr s2).mono⟩)
  rw [hb.1, hr, e2]
theorem st_debts (h : Inv n I J) : wp_X11_debts I J (fun r I1 J1 => wp_X12_debts I1 J1 (fun b I2 J2 => b = r ∧ Inv (n + 1) I2 J2)) := by
  obtain ⟨hV, hT, hT7, hD, hN, hE, hR, hS⟩ := h.1
  refine fr_X11_debts (c_debts hV hR hS) (fun r I1 J1 hr s1 => ?_)
  have h1 := h.fr s1
  have e2 : I1 2 = I 2 := s1.k
  refine fr_X12_debts (s_debts h1.1.1.M) (fun b I2 J2 hb s2 => ⟨?_, (h1.fr s2).mono⟩)
  rw [hb.1, hr, e2]
theorem st_border (h : Inv n I J) : wp_X11_border I J (fun r I1 J1 => wp_X12_border I1 J1 (fun b I2 J2 => b = r ∧ Inv (n + 1) I2 J2)) := by
  obtain ⟨hV, hT, hT7, hD, hN, hE, hR, hS⟩ := h.1
  refine fr_X11_border (c_border hV hR hS) (fun r hr => ?_)
  have h1 := h
  have e2 : I 2 = I 2 := rfl
  refine fr_X12_border (s_border h1.1.1.M) (fun b I2 J2 hb s2 => ⟨?_, (h1.fr s2).mono⟩)
  rw [hb.1, hr, e2]
theorem st_heaviest (h : Inv n I J) : wp_X11_heaviest I J (fun r I1 J1 => wp_X12_heaviest I1 J1 (fun b I2 J2 => b = r ∧ Inv (n + 1) I2 J2)) := by
  obtain ⟨hV, hT, hT7, hD, hN, hE, hR, hS⟩ := h.1
  refine fr_X11_heaviest (c_heaviest hV hR hS) (fun r I1 J1 hr s1 => ?_)
  have h1 := h.fr s1
  have e2 : I1 2 = I 2 := s1.k
  refine fr_X12_heaviest (s_heaviest h1.1.1.M) (fun b I2 J2 hb s2 => ⟨?_, (h1.fr s2).mono⟩)
  rw [hb.1, hr, e2]
theorem st_nextStep (h : Inv n I J) : wp_X11_nextStep I J (fun r I1 J1 => wp_X12_nextStep I1 J1 (fun b I2 J2 => b = r ∧ Inv (n + 1) I2 J2)) := by
  obtain ⟨hV, hT, hT7, hD, hN, hE, hR, hS⟩ := h.1
  refine fr_X11_nextStep (c_nextStep hV hR hS) (fun r I1 J1 hr s1 => ?_)
  have h1 := h.fr s1
  have e2 : I1 2 = I 2 := s1.k
  refine fr_X12_nextStep (s_nextStep h1.1.1) (fun b I2 J2 hb s2 => ⟨?_, (h1.fr s2).mono⟩)
  rw [hb.1, hr, e2]
theorem st_events (h : Inv n I J) : wp_X11_events I J (fun r I1 J1 => wp_X12_events I1 J1 (fun b I2 J2 => b = r ∧ Inv (n + 1) I2 J2)) := by
  obtain ⟨hV, hT, hT7, hD, hN, hE, hR, hS⟩ := h.1
  refine fr_X11_events (c_events hS) (fun r hr => ?_)
  have h1 := h
  have e2 : I 2 = I 2 := rfl
  refine fr_X12_events (s_events h1.1.1.M) (fun b I2 J2 hb s2 => ⟨?_, (h1.fr s2).mono⟩)
  rw [hb.1, hr, e2]
theorem st_leastFlow (h : Inv n I J) : wp_X11_leastFlow I J (fun r I1 J1 => wp_X12_leastFlow I1 J1 (fun b I2 J2 => b = r ∧ Inv (n + 1) I2 J2)) := by
  obtain ⟨hV, hT, hT7, hD, hN, hE, hR, hS⟩ := h.1
  refine fr_X11_leastFlow (c_leastFlow hV hR) (fun r I1 J1 hr s1 => ?_)
  have h1 := h.fr s1
  have e2 : I1 2 = I 2 := s1.k
  refine fr_X12_leastFlow (s_leastFlow h1.1.1.M) (fun b I2 J2 hb s2 => ⟨?_, (h1.fr s2).mono⟩)
  have hb1 := hb.1
  rw [e2] at hb1
  exact LFL_one hb1 hr
theorem st_whyNotShrink (h : Inv n I J) : wp_X11_whyNotShrink I J (fun r I1 J1 => wp_X12_whyNotShrink I1 J1 (fun b I2 J2 => b = r ∧ Inv (n + 1) I2 J2)) := by
  obtain ⟨hV, hT, hT7, hD, hN, hE, hR, hS⟩ := h.1
  refine fr_X11_whyNotShrink (c_whyNotShrink hV hR hS) (fun r I1 J1 hr s1 => ?_)
  have h1 := h.fr s1
  have e2 : I1 2 = I 2 := s1.k
  have sw : wp_X12_whyNotShrink I1 J1 (fun b _ _ => b = if I 2 5 = 4 then 1 else if pairZ (I 2) = 0 then 2 else 0) := by
    intro I3 e3
    have f2 : I3 2 = I 2 := by rw [e3, up2_key (by omega)]; exact e2
    exact fr_X12_whyShrink (s_whyShrink (by rw [f2]; exact hV)) (fun b I4 J4 hb _ => by rw [hb, f2])
  exact fr_X12_whyNotShrink sw (fun b I2 J2 hb s2 => ⟨by rw [hb, hr], (h1.fr s2).mono⟩)
theorem st_bestDebts (h : Inv n I J) : wp_X11_bestDebts I J (fun r I1 J1 => wp_X12_bestDebts I1 J1 (fun b I2 J2 => b = r ∧ Inv (n + 1) I2 J2)) := by
  obtain ⟨hV, hT, hT7, hD, hN, hE, hR, hS⟩ := h.1
  refine fr_X11_bestDebts (c_bestDebts hV hR hS) (fun r I1 J1 hr s1 => ?_)
  have h1 := h.fr s1
  have e2 : I1 2 = I 2 := s1.k
  refine fr_X12_bestDebts (s_bestDebts h1.1.1) (fun b I2 J2 hb s2 => ⟨?_, (h1.fr s2).mono⟩)
  rw [e2] at hb
  by_cases c : grs (I 2) ≤ 7
  · obtain ⟨f, hf, hr'⟩ := hr.2 c
    obtain ⟨g, hg, hb'⟩ := hb.2.2 c
    rw [hr', hb']
    exact (FB_one hg hf).2.1
  · rw [hb.2.1 (by omega), hr.1 (by omega)]
theorem st_bestCut (h : Inv n I J) : wp_X11_bestCut I J (fun r I1 J1 => wp_X12_bestCut I1 J1 (fun b I2 J2 => b = r ∧ Inv (n + 1) I2 J2)) := by
  obtain ⟨hV, hT, hT7, hD, hN, hE, hR, hS⟩ := h.1
  refine fr_X11_bestCut (c_bestCut hV hR hS) (fun r I1 J1 hr s1 => ?_)
  have h1 := h.fr s1
  have e2 : I1 2 = I 2 := s1.k
  refine fr_X12_bestCut (s_bestCut h1.1.1) (fun b I2 J2 hb s2 => ⟨?_, (h1.fr s2).mono⟩)
  rw [e2] at hb
  by_cases c : grs (I 2) ≤ 7
  · obtain ⟨f, hf, hr'⟩ := hr.2 c
    obtain ⟨g, hg, hb'⟩ := hb.2.2 c
    rw [hr', hb']
    exact (FB_one hg hf).2.2
  · rw [hb.2.1 (by omega), hr.1 (by omega)]
end STB
