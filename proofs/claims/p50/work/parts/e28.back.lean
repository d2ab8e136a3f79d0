/-! ===== back ===== -/
theorem nbZ_up (σ : Nat → Int) (g : Nat) : ∀ d, (nbZ σ (g + d)).2 ≤ (nbZ σ g).2 + d
  | 0 => Nat.le_refl _
  | d + 1 => by
    have ih := nbZ_up σ g d
    rw [show g + (d + 1) = (g + d) + 1 by omega, nbZ_succ]
    split
    · show (nbZ σ (g + d)).2 ≤ _
      omega
    · show (nbZ σ (g + d)).2 + 1 ≤ _
      omega
/-- a pair makes fewer groups -/
theorem cnt_lt {σ : Nat → Int} (hM : MS σ) (hp : pairZ σ ≠ 0) : (cntZ σ : Int) < grs σ := by
  have gr := grs_b hM
  have hok := mate_ok hM
  have hpz := lmZ_pair hM (grs σ).toNat (by omega)
  have hx : ∃ k : Nat, mateZ σ k ≠ -1 := by
    obtain ⟨k, hk⟩ := hpz.2 hp
    exact ⟨k, hk.2⟩
  obtain ⟨k, hk⟩ := hx
  have key : ∀ g : Nat, (g : Int) < grs σ → mateZ σ g ≠ -1 → mateZ σ g < (g : Int) → (cntZ σ : Int) < grs σ := fun g hg h1 h2 => by
    have e : (nbZ σ (g + 1)).2 = (nbZ σ g).2 := by rw [nbZ_succ, if_pos ⟨h1, h2⟩]
    have h3 := nbZ_cnt σ g
    have h4 := nbZ_up σ (g + 1) ((grs σ).toNat - (g + 1))
    rw [show g + 1 + ((grs σ).toNat - (g + 1)) = (grs σ).toNat by omega] at h4
    unfold cntZ
    omega
  rcases hok k with z | ⟨m1, m2, m3, m4, m5, m6⟩
  · exact absurd z hk
  · by_cases c : mateZ σ k < (k : Int)
    · exact key k m1 hk c
    · refine key (mateZ σ k).toNat (by omega) (by rw [m5]; omega) (by rw [m5]; omega)
section BCK
variable {σ : Nat → Int} {nm : Nat → Int64} {u nw : Nat} {pf : Nat → Nat → Int} {I : Ii} {J : Jj} {sL : Nat} {xs : Nat → Int} {Q : Int → Ii → Jj → Prop}
/-- behind a shrinking and a growing the row tells the same -/
theorem RS_back (hV : VS σ) (h5 : σ 5 < 4) (hS : RS 300 I (updr (shZ σ) 5 (shZ σ 5 - 1))) : RS 300 I σ := by
  have hM := hV.M
  have b5 := ms_5 hM
  have b0 := ms_0 hM
  generalize hτ : updr (shZ σ) 5 (shZ σ 5 - 1) = τ at hS
  have t5 : τ 5 = σ 5 := by rw [← hτ, updr_self, shZ_5]; omega
  have o : ∀ i, i ≠ 5 → (i < 35 + 14 * ((σ 5).toNat + 1) ∨ (105 ≤ i ∧ i < 105 + (σ 5).toNat + 1) ∨ 105 + (σ 5).toNat + 1 < i) → τ i = σ i := fun i h1 h2 => by
    rw [← hτ, updr_ne h1, shZ_o hM h5 (by omega)]
  obtain ⟨s1, s2, s3, s4, s6, s7, s8⟩ := hS
  have ke : kev τ = kev σ := by unfold kev; rw [o 6 (by omega) (by omega)]
  have o0 := o 0 (by omega) (by omega)
  refine ⟨by rw [s1, t5], by rw [s2, o 4 (by omega) (by omega)], by rw [s3, ke], fun v hv => ?_, fun l hl => ?_, fun l v hl hv => ?_, fun i w hi hw => ?_⟩
  · rw [s4 v (by rw [o0]; exact hv), o _ (by omega) (by omega)]
  · rw [s6 l (by rw [t5]; exact hl), o _ (by omega) (by omega)]
  · rw [s7 l v (by rw [t5]; exact hl) (by rw [o0]; exact hv)]
    exact o (35 + 14 * l + v) (by omega) (by omega)
  · rw [s8 i w (by rw [ke]; exact hi) hw, o 6 (by omega) (by omega)]
    exact o _ (by omega) (by omega)
theorem c_back (h : LWS σ nm u nw pf I J) (hq : ∀ I' J', Q 1 I' J') : wp_L_back sL xs I J Q := by
  have hV := h.2.2.1.1.1
  have hM := hV.M
  have b5 := ms_5 hM
  have gr := grs_b hM
  unfold wp_L_back
  refine fr_X11_whyNotShrink (c_whyNotShrink hV h.1 h.2.1) (fun v1 I1 J1 e1 s1 => ?_)
  have k1 := h.q s1
  have bv : 0 ≤ v1 ∧ v1 ≤ 2 := by rw [e1]; split <;> (try split) <;> omega
  refine ⟨⟨by omega, by omega⟩, fun c => ?_, fun _ => hq _ _⟩
  have h4 : σ 5 ≠ 4 ∧ pairZ σ ≠ 0 := by
    constructor
    · intro q; rw [if_pos q] at e1; omega
    · intro q
      by_cases q5 : σ 5 = 4
      · rw [if_pos q5] at e1; omega
      · rw [if_neg q5, if_pos q] at e1; omega
  have hlt := cnt_lt hM h4.2
  refine fr_X11_setting (c_setting hV k1.1 k1.2.1 k1.2.2.2.1.1 (by omega)) (fun v3 e3 => ?_)
  have e3 : v3 = grs σ := e3
  refine fr_X11_shrink (c_shrink hV k1.1 k1.2.1 k1.2.2.2.1.1 h4.1 h4.2) (fun v4 I4 J4 e4 s4 => ?_)
  obtain ⟨hf4, hk4⟩ := k1.cs.hf s4 e4.2.1 e4.2.2
  have hV4 := shZ_VS hV (by omega)
  have g1 : grs (shZ σ) = ((cntZ σ : Nat) : Int) := by
    unfold grs
    rw [shZ_5, show 105 + (σ 5 + 1).toNat = 105 + (σ 5).toNat + 1 by omega]
    exact shZ_n hM
  have w4 := k1.2.2.1.cls k1.2.2.2.2.1 hk4
  have ev4 := e4.1
  rw [g1] at ev4
  refine ⟨⟨by omega, by omega⟩, ⟨by omega, by omega⟩, fun z => by omega, fun _ => ?_⟩
  obtain ⟨r1, r2, r3, r4, r5⟩ := hf4
  obtain ⟨u1, nw1, pf1, p1, p2, p3, p4, -⟩ := HN_push r3.1 r3.2.1 hV r3.2.2
  have cs4 : CSd (shZ σ) nm u1 nw1 pf1 I4 J4 := ⟨r1.ge (shZ_GE hM (by omega)) hM, r2, ⟨p1, p2⟩, r4, r5⟩
  have s5 : shZ σ 5 = σ 5 + 1 := shZ_5 σ
  refine fr_X11_grow (c_grow hV4 cs4.2.1 cs4.2.2.1.1 (by omega)) (fun v7 I7 J7 e7 s7 => ?_)
  obtain ⟨hf7, hk7⟩ := cs4.hf s7 e7.2.1 e7.2.2
  have g7 : grs (updr (shZ σ) 5 (shZ σ 5 - 1)) = grs σ := by
    unfold grs
    rw [updr_self, updr_ne (by omega), s5, show (σ 5 + 1 - 1).toNat = (σ 5).toNat by omega]
    exact shZ_o hM (by omega) (by omega)
  have ev7 := e7.1
  rw [g7] at ev7
  have w7 := w4.cls cs4.2.2.2.1 hk7
  obtain ⟨q1, q2, q3, q4, q5⟩ := hf7
  obtain ⟨u2, nw2, pf2, a1, a2, a3, a4, a5⟩ := HN_push q3.1 q3.2.1 hV4 q3.2.2
  have L7 : LWS σ nm u2 nw2 pf2 I7 J7 := ⟨q1.ge (shZ_GE hM (by omega)).symm hV4.M, RS_back hV (by omega) q2, w7, ⟨a1, a2⟩, q4, q5⟩
  refine ⟨⟨by omega, by omega⟩, ⟨by omega, by omega⟩, fun _ => ?_, fun z => by omega⟩
  refine c_alike L7 (fun I10 J10 k10 => ⟨fun z => absurd z (by decide), fun _ => ?_⟩)
  have L10 := k10.1
  refine fr_X11_undo (c_undo L10.2.1 L10.2.2.2.1.2 L10.2.2.2.1.1) (fun v11 I11 J11 e11 s11 => ?_)
  obtain ⟨f1, f2, nw3, f3⟩ := e11.2 a3
  have u2b := a1.2.2.1
  have a6 := a5 p3
  refine ⟨⟨by omega, by omega⟩, fun z => by omega, fun _ => ?_⟩
  have hk11 : ∀ k, 390 ≤ k → I11 k = I10 k := s11.hi rfl
  refine fr_X11_undo (c_undo f2 (fun i hi => L10.2.2.2.1.2 i (by omega)) f3) (fun v13 I13 J13 e13 s13 => ?_)
  obtain ⟨m1, m2, nw4, m3⟩ := e13.2 (by omega)
  refine ⟨⟨by omega, by omega⟩, fun z => by omega, fun _ => ?_⟩
  have hk13 : ∀ k, 390 ≤ k → I13 k = I11 k := s13.hi rfl
  have e2 : pf2 (u2 - 1 - 1) = σ := by
    rw [show u2 - 1 - 1 = u2 - 2 by omega, a6.2, p4]
  rw [e2] at m2
  have L13 : LWS σ nm (u2 - 1 - 1) nw4 pf2 I13 J13 := ⟨(L10.1.fr s11).fr s13, m2, (L10.2.2.1.cls L10.2.2.2.2.1 hk11).cls (by rw [hk11 999 (by omega)]; exact L10.2.2.2.2.1) hk13, ⟨m3, fun i hi => L10.2.2.2.1.2 i (by omega)⟩, by rw [hk13 999 (by omega), hk11 999 (by omega)]; exact L10.2.2.2.2.1, fun k hk => by
    show I13 (1000000 + k) 0 ≠ 3
    rw [hk13 _ (by omega), hk11 _ (by omega)]
    exact L10.2.2.2.2.2 k hk⟩
  exact c_alike L13 (fun I15 J15 _ => ⟨fun z => absurd z (by decide), fun _ => hq _ _⟩)
end BCK
