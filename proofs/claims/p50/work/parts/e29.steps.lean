/-! ===== a step ===== -/
theorem nx_ok {σ : Nat → Int} (hM : MS σ) (h : nxZ σ ≠ -1) : (0 < debtsZ σ → dwZ σ (nxZ σ / 10) (nxZ σ % 10) < debtsZ σ ∨ 0 < gainZ σ (nxZ σ / 10) (nxZ σ % 10)) ∧ (¬ 0 < debtsZ σ → 0 < gainZ σ (nxZ σ / 10) (nxZ σ % 10)) := by
  have b2 := ms_2 hM
  have key : ∀ lw, (bmZ σ lw (grs σ).toNat).1 ≠ -1 → (lw = true → dwZ σ ((bmZ σ lw (grs σ).toNat).1 / 10) ((bmZ σ lw (grs σ).toNat).1 % 10) < debtsZ σ) ∧ (lw = false → 0 < gainZ σ ((bmZ σ lw (grs σ).toNat).1 / 10) ((bmZ σ lw (grs σ).toNat).1 % 10)) := fun lw hn => by
    rcases bmZ_F (σ := σ) (lw := lw) (P := (σ 2).toNat) (by omega) rfl (grs σ).toNat with z | ⟨g, p, h1, h2, h3, -⟩
    · exact absurd z.1 hn
    · rw [h3.1, show (10 * (g : Int) + (p : Int)) / 10 = (g : Int) by omega, show (10 * (g : Int) + (p : Int)) % 10 = (p : Int) by omega]
      unfold okM at h2
      constructor
      · intro e
        apply Classical.byContradiction
        intro q
        exact h2 (Or.inr (Or.inl ⟨e, by omega⟩))
      · intro e
        apply Classical.byContradiction
        intro q
        exact h2 (Or.inr (Or.inr ⟨e, by omega⟩))
  by_cases c : 0 < debtsZ σ
  · refine ⟨fun _ => ?_, fun z => absurd c z⟩
    unfold nxZ at h ⊢
    rw [if_pos c] at h ⊢
    by_cases c2 : (bmZ σ true (grs σ).toNat).1 = -1
    · rw [if_pos c2] at h ⊢
      exact Or.inr ((key false h).2 rfl)
    · rw [if_neg c2] at h ⊢
      exact Or.inl ((key true h).1 rfl)
  · refine ⟨fun z => absurd z c, fun _ => ?_⟩
    unfold nxZ at h ⊢
    rw [if_neg c] at h ⊢
    exact (key false h).2 rfl
theorem cutZ_comes {σ : Nat → Int} (hV : VS σ) {g p : Int} (hne : gPt σ g ≠ p) : cutZ (comesZ σ g p) = cutZ σ - gainZ σ g p ∧ cutZ (mvR σ g p (σ 0).toNat) = cutZ (comesZ σ g p) := by
  have hM := hV.M
  have b0 := ms_0 hM
  have b1 := ms_1 hM
  have e : cutZ (comesZ σ g p) = cutZ (mvR σ g p (σ 0).toNat) := by
    have ec : ∀ i, i < 6 ∨ (6 < i ∧ i < 230) → comesZ σ g p i = mvR σ g p (σ 0).toNat i := fun i hi => by
      unfold comesZ
      rw [if_neg hne]
      exact evR_o (by omega)
    have c1 : comesZ σ g p 1 = σ 1 := comesZ_o (by omega) (by omega)
    have m1 : mvR σ g p (σ 0).toNat 1 = σ 1 := mvR_o (by omega)
    unfold cutZ
    rw [c1, m1]
    refine sm_cong (fun e he => ?_)
    have ha := hV.a he
    have hb := hV.b he
    unfold cutE
    rw [ec (110 + e) (by omega), ec (150 + e) (by omega), ec (190 + e) (by omega)]
    rw [show mvR σ g p (σ 0).toNat (110 + e) = σ (110 + e) from mvR_o (by omega), show mvR σ g p (σ 0).toNat (150 + e) = σ (150 + e) from mvR_o (by omega)]
    rw [ec (21 + (σ (110 + e)).toNat) (by omega), ec (21 + (σ (150 + e)).toNat) (by omega)]
  exact ⟨by rw [e, cutZ_move hV hne], e.symm⟩
theorem debtsZ_comes {σ : Nat → Int} (hV : VS σ) {g p : Int} (hg : 0 ≤ g ∧ g < grs σ) (hne : gPt σ g ≠ p) : debtsZ (comesZ σ g p) = dwZ σ g p := by
  have hM := hV.M
  have b0 := ms_0 hM
  have hg' := comesZ_GE (g := g) (p := p) hM
  have c0 : comesZ σ g p 0 = σ 0 := hg' 0 (by omega)
  have c2 : comesZ σ g p 2 = σ 2 := hg' 2 (by omega)
  have cl : limZ (comesZ σ g p) = limZ σ := by
    unfold limZ
    rw [hg'.allW hM, c2, hg' 3 (by omega)]
  have hw : ∀ q : Int, wOf (comesZ σ g p) q = wOf σ q - (if q = gPt σ g then 1 else 0) * gW σ g + (if q = p then 1 else 0) * gW σ g := fun q => by
    have m : ∀ x : Int, (if q = x then (1 : Int) else 0) * gW σ g = sm (fun v => if gAt σ v = g ∧ q = x then σ (7 + v) else 0) (σ 0).toNat := fun x => by
      by_cases c : q = x
      · rw [if_pos c, Int.one_mul]
        unfold gW
        refine sm_cong (fun v _ => ?_)
        by_cases c1 : gAt σ v = g
        · rw [if_pos c1, if_pos ⟨c1, c⟩]
        · rw [if_neg c1, if_neg (fun z => c1 z.1)]
      · rw [if_neg c, Int.zero_mul]
        exact (sm_none (fun v _ => if_neg (fun z => c z.2))).symm
    rw [m, m]
    unfold wOf
    rw [c0, ← sm_sub, ← sm_add]
    refine sm_cong (fun v hv => ?_)
    rw [comesZ_p hM hv hV.un, hg' (7 + v) (by omega)]
    by_cases c : gAt σ v = g
    · have hp : σ (21 + v) = gPt σ g := by rw [← c, hV.gp hv]
      rw [if_pos c, hp]
      by_cases q1 : q = gPt σ g
      · have q2 : ¬ q = p := fun z => hne (by rw [← q1, z])
        rw [if_neg (c := p = q) (fun z => q2 z.symm), if_pos (c := gPt σ g = q) q1.symm, if_pos (c := gAt σ v = g ∧ q = gPt σ g) ⟨c, q1⟩, if_neg (c := gAt σ v = g ∧ q = p) (fun z => q2 z.2)]
        omega
      · rw [if_neg (c := gPt σ g = q) (fun z => q1 z.symm), if_neg (c := gAt σ v = g ∧ q = gPt σ g) (fun z => q1 z.2)]
        by_cases q2 : q = p
        · rw [if_pos (c := p = q) q2.symm, if_pos (c := gAt σ v = g ∧ q = p) ⟨c, q2⟩]; omega
        · rw [if_neg (c := p = q) (fun z => q2 z.symm), if_neg (c := gAt σ v = g ∧ q = p) (fun z => q2 z.2)]; omega
    · rw [if_neg c, if_neg (c := gAt σ v = g ∧ q = gPt σ g) (fun z => c z.1), if_neg (c := gAt σ v = g ∧ q = p) (fun z => c z.1)]
      omega
  unfold debtsZ
  rw [c2]
  show _ = sm (dwQ σ g p) (σ 2).toNat
  refine sm_cong (fun q _ => ?_)
  rw [debtZ_pos, hw, cl]
  rfl
/-- the latest event is the move -/
theorem evt_comes {σ : Nat → Int} (hV : VS σ) {g p : Int} (hne : gPt σ g ≠ p) : 0 < kev (comesZ σ g p) ∧ evtZ (comesZ σ g p) 0 0 = g ∧ evtZ (comesZ σ g p) 0 2 = p ∧ evtZ (comesZ σ g p) 0 3 = cutZ (comesZ σ g p) := by
  have hM := hV.M
  have b6 := ms_6 hM
  have c6 := comesZ_6 (g := g) (p := p) hM
  rw [if_neg hne] at c6
  have ek : evK (mvR σ g p (σ 0).toNat) = 230 + 4 * (σ 6 % 30).toNat := by
    unfold evK
    rw [mvR_o (by omega)]
  have hcut := (cutZ_comes hV hne).2
  refine ⟨by unfold kev; rw [c6]; split <;> omega, ?_, ?_, ?_⟩
  · unfold evtZ
    rw [c6, show (σ 6 + 1 - 1 - 0) = σ 6 by omega]
    unfold comesZ
    rw [if_neg hne]
    unfold evR
    rw [ek, updr_ne (by omega), show 230 + 4 * (σ 6 % 30).toNat + ((0 : Int)).toNat = 230 + 4 * (σ 6 % 30).toNat from rfl, updr_ne (by omega), updr_ne (by omega), updr_ne (by omega), updr_self]
  · unfold evtZ
    rw [c6, show (σ 6 + 1 - 1 - 0) = σ 6 by omega]
    unfold comesZ
    rw [if_neg hne]
    unfold evR
    rw [ek, updr_ne (by omega), show 230 + 4 * (σ 6 % 30).toNat + ((2 : Int)).toNat = 230 + 4 * (σ 6 % 30).toNat + 2 from rfl, updr_ne (by omega), updr_self]
  · rw [← hcut]
    unfold evtZ
    rw [c6, show (σ 6 + 1 - 1 - 0) = σ 6 by omega]
    unfold comesZ
    rw [if_neg hne]
    unfold evR
    rw [ek, updr_ne (by omega), show 230 + 4 * (σ 6 % 30).toNat + ((3 : Int)).toNat = 230 + 4 * (σ 6 % 30).toNat + 3 from rfl, updr_self]
section STP
variable {σ : Nat → Int} {nm : Nat → Int64} {u nw : Nat} {pf : Nat → Nat → Int} {I : Ii} {J : Jj} {sL : Nat} {xs : Nat → Int} {Q : Int → Ii → Jj → Prop}
theorem c_lsteps (h : LWS σ nm u nw pf I J) (h6 : σ 6 ≤ 100000) (hq : ∀ (u' nw' : Nat) (pf' : Nat → Nat → Int) (I' : Ii) (J' : Jj), LWS σ nm u' nw' pf' I' J' → (∀ k, 390 ≤ k → I' k = I k) → Q 1 I' J') : wp_L_steps sL xs I J Q := by
  have hV := h.2.2.1.1.1
  have hM := hV.M
  have nb := nxZ_b hM
  have bc := cutZ_b hM
  have bd := debtsZ_b hM
  have b2 := ms_2 hM
  unfold wp_L_steps
  refine fr_X11_nextStep (c_nextStep hV h.1 h.2.1) (fun v1 I1 J1 e1 s1 => ?_)
  have k1 : LWK σ nm u nw pf I I1 J1 := LWK.q ⟨h, fun _ _ => rfl⟩ s1
  refine fr_X11_cut (c_cut hV k1.1.1 k1.1.2.1) (fun v2 I2 J2 e2 s2 => ?_)
  have k2 := k1.q s2
  refine fr_X11_debts (c_debts hV k2.1.1 k2.1.2.1) (fun v3 I3 J3 e3 s3 => ?_)
  have k3 := k2.q s3
  refine ⟨by rw [e1]; exact ⟨by omega, by omega⟩, fun c => ⟨⟨by omega, by omega⟩, ⟨by omega, by omega⟩, ?_⟩, fun c => ?_⟩
  · rw [e1]
    have hne : nxZ σ ≠ -1 := by omega
    have hi := nxZ_in hM hne
    have hgp := nxZ_ne hM hne
    have hok := nx_ok hM hne
    have hcc := (cutZ_comes hV hgp).1
    have hdd := debtsZ_comes hV hi.1 hgp
    have hev := evt_comes hV hgp
    generalize hg : nxZ σ / 10 = g at *
    generalize hp : nxZ σ % 10 = p at *
    have bg := gainZ_b hM g p
    have bw := dwZ_b hM g p
    refine fr_X11_gain (c_gain hV k3.1.1 k3.1.2.1 hi.1 hi.2) (fun v7 I7 J7 e7 s7 => ⟨⟨by omega, by omega⟩, ⟨by omega, by omega⟩, ?_⟩)
    have k7 := k3.q s7
    refine fr_X11_debtsIf (c_debtsIf hV k7.1.1 k7.1.2.1 hi.1 hi.2) (fun v10 I10 J10 e10 s10 => ?_)
    have k10 := k7.q s10
    refine fr_X11_step (c_step hV k10.1.1 k10.1.2.1 k10.1.2.2.2.1.1 (by omega)) (fun v11 I11 J11 e11 s11 => ?_)
    have hk11 : ∀ k, 390 ≤ k → I11 k = I10 k := s11.hi rfl
    obtain ⟨r1, r2, r3⟩ := e11.2 hne
    have e1' : (stpZ 1 σ).2 = comesZ σ g p := by
      unfold stpZ
      rw [if_neg hne, hg, hp]
      rfl
    rw [e1'] at r1 r2
    obtain ⟨hf, -⟩ := k10.1.cs.hf s11 r2 r3
    obtain ⟨q1, q2, q3, q4, q5⟩ := hf
    obtain ⟨u', nw', pf', a1, a2, a3, a4, -⟩ := HN_push q3.1 q3.2.1 hV q3.2.2
    have hVt := VS_comes hV hi.1 hi.2 (by omega)
    have hRt := q1.ge (comesZ_GE (g := g) (p := p) hM) hM
    have w11 := k10.1.2.2.1.cls k10.1.2.2.2.2.1 hk11
    refine ⟨by rw [r1, hcc]; exact ⟨by omega, by omega⟩, ⟨by omega, by omega⟩, fun z => absurd (by rw [r1, hcc]; omega) z, fun _ => ?_⟩
    refine fr_X11_debts (c_debts hVt hRt q2) (fun v14 I14 J14 e14 s14 => ?_)
    have e14' : v14 = v10 := by rw [e14, hdd, e10]
    have fin : B_L_steps_126 sL xs Q (nxZ σ) I14 J14 := by
      have q2' := q2.fr s14
      unfold B_L_steps_126
      refine fr_X11_event (c_event hVt q2' (x := 0) (y := 0) (by omega) (by omega)) (fun v27 e27 => ?_)
      rw [hev.2.1] at e27
      refine ⟨⟨by omega, by omega⟩, by rw [e27]; exact ⟨by omega, by omega⟩, ⟨by omega, by omega⟩, fun z => absurd (by omega) z, fun _ => ?_⟩
      refine fr_X11_event (c_event hVt q2' (x := 0) (y := 2) (by omega) (by omega)) (fun v31 e31 => ?_)
      rw [hev.2.2.1] at e31
      refine ⟨⟨by omega, by omega⟩, by rw [e31]; exact ⟨by omega, by omega⟩, ⟨by omega, by omega⟩, fun z => absurd (by omega) z, fun _ => ?_⟩
      refine fr_X11_event (c_event hVt q2' (x := 0) (y := 3) (by omega) (by omega)) (fun v35 e35 => ?_)
      rw [hev.2.2.2] at e35
      refine fr_X11_cut (c_cut hVt (hRt.fr s14) q2') (fun v36 I36 J36 e36 s36 => ?_)
      have bct := cutZ_b hVt.M
      refine ⟨by rw [e35]; exact ⟨by omega, by omega⟩, by rw [e36]; exact ⟨by omega, by omega⟩, fun _ => ?_, fun z => absurd (by omega) z⟩
      have hH36 : HR I36 u' nw' pf' := HR_same (HR_same a1 s14.k (fun m hm => by
        have : m = 0 ∨ m = 1 ∨ m = 2 ∨ m = 3 ∨ m = 4 ∨ m = 5 := by omega
        rcases this with rfl | rfl | rfl | rfl | rfl | rfl <;> exact ⟨s14.k, s14.k, s14.k, s14.k, s14.k⟩)) s36.k (fun m hm => by
        have : m = 0 ∨ m = 1 ∨ m = 2 ∨ m = 3 ∨ m = 4 ∨ m = 5 := by omega
        rcases this with rfl | rfl | rfl | rfl | rfl | rfl <;> exact ⟨s36.k, s36.k, s36.k, s36.k, s36.k⟩)
      refine fr_X11_undo (c_undo (q2'.fr s36) a2 hH36) (fun v39 I39 J39 e39 s39 => ?_)
      obtain ⟨f1, f2, nw3, f3⟩ := e39.2 a3
      have u6 := a1.2.2.1
      rw [a4] at f2
      have hk14 : ∀ k, 390 ≤ k → I14 k = I11 k := s14.hi rfl
      have hk36 : ∀ k, 390 ≤ k → I36 k = I14 k := s36.hi rfl
      have hk39 : ∀ k, 390 ≤ k → I39 k = I36 k := s39.hi rfl
      have hka : ∀ k, 390 ≤ k → I39 k = I10 k := fun k hk => by rw [hk39 k hk, hk36 k hk, hk14 k hk, hk11 k hk]
      have L39 : LWS σ nm (u' - 1) nw3 pf' I39 J39 := ⟨((q1.fr s14).fr s36).fr s39, f2, k10.1.2.2.1.cls k10.1.2.2.2.2.1 hka, ⟨f3, fun i hi => a2 i (by omega)⟩, by rw [hka 999 (by omega)]; exact k10.1.2.2.2.2.1, fun k hk => by
        show I39 (1000000 + k) 0 ≠ 3
        rw [hka _ (by omega)]
        exact k10.1.2.2.2.2.2 k hk⟩
      refine ⟨⟨by omega, by omega⟩, fun z => by omega, fun _ => ?_⟩
      exact c_alike L39 (fun I41 J41 k41 => ⟨fun z => absurd z (by decide), fun _ => hq _ _ _ I41 J41 k41.1 (fun k hk => by rw [k41.2 k hk, hka k hk, k10.2 k hk])⟩)
    refine ⟨by rw [e14']; exact ⟨by omega, by omega⟩, ⟨by omega, by omega⟩, fun z => absurd e14' z, fun _ => ⟨by rw [e3]; exact ⟨by omega, by omega⟩, fun z => ⟨⟨by omega, by omega⟩, fun _ => fin, fun z2 => absurd (by have := hok.2 (by omega); omega) z2⟩, fun z => ⟨fun _ => fin, fun z2 => ⟨⟨by omega, by omega⟩, fun _ => fin, fun z3 => absurd (by have := hok.1 (by omega); omega) z3⟩⟩⟩⟩
  · have hn : nxZ σ = -1 := by omega
    refine fr_X11_step (c_step hV k3.1.1 k3.1.2.1 k3.1.2.2.2.1.1 (by omega)) (fun v20 I20 J20 e20 s20 => ?_)
    obtain ⟨r1, r2, r3⟩ := e20.1 hn
    have hk20 : ∀ k, 390 ≤ k → I20 k = I3 k := s20.hi rfl
    have L20 : LWK σ nm u nw pf I I20 J20 := ⟨⟨k3.1.1.fr s20, r2, k3.1.2.2.1.cls k3.1.2.2.2.2.1 hk20, ⟨r3, k3.1.2.2.2.1.2⟩, by rw [hk20 999 (by omega)]; exact k3.1.2.2.2.2.1, fun k hk => by
      show I20 (1000000 + k) 0 ≠ 3
      rw [hk20 _ (by omega)]
      exact k3.1.2.2.2.2.2 k hk⟩, fun k hk => by rw [hk20 k hk, k3.2 k hk]⟩
    refine ⟨by rw [r1]; exact ⟨by decide, by decide⟩, fun z => absurd r1 z, fun _ => ?_⟩
    refine fr_X11_stepsToEnd (c_stepsToEnd (m := 0) rfl (by omega) hV L20.1.1 L20.1.2.1 (by omega)) (fun v22 I22 J22 e22 s22 => ?_)
    have L22 := L20.q s22
    have e22' : v22 = 0 := by
      rw [e22]
      unfold endZ stpZ
      rw [if_pos hn]
      rfl
    refine ⟨by rw [e22']; exact ⟨by decide, by decide⟩, fun z => absurd e22' z, fun _ => ?_⟩
    refine fr_X11_cutBehind (c_cutBehind (m := 3) rfl (by omega) hV L22.1.1 L22.1.2.1 (by omega)) (fun v24 I24 J24 e24 s24 => ?_)
    have L24 := L22.q s24
    have e24' : v24 = cutZ σ := by
      rw [e24]
      unfold stpZ
      rw [if_pos hn]
    exact ⟨by rw [e24']; exact ⟨by omega, by omega⟩, by rw [e2]; exact ⟨by omega, by omega⟩, fun z => absurd (by rw [e24', e2]) z, fun _ => hq u nw pf I24 J24 L24.1 L24.2⟩
end STP
