/-! ===== acts ===== -/
/-- behind an act -/
def AQ (σ : Nat → Int) (nm : Nat → Int64) (I : Ii) (Q : Int → Ii → Jj → Prop) : Prop := ∀ (τ : Nat → Int) (u' nw' : Nat) (pf' : Nat → Nat → Int) (I' : Ii) (J' : Jj), LWS τ nm u' nw' pf' I' J' → GE σ τ → τ 6 ≤ σ 6 + 10 → I' 999 0 ≤ I 999 0 + 200 → Q 1 I' J'
section ACS
variable {σ : Nat → Int} {nm : Nat → Int64} {u nw : Nat} {pf : Nat → Nat → Int} {I : Ii} {J : Jj} {sL : Nat} {xs : Nat → Int} {l3 : Int} {Q : Int → Ii → Jj → Prop}
theorem a_shrink (h : LWS σ nm u nw pf I J) (hN : I 999 0 ≤ 400000) (hq : AQ σ nm I Q) : B_L_acts_108 sL xs l3 Q I J := by
  have hV := h.2.2.1.1.1
  have hM := hV.M
  have b5 := ms_5 hM
  have h9 := h.2.2.2.2.1
  unfold B_L_acts_108
  refine w_whyShrink h.2.2.1 ⟨h9, by omega⟩ (fun I1 w1 f1 n1 => ?_)
  have k1 := (h.cs.w f1).ls w1
  refine fr_X11_whyNotShrink (c_whyNotShrink hV k1.1 k1.2.1) (fun v38 I38 J38 e38 s38 => ?_)
  have k38 := k1.q s38
  have n38 : I38 999 0 = I1 999 0 := by rw [s38.hi rfl 999 (by omega)]
  have e38 : v38 = whyS σ := e38
  have bw : 0 ≤ whyS σ ∧ whyS σ ≤ 2 := by unfold whyS; split <;> (try split) <;> omega
  refine ⟨by rw [e38]; exact ⟨by omega, by omega⟩, ⟨by omega, by omega⟩, fun z => absurd e38 z, fun _ => ⟨fun _ => hq σ u nw pf I38 J38 k38 (GE.refl σ) (by omega) (by omega), fun z => ?_⟩⟩
  have h4 : σ 5 ≠ 4 ∧ pairZ σ ≠ 0 := by
    unfold whyS at z
    constructor
    · intro q; rw [if_pos q] at z; omega
    · intro q
      by_cases q5 : σ 5 = 4
      · rw [if_pos q5] at z; omega
      · rw [if_neg q5, if_pos q] at z; omega
  refine fr_X11_shrink (c_shrink hV k38.1 k38.2.1 k38.2.2.2.1.1 h4.1 h4.2) (fun v41 I41 J41 e41 s41 => ?_)
  obtain ⟨hf, hk⟩ := k38.cs.hf s41 e41.2.1 e41.2.2
  have w41 := k38.2.2.1.cls k38.2.2.2.2.1 hk
  have n41 : I41 999 0 = I38 999 0 := by rw [hk 999 (by omega)]
  refine w_shrink w41 ⟨hf.2.2.2.1, by omega⟩ (by omega) (fun I42 w42 f42 n42 => ?_)
  obtain ⟨u', nw', pf', hL, -, -, -⟩ := (hf.w f42).ls hV (shZ_GE hM (by omega)) w42
  have g1 : grs (shZ σ) = ((cntZ σ : Nat) : Int) := by
    unfold grs
    rw [shZ_5, show 105 + (σ 5 + 1).toNat = 105 + (σ 5).toNat + 1 by omega]
    exact shZ_n hM
  have gb := grs_b (shZ_VS hV (by omega)).M
  rw [← g1]
  refine ⟨by rw [e41.1]; exact ⟨by omega, by omega⟩, ⟨by omega, by omega⟩, fun z => absurd e41.1 z, fun _ => hq _ u' nw' pf' I42 J41 hL (shZ_GE hM (by omega)) ?_ (by omega)⟩
  rw [shZ_o hM (by omega) (by omega)]
  omega
theorem a_grow (h : LWS σ nm u nw pf I J) (hN : I 999 0 ≤ 400000) (hq : AQ σ nm I Q) : wp_Jx4a65c_size_8abf5 1020 I J (fun v13 I13 J13 => rg v13 ∧ (v13 = 1 → Q 1 I13 J13) ∧ (¬ v13 = 1 → wp_X11_grow I13 J13 (fun v15 I15 J15 => wp_X12_grow I15 J15 (fun v16 I16 J16 => rg v15 ∧ rg v16 ∧ (¬ v15 = v16 → Q 0 I16 J16) ∧ (v15 = v16 → Q 1 I16 J16))))) := by
  have hV := h.2.2.1.1.1
  have hM := hV.M
  have b5 := ms_5 hM
  have h9 := h.2.2.2.2.1
  obtain ⟨L, hL⟩ := h.2.2.1.2.2.1
  refine AL_size hL.1 ⟨⟨by omega, by omega⟩, fun _ => hq σ u nw pf I J h (GE.refl σ) (by omega) (by omega), fun z => ?_⟩
  have h5 : 0 < σ 5 := by omega
  refine fr_X11_grow (c_grow hV h.2.1 h.2.2.2.1.1 h5) (fun v15 I15 J15 e15 s15 => ?_)
  obtain ⟨hf, hk⟩ := h.cs.hf s15 e15.2.1 e15.2.2
  have w15 := h.2.2.1.cls h9 hk
  have n15 : I15 999 0 = I 999 0 := by rw [hk 999 (by omega)]
  have hVt := growZ_VS hV h5
  have o : ∀ i, i ≠ 5 → updr σ 5 (σ 5 - 1) i = σ i := fun i hi => updr_ne hi
  refine w_grow w15 ⟨by omega, by omega⟩ hVt (by rw [updr_self]; omega) o (fun I16 w16 f16 n16 => ?_)
  have hg : GE σ (updr σ 5 (σ 5 - 1)) := fun i hi => o i (by omega)
  obtain ⟨u', nw', pf', hL, -, -, -⟩ := (hf.w f16).ls hV hg w16
  have gb := grs_b hVt.M
  exact ⟨by rw [e15.1]; exact ⟨by omega, by omega⟩, ⟨by omega, by omega⟩, fun z => absurd e15.1 z, fun _ => hq _ u' nw' pf' I16 J15 hL hg (by rw [o 6 (by omega)]; omega) (by omega)⟩
theorem a_move {g p : Int} (h : LWS σ nm u nw pf I J) (h6 : σ 6 ≤ 150) (hN : I 999 0 ≤ 400000) (hg : 0 ≤ g ∧ g < grs σ) (hp : 0 ≤ p ∧ p < σ 2) (hq : AQ σ nm I Q) : B_L_acts_175 sL xs l3 Q g p I J := by
  have hV := h.2.2.1.1.1
  have hM := hV.M
  have h9 := h.2.2.2.2.1
  unfold B_L_acts_175
  refine w_why h.2.2.1 hg.1 hg.2 hp ?_
  refine fr_X11_whyNotMove (c_whyNotMove hV h.1 h.2.1 hg hp) (fun v46 I46 J46 e46 s46 => ?_)
  have k46 := h.q s46
  have n46 : I46 999 0 = I 999 0 := by rw [s46.hi rfl 999 (by omega)]
  have bw : 0 ≤ wmZ σ g p ∧ wmZ σ g p ≤ 2 := by unfold wmZ; split <;> (try split) <;> omega
  refine ⟨by rw [e46]; exact ⟨by omega, by omega⟩, ⟨by omega, by omega⟩, fun z => absurd e46 z, fun _ => ⟨fun _ => hq σ u nw pf I46 J46 k46 (GE.refl σ) (by omega) (by omega), fun z => ?_⟩⟩
  refine fr_X11_move (c_move hV k46.1 k46.2.1 k46.2.2.2.1.1 hg hp (by omega) (by omega)) (fun v49 I49 J49 e49 s49 => ?_)
  obtain ⟨hf, hk⟩ := k46.cs.hf s49 e49.2.1 e49.2.2
  have w49 := k46.2.2.1.cls k46.2.2.2.2.1 hk
  have n49 : I49 999 0 = I46 999 0 := by rw [hk 999 (by omega)]
  refine w_move w49 ⟨by omega, by omega⟩ (by omega) hg.1 hg.2 hp (fun I50 w50 f50 n50 => ?_)
  obtain ⟨u', nw', pf', hL, -, -, -⟩ := (hf.w f50).ls hV (comesZ_GE hM) w50
  have bc := cutZ_b w50.1.1.M
  refine ⟨by rw [e49.1]; exact ⟨by omega, by omega⟩, ⟨by omega, by omega⟩, fun z => absurd e49.1 z, fun _ => hq _ u' nw' pf' I50 J49 hL (comesZ_GE hM) ?_ (by omega)⟩
  rw [comesZ_6 hM]
  split <;> omega
theorem a_step (h : LWS σ nm u nw pf I J) (h6 : σ 6 ≤ 150) (hN : I 999 0 ≤ 400000) (hq : AQ σ nm I Q) : B_L_acts_228 sL xs l3 Q I J := by
  have hV := h.2.2.1.1.1
  have hM := hV.M
  have h9 := h.2.2.2.2.1
  have nb := nxZ_b hM
  unfold B_L_acts_228
  refine fr_X11_nextStep (c_nextStep hV h.1 h.2.1) (fun v53 I53 J53 e53 s53 => ?_)
  have k53 := h.q s53
  have n53 : I53 999 0 = I 999 0 := by rw [s53.hi rfl 999 (by omega)]
  refine w_next k53.2.2.1 ⟨by rw [e53]; exact ⟨by omega, by omega⟩, ⟨by omega, by omega⟩, fun z => absurd e53 z, fun _ => ?_⟩
  refine fr_X11_step (c_step hV k53.1 k53.2.1 k53.2.2.2.1.1 (by omega)) (fun v57 I57 J57 e57 s57 => ?_)
  have hk : ∀ k, 390 ≤ k → I57 k = I53 k := s57.hi rfl
  have n57 : I57 999 0 = I53 999 0 := by rw [hk 999 (by omega)]
  have w57 := k53.2.2.1.cls k53.2.2.2.2.1 hk
  refine w_step w57 ⟨by omega, by omega⟩ (by omega) (fun c => ?_) (fun c I58 w58 f58 n58 => ?_)
  · obtain ⟨r1, r2, r3⟩ := e57.1 c
    have cs : CSd σ nm u nw pf I57 J57 := ⟨k53.1.fr s57, r2, ⟨r3, k53.2.2.2.1.2⟩, by omega, fun k hk2 => by
      show I57 (1000000 + k) 0 ≠ 3
      rw [hk _ (by omega)]; exact k53.2.2.2.2.2 k hk2⟩
    exact ⟨by rw [r1]; exact ⟨by decide, by decide⟩, ⟨by decide, by decide⟩, fun z => absurd r1 z, fun _ => hq σ u nw pf I57 J57 (cs.ls w57) (GE.refl σ) (by omega) (by omega)⟩
  · obtain ⟨r1, r2, r3⟩ := e57.2 c
    have e1 : (stpZ 1 σ).2 = comesZ σ (nxZ σ / 10) (nxZ σ % 10) := by
      unfold stpZ
      rw [if_neg c]
      rfl
    rw [e1] at r1 r2
    obtain ⟨hf, -⟩ := k53.cs.hf s57 r2 r3
    obtain ⟨u', nw', pf', hL, -, -, -⟩ := (hf.w f58).ls hV (comesZ_GE hM) w58
    have bc := cutZ_b w58.1.1.M
    refine ⟨by rw [r1]; exact ⟨by omega, by omega⟩, ⟨by omega, by omega⟩, fun z => absurd r1 z, fun _ => hq _ u' nw' pf' I58 J57 hL (comesZ_GE hM) ?_ (by omega)⟩
    rw [comesZ_6 hM]
    split <;> omega
theorem a_steps {v : Int} (h : LWS σ nm u nw pf I J) (h6 : σ 6 ≤ 150) (hN : I 999 0 ≤ 400000) (hv : 0 ≤ v ∧ v < 4000) (hq : AQ σ nm I Q) : (((0 : Int) ≤ v ∧ v < 2147483648) ∧ ((1 : Int) ≤ 9 ∧ (9 : Int) < 2147483648)) ∧ wp_X11_steps ((1 : Int) + (v % 9)) I J (fun v20 I20 J20 => (((0 : Int) ≤ v ∧ v < 2147483648) ∧ ((1 : Int) ≤ 9 ∧ (9 : Int) < 2147483648)) ∧ wp_X12_steps ((1 : Int) + (v % 9)) I20 J20 (fun v22 I22 J22 => rg v20 ∧ rg v22 ∧ (¬ v20 = v22 → Q 0 I22 J22) ∧ (v20 = v22 → Q 1 I22 J22))) := by
  have hV := h.2.2.1.1.1
  have hM := hV.M
  have h9 := h.2.2.2.2.1
  generalize hm : (1 + v % 9).toNat = m
  have em : 1 + v % 9 = (m : Int) := by omega
  refine ⟨⟨by omega, by omega⟩, ?_⟩
  rw [em]
  refine fr_X11_steps (c_steps hV h.1 h.2.1 h.2.2.2.1.1 (m := m) (by omega) (by omega) rfl) (fun v20 I20 J20 e20 s20 => ⟨⟨by omega, by omega⟩, ?_⟩)
  obtain ⟨hf, hk⟩ := h.cs.hf s20 e20.2.1 e20.2.2
  have n20 : I20 999 0 = I 999 0 := by rw [hk 999 (by omega)]
  have w20 := h.2.2.1.cls h9 hk
  have hst := VS_stp m hV (by omega)
  have hkp := stpZ_keeps m hM hV.GV (by omega)
  refine w_steps w20 ⟨by omega, by omega⟩ (by omega) rfl (by omega) (fun I22 w22 f22 n22 => ?_)
  obtain ⟨u', nw', pf', hL, -, -, -⟩ := (hf.w f22).ls hV hst.2 w22
  exact ⟨by rw [e20.1]; exact ⟨by omega, by omega⟩, ⟨by omega, by omega⟩, fun z => absurd e20.1 z, fun _ => hq _ u' nw' pf' I22 J20 hL hst.2 (by omega) (by omega)⟩
theorem a_credit {v : Int} (h : LWS σ nm u nw pf I J) (hv : 0 ≤ v ∧ v < 4000) (hq : AQ σ nm I Q) : (((0 : Int) ≤ v ∧ v < 2147483648) ∧ ((1 : Int) ≤ 40 ∧ (40 : Int) < 2147483648)) ∧ ∀ I8 : Ii, I8 = up2 I 1000 3 (v % 40) → (((0 : Int) ≤ v ∧ v < 2147483648) ∧ ((1 : Int) ≤ 40 ∧ (40 : Int) < 2147483648)) ∧ wp_X11_setCredit (v % 40) I8 J (fun v10 I10 J10 => rg v10 ∧ rg (I 1000 3) ∧ (¬ v10 = (I 1000 3) → Q 0 I10 J10) ∧ (v10 = (I 1000 3) → Q 1 I10 J10)) := by
  have hV := h.2.2.1.1.1
  have hM := hV.M
  have h9 := h.2.2.2.2.1
  have b4 := ms_4 hM
  refine ⟨⟨by omega, by omega⟩, fun I8 e8 => ⟨⟨by omega, by omega⟩, ?_⟩⟩
  obtain ⟨w8, f8, n8⟩ := WO_cred h.2.2.1 h9 (a := v % 40) (by omega) e8
  have cs := h.cs.w f8
  have c4 : I 1000 3 = σ 4 := h.2.2.1.2.1.1.2.2.2
  refine fr_X11_setCredit (c_setCredit hV cs.2.1 cs.2.2.1.1 (a := v % 40) (by omega)) (fun v10 I10 J10 e10 s10 => ?_)
  obtain ⟨hf, hk⟩ := cs.hf s10 e10.2.1 e10.2.2
  have n10 : I10 999 0 = I8 999 0 := by rw [hk 999 (by omega)]
  have w10 := w8.cls cs.2.2.2.1 hk
  have hg : GE σ (updr σ 4 (v % 40)) := credZ_GE σ _
  obtain ⟨u', nw', pf', hL, -, -, -⟩ := hf.ls hV hg w10
  rw [c4]
  exact ⟨by rw [e10.1]; exact ⟨by omega, by omega⟩, ⟨by omega, by omega⟩, fun z => absurd e10.1 z, fun _ => hq _ u' nw' pf' I10 J10 hL hg (by rw [updr_ne (by omega)]; omega) (by omega)⟩
end ACS
