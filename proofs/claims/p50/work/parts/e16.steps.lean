/-! ===== a move, a step, steps ===== -/
section WOS
variable {σ : Nat → Int} {I : Ii} {J : Jj}
theorem w_move {Q : Int → Ii → Jj → Prop} (h : WO σ I) (hN : 1022 ≤ I 999 0 ∧ I 999 0 ≤ 600000) (h6 : σ 6 ≤ 190) {g p : Int} (g0 : 0 ≤ g) (g1 : g < grs σ) (p0 : 0 ≤ p ∧ p < σ 2)
    (hq : ∀ I' : Ii, WO (comesZ σ g p) I' → WF I I' → I' 999 0 ≤ I 999 0 + 2 → Q (cutZ (comesZ σ g p)) I' J) : wp_X12_move g p I J Q := by
  unfold wp_X12_move
  exact w_comes h hN h6 g0 g1 p0 (fun I' h' hf hn => w_cut h' (hq I' h' hf hn))
theorem nx_in (h : WO σ I) (hne : nxZ σ ≠ -1) : 0 ≤ nxZ σ ∧ 0 ≤ nxZ σ / 10 ∧ nxZ σ / 10 < grs σ ∧ 0 ≤ nxZ σ % 10 ∧ nxZ σ % 10 < σ 2 := by
  have hM := h.1.1.M
  have gr := grs_b hM
  have h2 := ms_2 hM
  have key : ∀ lw : Bool, (bmZ σ lw (grs σ).toNat).1 = -1 ∨ ∃ g p : Nat, (g < (grs σ).toNat ∧ p < (σ 2).toNat) ∧ (bmZ σ lw (grs σ).toNat).1 = 10 * (g : Int) + (p : Int) := fun lw => by
    rcases bmZ_F (lw := lw) (σ := σ) (P := (σ 2).toNat) (by omega) rfl (grs σ).toNat with q | ⟨g, p, q1, -, q3, -⟩
    · exact Or.inl q.1
    · exact Or.inr ⟨g, p, q1, q3.1⟩
  have hn : ∃ g p : Nat, (g < (grs σ).toNat ∧ p < (σ 2).toNat) ∧ nxZ σ = 10 * (g : Int) + (p : Int) := by
    unfold nxZ at hne ⊢
    split at hne
    · split at hne
      · rename_i c1 c2
        rw [if_pos c1, if_pos c2]
        exact (key false).resolve_left hne
      · rename_i c1 c2
        rw [if_pos c1, if_neg c2]
        exact (key true).resolve_left hne
    · rename_i c1
      rw [if_neg c1]
      exact (key false).resolve_left hne
  obtain ⟨g, p, hgp, e⟩ := hn
  rw [e]
  omega
theorem w_step {Q : Int → Ii → Jj → Prop} (h : WO σ I) (hN : 1022 ≤ I 999 0 ∧ I 999 0 ≤ 600000) (h6 : σ 6 ≤ 190)
    (hn : nxZ σ = -1 → Q (-1) I J) (hq : nxZ σ ≠ -1 → ∀ I' : Ii, WO (comesZ σ (nxZ σ / 10) (nxZ σ % 10)) I' → WF I I' → I' 999 0 ≤ I 999 0 + 2 → Q (cutZ (comesZ σ (nxZ σ / 10) (nxZ σ % 10))) I' J) : wp_X12_step I J Q := by
  have hb := nxZ_b h.1.1.M
  unfold wp_X12_step
  refine w_next h ⟨⟨by omega, by omega⟩, fun c => ?_, fun c => ?_⟩
  · have hne : nxZ σ ≠ -1 := by omega
    have hi := nx_in h hne
    exact ⟨⟨⟨by omega, by omega⟩, by decide⟩, ⟨⟨by omega, by omega⟩, by decide⟩, w_move h hN h6 hi.2.1 hi.2.2.1 hi.2.2.2 (hq hne)⟩
  · exact hn (by omega)
theorem w_steps {Q : Int → Ii → Jj → Prop} (h : WO σ I) (hN : 1022 ≤ I 999 0 ∧ I 999 0 ≤ 500000) (h6 : σ 6 ≤ 170) {m : Nat} {z : Int} (hz : z = (m : Int)) (hm : m ≤ 10)
    (hq : ∀ I' : Ii, WO (stpZ m σ).2 I' → WF I I' → I' 999 0 ≤ I 999 0 + 2 * m → Q (((stpZ m σ).1 : Nat) : Int) I' J) : wp_X12_steps z I J Q := by
  subst hz
  have key : ∀ d k : Nat, k + d = m → ∀ (τ : Nat → Int) (I1 : Ii), WO τ I1 → WF I I1 → (1022 ≤ I1 999 0 ∧ I1 999 0 ≤ I 999 0 + 2 * k) → τ 6 ≤ σ 6 + k → (∀ I' : Ii, WO (stpZ d τ).2 I' → WF I I' → I' 999 0 ≤ I 999 0 + 2 * m → Q (((k + (stpZ d τ).1 : Nat)) : Int) I' J) → L_X12_steps_2 (m : Int) Q (d + 1) (k : Int) I1 J := by
    intro d
    induction d with
    | zero =>
      intro k hk τ I1 hT hf hn h6t hq1
      show Lb_X12_steps_2 (m : Int) Q _ (k : Int) I1 J
      unfold Lb_X12_steps_2
      exact ⟨⟨by omega, by omega⟩, ⟨by omega, by omega⟩, fun _ => hq1 I1 hT hf (by omega), fun c => absurd (by omega) c⟩
    | succ d ih =>
      intro k hk τ I1 hT hf hn h6t hq1
      show Lb_X12_steps_2 (m : Int) Q _ (k : Int) I1 J
      unfold Lb_X12_steps_2
      refine ⟨⟨by omega, by omega⟩, ⟨by omega, by omega⟩, fun c => by omega, fun _ => w_step hT (by omega) (by omega) (fun c => ?_) (fun c I2 h2 hf2 hn2 => ?_)⟩
      · refine ⟨⟨by decide, by decide⟩, fun _ => ?_, fun c => absurd (by decide) c⟩
        have e : stpZ (d + 1) τ = (0, τ) := by
          show (if nxZ τ = -1 then (0, τ) else _) = _
          rw [if_pos c]
        rw [e] at hq1
        exact hq1 I1 hT hf (by omega)
      · have hcb := cutZ_b h2.1.1.M
        refine ⟨⟨by omega, by omega⟩, fun c => by omega, fun _ => ?_⟩
        have e : stpZ (d + 1) τ = ((stpZ d (comesZ τ (nxZ τ / 10) (nxZ τ % 10))).1 + 1, (stpZ d (comesZ τ (nxZ τ / 10) (nxZ τ % 10))).2) := by
          show (if nxZ τ = -1 then (0, τ) else _) = _
          rw [if_neg c]
        rw [e] at hq1
        rw [show ((k : Int) + 1) = ((k + 1 : Nat) : Int) by omega]
        have hg : I1 999 0 ≤ I2 999 0 := hf2.1
        refine ih (k + 1) (by omega) _ I2 h2 (hf.trans hf2) (by omega) ?_ (fun I' h' hf' hn' => ?_)
        · rw [comesZ_6 hT.1.1.M]
          split <;> omega
        · have := hq1 I' h' hf' hn'
          rw [show k + 1 + (stpZ d (comesZ τ (nxZ τ / 10) (nxZ τ % 10))).1 = k + ((stpZ d (comesZ τ (nxZ τ / 10) (nxZ τ % 10))).1 + 1) by omega]
          exact this
  exact ⟨m + 1, by omega, key m 0 (by omega) σ I h (WF.rf I) (by omega) (by omega) (fun I' h' hf' hn' => by
    have := hq I' h' hf' hn'
    rw [Nat.zero_add]
    exact this)⟩
end WOS
