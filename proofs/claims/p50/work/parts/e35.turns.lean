/-! ===== the law's fourteen turns ===== -/
section TRN
variable {σ : Nat → Int} {nm : Nat → Int64} {sL : Nat} {xs : Nat → Int} {Q : Int → Ii → Jj → Prop}
theorem c_turns (hV : VS σ) (hT : ∀ a, a < (σ 0).toNat → outZ σ (2 ^ a) ≤ 110) (hq : ∀ (I' : Ii) (J' : Jj), Q 1 I' J') : ∀ (d i : Nat), i + d = 14 → ∀ (τ : Nat → Int) (u nw : Nat) (pf : Nat → Nat → Int) (I : Ii) (J : Jj), LWS τ nm u nw pf I J → GE σ τ → τ 6 ≤ 10 * (i : Int) → I 999 0 ≤ 300000 + 200 * (i : Int) → L_L_law13_39 sL xs Q (d + 1) (i : Int) I J := by
  intro d
  induction d with
  | zero =>
    intro i hi τ u nw pf I J h hg h6 hN
    show Lb_L_law13_39 sL xs Q _ (i : Int) I J
    unfold Lb_L_law13_39
    refine ⟨⟨by omega, by omega⟩, fun _ => ?_, fun z => absurd (by omega) z⟩
    refine c_flows h (fun I7 J7 k7 => ⟨fun z => absurd z (by decide), fun _ => ?_⟩)
    exact c_back k7.1 (fun I8 J8 => ⟨fun z => absurd z (by decide), fun _ => hq I8 J8⟩)
  | succ d ih =>
    intro i hi τ u nw pf I J h hg h6 hN
    show Lb_L_law13_39 sL xs Q (L_L_law13_39 sL xs Q (d + 1)) (i : Int) I J
    unfold Lb_L_law13_39
    refine ⟨⟨by omega, by omega⟩, fun z => by omega, fun _ => ?_⟩
    refine c_shared h (fun I9 J9 k9 => ⟨fun z => absurd z (by decide), fun _ => ?_⟩)
    have n9 : I9 999 0 = I 999 0 := by rw [k9.2 999 (by omega)]
    refine c_lsteps k9.1 (by omega) (fun u' nw' pf' I10 J10 h10 k10 => ⟨fun z => absurd z (by decide), fun _ => ?_⟩)
    have n10 : I10 999 0 = I9 999 0 := by rw [k10 999 (by omega)]
    have t0 : τ 0 = σ 0 := hg 0 (by omega)
    refine c_acts h10 (by omega) (by omega) (by omega) (fun a ha => by rw [outZ_GE hg hV.M]; exact hT a (by rw [← t0]; exact ha)) (fun υ u2 nw2 pf2 I11 J11 h11 g11 h611 n11 => ⟨fun z => absurd z (by decide), fun _ => ?_⟩)
    refine c_alike h11 (fun I12 J12 k12 => ⟨fun _ => ?_, fun z => absurd z (by decide)⟩)
    have n12 : I12 999 0 = I11 999 0 := by rw [k12.2 999 (by omega)]
    rw [show ((i : Int) + 1) = ((i + 1 : Nat) : Int) by omega]
    exact ih (i + 1) (by omega) υ u2 nw2 pf2 I12 J12 k12.1 (hg.trans g11) (by omega) (by omega)
end TRN
