/-! ===== shared ===== -/
theorem mbZ_lim {σ : Nat → Int} (m : Nat → Int) (g : Nat) : ∀ d, (mbZ σ m g d).1 = -1 ∨ gW σ (g : Int) + gW σ (mbZ σ m g d).1 ≤ limZ σ
  | 0 => Or.inl rfl
  | d + 1 => by
    have ih := mbZ_lim (σ := σ) m g d
    show (mbS σ m g (g + 1 + d) (mbZ σ m g d)).1 = -1 ∨ gW σ (g : Int) + gW σ (mbS σ m g (g + 1 + d) (mbZ σ m g d)).1 ≤ limZ σ
    unfold mbS
    split
    · exact ih
    · rename_i c
      right
      show gW σ (g : Int) + gW σ ((g + 1 + d : Nat) : Int) ≤ limZ σ
      apply Classical.byContradiction
      intro q
      exact c (Or.inr (Or.inr (Or.inr (by omega))))
theorem lmZ_lim {σ : Nat → Int} (hM : MS σ) : ∀ {g : Nat}, (g : Int) ≤ grs σ → ∀ x : Nat, (lmZ σ g).1 x = -1 ∨ gW σ (x : Int) + gW σ ((lmZ σ g).1 x) ≤ limZ σ
  | 0, _ => fun x => Or.inl rfl
  | g + 1, hg => by
    have ih := lmZ_lim hM (g := g) (by omega)
    rw [lmZ_succ]
    split
    · rename_i c
      have hb := (mtZ_b hM (lmZ σ g).1 (g := g) (by omega)).resolve_left c.2
      have hl := (mbZ_lim (σ := σ) (lmZ σ g).1 g ((grs σ).toNat - (g + 1))).resolve_left c.2
      have hl : gW σ (g : Int) + gW σ (mtZ σ (lmZ σ g).1 g) ≤ limZ σ := hl
      generalize hT : mtZ σ (lmZ σ g).1 g = T at *
      intro x
      show updr (updr (lmZ σ g).1 g T) T.toNat (g : Int) x = -1 ∨ gW σ (x : Int) + gW σ (updr (updr (lmZ σ g).1 g T) T.toNat (g : Int) x) ≤ limZ σ
      by_cases q1 : x = T.toNat
      · subst q1
        rw [updr_self]
        right
        rw [show ((T.toNat : Nat) : Int) = T by omega]
        omega
      · by_cases q2 : x = g
        · subst q2
          rw [updr_ne q1, updr_self]
          exact Or.inr hl
        · rw [updr_ne q1, updr_ne q2]
          exact ih x
    · exact ih
section SHR
variable {σ : Nat → Int} {nm : Nat → Int64} {u nw : Nat} {pf : Nat → Nat → Int} {I : Ii} {J : Jj} {sL : Nat} {xs : Nat → Int} {Q : Int → Ii → Jj → Prop}
/-- the end of shared: the best beside the present -/
theorem sh_end (h : LWS σ nm u nw pf I J) {I0 : Ii} (h0 : ∀ k, 390 ≤ k → I k = I0 k) (hq : ∀ (I' : Ii) (J' : Jj), LWK σ nm u nw pf I0 I' J' → Q 1 I' J') : wp_X11_setting 9 I J (fun v24 I24 J24 => rg v24 ∧ (v24 ≤ 7 → wp_X11_bestDebts I24 J24 (fun v26 I26 J26 => rg v26 ∧ (v26 < 0 → Q 0 I26 J26) ∧ (¬ v26 < 0 → wp_X11_bestDebts I26 J26 (fun v28 I28 J28 => wp_X11_debts I28 J28 (fun v29 I29 J29 => rg v28 ∧ rg v29 ∧ (v29 < v28 → Q 0 I29 J29) ∧ (¬ v29 < v28 → wp_X11_bestDebts I29 J29 (fun v32 I32 J32 => wp_X11_debts I32 J32 (fun v33 I33 J33 => rg v32 ∧ rg v33 ∧ (v32 < v33 → Q 1 I33 J33) ∧ (¬ v32 < v33 → wp_X11_bestCut I33 J33 (fun v36 I36 J36 => wp_X11_cut I36 J36 (fun v37 I37 J37 => rg v36 ∧ rg v37 ∧ (v37 < v36 → Q 0 I37 J37) ∧ (¬ v37 < v36 → Q 1 I37 J37)))))))))))) ∧ (¬ v24 ≤ 7 → wp_X11_bestDebts I24 J24 (fun v40 I40 J40 => rg v40 ∧ (¬ v40 = (-1) → Q 0 I40 J40) ∧ (v40 = (-1) → Q 1 I40 J40)))) := by
  have hV := h.2.2.1.1.1
  have hM := hV.M
  have gr := grs_b hM
  have bd := debtsZ_b hM
  have bc := cutZ_b hM
  have k0 : LWK σ nm u nw pf I0 I J := ⟨h, h0⟩
  refine fr_X11_setting (c_setting hV k0.1.1 k0.1.2.1 k0.1.2.2.2.1.1 (by omega)) (fun v24 e24 => ?_)
  have e24 : v24 = grs σ := e24
  refine ⟨by rw [e24]; exact ⟨by omega, by omega⟩, fun c => ?_, fun c => ?_⟩
  · refine fr_X11_bestDebts (c_bestDebts hV k0.1.1 k0.1.2.1) (fun v26 I26 J26 e26 s26 => ?_)
    have k26 := k0.q s26
    obtain ⟨b, hF, r26⟩ := e26.2 (by omega)
    clear e26
    have hnow := FB_now hV hF
    have bb := bdZ_b hM b
    have bk := bkZ_b hM b (by omega)
    refine ⟨by rw [r26]; exact ⟨by omega, by omega⟩, fun z => by omega, fun _ => ?_⟩
    refine fr_X11_bestDebts (c_bestDebts hV k26.1.1 k26.1.2.1) (fun v28 I28 J28 e28 s28 => ?_)
    have k28 := k26.q s28
    obtain ⟨b2, hF2, r28⟩ := e28.2 (by omega)
    clear e28
    rw [(FB_one hF2 hF).2.1] at r28
    refine fr_X11_debts (c_debts hV k28.1.1 k28.1.2.1) (fun v29 I29 J29 e29 s29 => ?_)
    have k29 := k28.q s29
    refine ⟨by rw [r28]; exact ⟨by omega, by omega⟩, by rw [e29]; exact ⟨by omega, by omega⟩, fun z => by omega, fun _ => ?_⟩
    refine fr_X11_bestDebts (c_bestDebts hV k29.1.1 k29.1.2.1) (fun v32 I32 J32 e32 s32 => ?_)
    have k32 := k29.q s32
    obtain ⟨b3, hF3, r32⟩ := e32.2 (by omega)
    clear e32
    rw [(FB_one hF3 hF).2.1] at r32
    refine fr_X11_debts (c_debts hV k32.1.1 k32.1.2.1) (fun v33 I33 J33 e33 s33 => ?_)
    have k33 := k32.q s33
    refine ⟨by rw [r32]; exact ⟨by omega, by omega⟩, by rw [e33]; exact ⟨by omega, by omega⟩, fun _ => hq _ _ k33, fun z => ?_⟩
    refine fr_X11_bestCut (c_bestCut hV k33.1.1 k33.1.2.1) (fun v36 I36 J36 e36 s36 => ?_)
    have k36 := k33.q s36
    obtain ⟨b4, hF4, r36⟩ := e36.2 (by omega)
    clear e36
    rw [(FB_one hF4 hF).2.2] at r36
    refine fr_X11_cut (c_cut hV k36.1.1 k36.1.2.1) (fun v37 I37 J37 e37 s37 => ?_)
    have k37 := k36.q s37
    exact ⟨by rw [r36]; exact ⟨by omega, by omega⟩, by rw [e37]; exact ⟨by omega, by omega⟩, fun z2 => by omega, fun _ => hq _ _ k37⟩
  · refine fr_X11_bestDebts (c_bestDebts hV k0.1.1 k0.1.2.1) (fun v40 I40 J40 e40 s40 => ?_)
    have k40 := k0.q s40
    have r := e40.1 (by omega)
    exact ⟨by rw [r]; exact ⟨by decide, by decide⟩, fun z => absurd r z, fun _ => hq _ _ k40⟩
end SHR
