/-! ===== the step that would be chosen ===== -/
section CS
variable {I : Ii} {J : Jj} {σ : Nat → Int} {nm : Nat → Int64} {k2 : Nat}
theorem greatestGain_of {lw : Bool} (hV : VS σ) (hE : ME σ I) {z : Int} (hz : z = if lw then 1 else 0) {Q : Int → Ii → Jj → Prop} (h : Q (bmZ σ lw (grs σ).toNat).1 I J) : wp_X4_greatestGain z I J Q := by
  have gr := grs_b hV.M
  have b2 := ms_2 hV.M
  have b4 := ms_4 hV.M
  have bd := debtsZ_b hV.M
  have e0 := hE.1
  have e1 := hE.2.1
  have e4 := hE.2.2.2.2.1
  refine ⟨15, loopN (L := fun n (a : Int × Int × Int) v => L_X4_greatestGain_10 z Q n a.1 a.2.1 a.2.2 v I J) (fun v a => a = bmZ σ lw v) (N := (grs σ).toNat) (fun n g a hg ha k => ?_) 15 0 (-1, 0, 0) (by omega) (by omega) rfl⟩
  refine ls_X4_greatestGain_10 ?_
  generalize hr : L_X4_greatestGain_10 z Q n = r at k ⊢
  unfold Lb_X4_greatestGain_10
  refine ⟨rgK (by omega), rgK (by omega), fun c => by rw [ha, show g = (grs σ).toNat by omega]; exact h, fun c => ?_⟩
  refine ⟨5, loopN (L := fun n2 (a2 : Int × Int × Int) p => L_X4_greatestGain_22 z Q r n2 a2.1 a2.2.1 a2.2.2 g p I J) (fun p a2 => a2 = bmR σ lw g p a) (N := (σ 2).toNat) (fun n2 p a2 hp ha2 k2 => ?_) 5 0 a (by omega) (by omega) rfl⟩
  refine ls_X4_greatestGain_22 ?_
  generalize hr2 : L_X4_greatestGain_22 z Q r n2 = r2 at k2 ⊢
  unfold Lb_X4_greatestGain_22
  refine ⟨rgK (by omega), rgK (by omega), fun c2 => k (by omega) _ ?_, fun c2 => ?_⟩
  · rw [ha2, ha, show p = (σ 2).toNat by omega]
    rfl
  · have hab : bmB a2 := by rw [ha2, ha]; exact bmR_b hV.M lw (by omega) (by omega) (bmZ_b hV.M lw (by omega))
    obtain ⟨ha1, hb1, hc1⟩ := hab
    have g1 := gainZ_b hV.M g p
    have g2 := dwZ_b hV.M g p
    refine gainOf_of hV hE rfl (by omega) rfl (by omega) (debtsWith_of hV hE rfl (by omega) rfl (by omega) ?_)
    have own : gPt σ g = p → gainZ σ g p = 0 ∧ dwZ σ g p = debtsZ σ := fun e => ⟨by unfold gainZ; rw [if_pos e], dwZ_own e⟩
    have hwm : wmZ σ g p = if gPt σ g = p then 1 else if σ 4 < dwZ σ g p ∧ debtsZ σ < dwZ σ g p then 2 else 0 := rfl
    have stay : bmS σ lw g p a2 = a2 → r2 a2.1 a2.2.1 a2.2.2 g ((p : Int) + 1) I J := fun e => k2 (by omega) a2 (by show a2 = bmS σ lw g p (bmR σ lw g p a); rw [← ha2, e])
    have go : bmS σ lw g p a2 = (10 * (g : Int) + (p : Int), gainZ σ g p, dwZ σ g p) → r2 ((g : Int) * 10 + (p : Int)) (gainZ σ g p) (dwZ σ g p) g ((p : Int) + 1) I J := fun e => by
      have := k2 (by omega) (10 * (g : Int) + (p : Int), gainZ σ g p, dwZ σ g p) (by show _ = bmS σ lw g p (bmR σ lw g p a); rw [← ha2, e])
      rwa [show (g : Int) * 10 = 10 * (g : Int) by omega]
    have hS : bmS σ lw g p a2 = if 0 < wmZ σ g p ∨ (lw = true ∧ debtsZ σ ≤ dwZ σ g p) ∨ (lw = false ∧ gainZ σ g p ≤ 0) then a2 else if a2.1 ≠ -1 ∧ (gainZ σ g p < a2.2.1 ∨ (gainZ σ g p = a2.2.1 ∧ a2.2.2 ≤ dwZ σ g p)) then a2 else (10 * (g : Int) + (p : Int), gainZ σ g p, dwZ σ g p) := rfl
    have b91 : ∀ t : Int, (t = 0 ∧ (0 < wmZ σ g p ∨ (lw = true ∧ debtsZ σ ≤ dwZ σ g p) ∨ (lw = false ∧ gainZ σ g p ≤ 0))) ∨ (t = 1 ∧ ¬ (0 < wmZ σ g p ∨ (lw = true ∧ debtsZ σ ≤ dwZ σ g p) ∨ (lw = false ∧ gainZ σ g p ≤ 0))) → B_X4_greatestGain_91 z Q r r2 a2.1 a2.2.1 a2.2.2 g p (gainZ σ g p) (dwZ σ g p) t I J := by
      intro t ht
      have b122 : ∀ u : Int, (u = 0 ∧ (a2.1 ≠ -1 ∧ (gainZ σ g p < a2.2.1 ∨ (gainZ σ g p = a2.2.1 ∧ a2.2.2 ≤ dwZ σ g p)))) ∨ (u = 1 ∧ ¬ (a2.1 ≠ -1 ∧ (gainZ σ g p < a2.2.1 ∨ (gainZ σ g p = a2.2.1 ∧ a2.2.2 ≤ dwZ σ g p)))) → B_X4_greatestGain_122 z Q r r2 a2.1 a2.2.1 a2.2.2 g p (gainZ σ g p) (dwZ σ g p) t u I J := by
        intro u hu
        unfold B_X4_greatestGain_122
        refine ⟨rgK (by omega), fun d => stay ?_, fun d => ⟨rgK (by omega), fun d2 => stay ?_, fun d2 => go ?_⟩⟩
        · rcases ht with ⟨-, y⟩ | ⟨y, -⟩
          · rw [hS, if_pos y]
          · omega
        · rcases hu with ⟨-, y⟩ | ⟨y, -⟩
          · rw [hS, if_pos (c := a2.1 ≠ -1 ∧ _) y]; split <;> rfl
          · omega
        · rcases ht with ⟨y, -⟩ | ⟨-, y⟩
          · omega
          · rcases hu with ⟨y2, -⟩ | ⟨-, y2⟩
            · omega
            · rw [hS, if_neg y, if_neg y2]
      unfold B_X4_greatestGain_91
      exact ⟨rgK (by omega), fun d => b122 1 (Or.inr ⟨rfl, fun y => y.1 d⟩), fun d => ⟨rgK (by omega), rgK (by omega), fun d2 => b122 1 (Or.inr ⟨rfl, by omega⟩), fun d2 => ⟨fun d3 => b122 0 (Or.inl ⟨rfl, d, by omega⟩), fun d3 => ⟨rgK (by omega), rgK (by omega), fun d4 => b122 0 (Or.inl ⟨rfl, d, by omega⟩), fun d4 => b122 1 (Or.inr ⟨rfl, by omega⟩)⟩⟩⟩⟩
    cases lw with
    | true =>
      have hz : z = 1 := hz
      refine ⟨rgK (by omega), fun y => by omega, fun _ => ⟨rgK (by omega), rgK (by omega), fun d => b91 0 (Or.inl ⟨rfl, Or.inr (Or.inl ⟨rfl, by omega⟩)⟩), fun d => b91 1 (Or.inr ⟨rfl, ?_⟩)⟩⟩
      rintro (y | y | y)
      · rw [hwm] at y
        by_cases q : gPt σ g = p
        · have := (own q).2; omega
        · rw [if_neg q, if_neg (by omega)] at y; omega
      · omega
      · exact absurd y.1 (by decide)
    | false =>
      have hz : z = 0 := hz
      refine ⟨rgK (by omega), fun _ => ⟨rgK (by omega), fun d => b91 0 (Or.inl ⟨rfl, Or.inr (Or.inr ⟨rfl, d⟩)⟩), fun d => isTooMuch_of hV hE (by omega) (fun y => ⟨fun _ => b91 0 (Or.inl ⟨rfl, Or.inl ?_⟩), fun w => absurd w (by decide)⟩) (fun y => ⟨fun w => absurd rfl w, fun _ => b91 1 (Or.inr ⟨rfl, ?_⟩)⟩)⟩, fun y => absurd hz y⟩
      · rw [hwm]
        split
        · omega
        · omega
      · rintro (w | w | w)
        · rw [hwm] at w
          by_cases q : gPt σ g = p
          · have := (own q).1; omega
          · rw [if_neg q, if_neg y] at w; omega
        · exact absurd w.1 (by decide)
        · omega
theorem chosenStep_of (hV : VS σ) (hE : ME σ I) {Q : Int → Ii → Jj → Prop} (h : Q (nxZ σ) I J) : wp_X4_chosenStep I J Q := by
  have gr := grs_b hV.M
  have bd := debtsZ_b hV.M
  have e4 := hE.2.2.2.2.1
  have h1 := (bmZ_b hV.M true (g := (grs σ).toNat) (by omega)).1
  unfold nxZ at h
  unfold wp_X4_chosenStep B_X4_chosenStep_16
  refine ⟨rgK (by omega), fun c => ⟨rgK (by omega), fun _ => greatestGain_of (lw := false) hV hE rfl ?_, fun y => absurd rfl y⟩, fun c => greatestGain_of (lw := true) hV hE rfl ⟨rgK (by omega), fun d => greatestGain_of (lw := false) hV hE rfl ?_, fun d => ?_⟩⟩
  · rw [if_neg (by omega)] at h; exact h
  · rw [if_pos (by omega), if_pos d] at h; exact h
  · rw [if_pos (by omega), if_neg d] at h; exact h
end CS
