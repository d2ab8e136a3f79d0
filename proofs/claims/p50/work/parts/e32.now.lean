/-! ===== the present sharing beside the best ===== -/
def nowN (σ : Nat → Int) (g : Nat) : Nat := (gPt σ (g : Int)).toNat
theorem bd_now {σ : Nat → Int} (hV : VS σ) : bdZ σ (nowN σ) = debtsZ σ := by
  have hM := hV.M
  have gr := grs_b hM
  unfold bdZ debtsZ
  refine sm_cong (fun q hq => ?_)
  rw [debtZ_pos]
  congr 1
  congr 1
  unfold bwZ wOf
  have e1 : sm (fun g => if nowN σ g = q then gW σ (g : Int) else 0) (grs σ).toNat = sm (fun g => sm (fun v => if nowN σ g = q ∧ gAt σ v = (g : Int) then σ (7 + v) else 0) (σ 0).toNat) (grs σ).toNat := by
    refine sm_cong (fun g _ => ?_)
    by_cases c : nowN σ g = q
    · rw [if_pos c]
      unfold gW
      refine sm_cong (fun v _ => ?_)
      by_cases c2 : gAt σ v = (g : Int)
      · rw [if_pos c2, if_pos ⟨c, c2⟩]
      · rw [if_neg c2, if_neg (fun z => c2 z.2)]
    · rw [if_neg c]
      exact (sm_none (fun v _ => if_neg (fun z => c z.1))).symm
  rw [e1, sm_exch]
  refine sm_cong (fun v hv => ?_)
  have hg := hV.g hv
  have hp := hV.p hv
  have hgp := hV.gp hv
  rw [sm_pick (x := (gAt σ v).toNat) (by omega) (fun k hk hne => if_neg (fun z => hne (by have := z.2; omega)))]
  have en : nowN σ (gAt σ v).toNat = (σ (21 + v)).toNat := by
    unfold nowN
    rw [Int.toNat_of_nonneg hg.1, ← hgp]
  rw [en]
  by_cases c : σ (21 + v) = (q : Int)
  · rw [if_pos c, if_pos ⟨by omega, by omega⟩]
  · rw [if_neg c, if_neg (fun z => c (by have := z.1; omega))]
theorem bk_now {σ : Nat → Int} (hV : VS σ) : bkZ σ (nowN σ) = cutZ σ := by
  have hM := hV.M
  have gr := grs_b hM
  have h1 := sm_pairs (fun h g => if nowN σ g = nowN σ h then 0 else joinZ σ (g : Int) (h : Int)) (grs σ).toNat
  unfold bkZ
  rw [← h1]
  have e1 : sm (fun g => sm (fun h => if g < h then (if nowN σ h = nowN σ g then 0 else joinZ σ (h : Int) (g : Int)) else 0) (grs σ).toNat) (grs σ).toNat = sm (fun g => sm (fun h => sm (fun e => if (g < h ∧ nowN σ h ≠ nowN σ g) ∧ ((gAt σ (σ (110 + e)).toNat = (h : Int) ∧ gAt σ (σ (150 + e)).toNat = (g : Int)) ∨ (gAt σ (σ (110 + e)).toNat = (g : Int) ∧ gAt σ (σ (150 + e)).toNat = (h : Int))) then σ (190 + e) else 0) (σ 1).toNat) (grs σ).toNat) (grs σ).toNat := by
    refine sm_cong (fun g _ => sm_cong (fun h _ => ?_))
    by_cases c : g < h ∧ nowN σ h ≠ nowN σ g
    · rw [if_pos c.1, if_neg c.2]
      unfold joinZ
      refine sm_cong (fun e _ => ?_)
      by_cases q : (gAt σ (σ (110 + e)).toNat = (h : Int) ∧ gAt σ (σ (150 + e)).toNat = (g : Int)) ∨ (gAt σ (σ (110 + e)).toNat = (g : Int) ∧ gAt σ (σ (150 + e)).toNat = (h : Int))
      · rw [if_pos q, if_pos ⟨c, q⟩]
      · rw [if_neg q, if_neg (fun z => q z.2)]
    · have : (if g < h then (if nowN σ h = nowN σ g then 0 else joinZ σ (h : Int) (g : Int)) else 0) = 0 := by
        by_cases c1 : g < h
        · rw [if_pos c1, if_pos (Classical.byContradiction (fun z => c ⟨c1, z⟩))]
        · rw [if_neg c1]
      rw [this]
      exact (sm_none (fun e _ => if_neg (fun z => c z.1))).symm
  rw [e1]
  have e2 : ∀ F : Nat → Nat → Nat → Int, sm (fun g => sm (fun h => sm (fun e => F g h e) (σ 1).toNat) (grs σ).toNat) (grs σ).toNat = sm (fun e => sm (fun g => sm (fun h => F g h e) (grs σ).toNat) (grs σ).toNat) (σ 1).toNat := fun F => by
    rw [← sm_exch (fun g e => sm (fun h => F g h e) (grs σ).toNat)]
    exact sm_cong (fun g _ => sm_exch (fun h e => F g h e) _ _)
  rw [e2]
  unfold cutZ
  refine sm_cong (fun e he => ?_)
  have ha := hV.a he
  have hb := hV.b he
  have hx := hV.g (v := (σ (110 + e)).toNat) (by omega)
  have hy := hV.g (v := (σ (150 + e)).toNat) (by omega)
  have pa := hV.p (v := (σ (110 + e)).toNat) (by omega)
  have pb := hV.p (v := (σ (150 + e)).toNat) (by omega)
  have gpa := hV.gp (v := (σ (110 + e)).toNat) (by omega)
  have gpb := hV.gp (v := (σ (150 + e)).toNat) (by omega)
  unfold cutE
  generalize hX : (gAt σ (σ (110 + e)).toNat).toNat = X
  generalize hY : (gAt σ (σ (150 + e)).toNat).toNat = Y
  have eX : gAt σ (σ (110 + e)).toNat = (X : Int) := by omega
  have eY : gAt σ (σ (150 + e)).toNat = (Y : Int) := by omega
  rw [eX] at gpa hx ⊢
  rw [eY] at gpb hy ⊢
  have nX : nowN σ X = (σ (21 + (σ (110 + e)).toNat)).toNat := by unfold nowN; rw [← gpa]
  have nY : nowN σ Y = (σ (21 + (σ (150 + e)).toNat)).toNat := by unfold nowN; rw [← gpb]
  by_cases c : σ (21 + (σ (110 + e)).toNat) = σ (21 + (σ (150 + e)).toNat)
  · rw [if_neg (fun z => z c)]
    refine sm_none (fun g _ => sm_none (fun h _ => if_neg (fun z => ?_)))
    have z1 := z.1.2
    rcases z.2 with w | w
    · rw [show h = X by omega, show g = Y by omega, nX, nY, c] at z1
      exact z1 rfl
    · rw [show h = Y by omega, show g = X by omega, nX, nY, c] at z1
      exact z1 rfl
  · rw [if_pos c]
    have hXY : X ≠ Y := fun z => c (by rw [← gpa, ← gpb, z])
    have hn : nowN σ X ≠ nowN σ Y := by rw [nX, nY]; omega
    rcases Nat.lt_or_gt_of_ne hXY with q | q
    · rw [sm_pick (x := X) (by omega) (fun g _ hne => sm_none (fun h _ => if_neg (fun z => by have := z.1.1; rcases z.2 with w | w <;> omega)))]
      rw [sm_pick (x := Y) (by omega) (fun h _ hne => if_neg (fun z => by have := z.1.1; rcases z.2 with w | w <;> omega))]
      rw [if_pos ⟨⟨q, fun z => hn z.symm⟩, Or.inr ⟨rfl, rfl⟩⟩]
    · rw [sm_pick (x := Y) (by omega) (fun g _ hne => sm_none (fun h _ => if_neg (fun z => by have := z.1.1; rcases z.2 with w | w <;> omega)))]
      rw [sm_pick (x := X) (by omega) (fun h _ hne => if_neg (fun z => by have := z.1.1; rcases z.2 with w | w <;> omega))]
      rw [if_pos ⟨⟨q, hn⟩, Or.inl ⟨rfl, rfl⟩⟩]
/-- the best is no worse than what there is -/
theorem FB_now {σ : Nat → Int} (hV : VS σ) {b : Nat → Nat} (h : FB σ b) : bdZ σ b < debtsZ σ ∨ (bdZ σ b = debtsZ σ ∧ bkZ σ b ≤ cutZ σ) := by
  have gr := grs_b hV.M
  have h1 := (h.2 (nowN σ) (fun g hg => by
    have := hV.gpb (g := (g : Int)) (by omega) (by omega)
    unfold nowN
    omega)).1
  unfold klt at h1
  rw [bd_now hV, bk_now hV] at h1
  omega
