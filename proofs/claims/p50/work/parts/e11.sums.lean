/-! ===== sums ===== -/
theorem sm_pick {f : Nat → Int} {n x : Nat} (hx : x < n) (h : ∀ k, k < n → k ≠ x → f k = 0) : sm f n = f x := by
  have := sm_except (f := f) (h := fun _ => 0) hx h
  rw [this, sm_zero]
  omega
theorem sm_none {f : Nat → Int} {n : Nat} (h : ∀ k, k < n → f k = 0) : sm f n = 0 := by
  rw [sm_cong h, sm_zero]
theorem sm_pick2 {f : Nat → Int} {n x y : Nat} (hx : x < n) (hy : y < n) (hne : x ≠ y) (h : ∀ k, k < n → k ≠ x → k ≠ y → f k = 0) : sm f n = f x + f y := by
  have h1 := sm_except (f := f) (h := fun k => if k = y then f y else 0) hx (fun k hk hkx => by
    by_cases c : k = y
    · simp [c]
    · simp only [c, if_false]
      exact h k hk hkx c)
  have h2 : sm (fun k => if k = y then f y else 0) n = f y := by
    rw [sm_pick hy (fun k hk c => by simp [c])]
    simp
  rw [h1, h2]
  simp [hne]
  omega
theorem sm_exch (F : Nat → Nat → Int) (m : Nat) : ∀ n, sm (fun a => sm (fun e => F a e) m) n = sm (fun e => sm (fun a => F a e) n) m
  | 0 => by
    show (0 : Int) = sm (fun _ => 0) m
    rw [sm_zero]
  | n + 1 => by
    rw [sm_succ, sm_exch F m n, ← sm_add]
    rfl
theorem sm_ite (c : Prop) [Decidable c] (f : Nat → Int) (m : Nat) : (if c then sm f m else 0) = sm (fun e => if c then f e else 0) m := by
  by_cases h : c
  · simp [h]
  · simp [h, sm_zero]
/-- the edges between two sets -/
def lkE (σ : Nat → Int) (S T : Nat) (e : Nat) : Int := (if S.testBit (σ (110 + e)).toNat = true ∧ T.testBit (σ (150 + e)).toNat = true then σ (190 + e) else 0) + (if S.testBit (σ (150 + e)).toNat = true ∧ T.testBit (σ (110 + e)).toNat = true then σ (190 + e) else 0)
def lkZ (σ : Nat → Int) (S T : Nat) : Int := sm (fun a => if S.testBit a = true then sm (fun b => if T.testBit b = true then TBz σ a b else 0) (σ 0).toNat else 0) (σ 0).toNat
abbrev tbE (σ : Nat → Int) (a b e : Nat) : Int := if (σ (110 + e) = (a : Int) ∧ σ (150 + e) = (b : Int)) ∨ (σ (110 + e) = (b : Int) ∧ σ (150 + e) = (a : Int)) then σ (190 + e) else 0
theorem TBz_eq (σ : Nat → Int) (a b : Nat) : TBz σ a b = sm (tbE σ a b) (σ 1).toNat := rfl
/-- a sum over pairs, edge by edge -/
theorem pr_eq {σ : Nat → Int} (hV : VS σ) (P : Nat → Nat → Prop) [∀ a b, Decidable (P a b)] : sm (fun a => sm (fun b => if P a b then TBz σ a b else 0) (σ 0).toNat) (σ 0).toNat = sm (fun e => (if P (σ (110 + e)).toNat (σ (150 + e)).toNat then σ (190 + e) else 0) + (if P (σ (150 + e)).toNat (σ (110 + e)).toNat then σ (190 + e) else 0)) (σ 1).toNat := by
  have e1 : sm (fun a => sm (fun b => if P a b then TBz σ a b else 0) (σ 0).toNat) (σ 0).toNat = sm (fun e => sm (fun a => sm (fun b => if P a b then tbE σ a b e else 0) (σ 0).toNat) (σ 0).toNat) (σ 1).toNat := by
    rw [← sm_exch (fun a e => sm (fun b => if P a b then tbE σ a b e else 0) (σ 0).toNat)]
    refine sm_cong (fun a ha => ?_)
    rw [← sm_exch (fun b e => if P a b then tbE σ a b e else 0)]
    refine sm_cong (fun b hb => ?_)
    rw [TBz_eq, sm_ite]
  rw [e1]
  refine sm_cong (fun e he => ?_)
  have ha := hV.a he
  have hb := hV.b he
  have hab := hV.ab he
  generalize hx : (σ (110 + e)).toNat = x at *
  generalize hy : (σ (150 + e)).toNat = y at *
  have hxe : σ (110 + e) = (x : Int) := by omega
  have hye : σ (150 + e) = (y : Int) := by omega
  have hxy : x ≠ y := by omega
  have hxn : x < (σ 0).toNat := by omega
  have hyn : y < (σ 0).toNat := by omega
  have tb : ∀ a b : Nat, tbE σ a b e = if (x = a ∧ y = b) ∨ (x = b ∧ y = a) then σ (190 + e) else 0 := fun a b => by
    unfold tbE
    rw [hxe, hye]
    simp only [Int.natCast_inj]
  rw [sm_pick2 (x := x) (y := y) hxn hyn hxy (fun a ha1 c1 c2 => sm_none (fun b hb1 => by
    rw [tb]
    rw [if_neg (by omega : ¬ ((x = a ∧ y = b) ∨ (x = b ∧ y = a)))]
    simp))]
  congr 1
  · rw [sm_pick hyn (fun b hb1 c => by
      rw [tb, if_neg (by omega : ¬ ((x = x ∧ y = b) ∨ (x = b ∧ y = x)))]
      simp)]
    rw [tb, if_pos (Or.inl ⟨rfl, rfl⟩)]
  · rw [sm_pick hxn (fun b hb1 c => by
      rw [tb, if_neg (by omega : ¬ ((x = y ∧ y = b) ∨ (x = b ∧ y = y)))]
      simp)]
    rw [tb, if_pos (Or.inr ⟨rfl, rfl⟩)]
theorem lk_eq {σ : Nat → Int} (hV : VS σ) (S T : Nat) : lkZ σ S T = sm (lkE σ S T) (σ 1).toNat := by
  have := pr_eq hV (fun a b => S.testBit a = true ∧ T.testBit b = true)
  have e : lkZ σ S T = sm (fun a => sm (fun b => if S.testBit a = true ∧ T.testBit b = true then TBz σ a b else 0) (σ 0).toNat) (σ 0).toNat := by
    unfold lkZ
    refine sm_cong (fun a ha => ?_)
    by_cases c : S.testBit a = true
    · rw [if_pos c]
      refine sm_cong (fun b hb => ?_)
      by_cases c2 : T.testBit b = true
      · rw [if_pos c2, if_pos ⟨c, c2⟩]
      · rw [if_neg c2, if_neg (fun z => c2 z.2)]
    · rw [if_neg c]
      exact (sm_none (fun b hb => if_neg (fun z => c z.1))).symm
  rw [e, this]
  rfl
/-- the world's cut is the row's -/
theorem cut_eq {σ : Nat → Int} (hV : VS σ) : sm (fun a => sm (fun b => if σ (21 + a) = σ (21 + b) then 0 else TBz σ a b) a) (σ 0).toNat = cutZ σ := by
  have h1 := sm_pairs (fun g h => if σ (21 + h) = σ (21 + g) then 0 else TBz σ h g) (σ 0).toNat
  rw [← h1]
  have h2 := pr_eq hV (fun g h => g < h ∧ σ (21 + h) ≠ σ (21 + g))
  have tsym : ∀ g h : Nat, TBz σ h g = TBz σ g h := fun g h => by
    unfold TBz
    refine sm_cong (fun e he => ?_)
    by_cases c : (σ (110 + e) = (h : Int) ∧ σ (150 + e) = (g : Int)) ∨ (σ (110 + e) = (g : Int) ∧ σ (150 + e) = (h : Int))
    · rw [if_pos c, if_pos (Or.symm c)]
    · rw [if_neg c, if_neg (fun z => c (Or.symm z))]
  have e : sm (fun g => sm (fun h => if g < h then (if σ (21 + h) = σ (21 + g) then 0 else TBz σ h g) else 0) (σ 0).toNat) (σ 0).toNat = sm (fun g => sm (fun h => if g < h ∧ σ (21 + h) ≠ σ (21 + g) then TBz σ g h else 0) (σ 0).toNat) (σ 0).toNat := by
    refine sm_cong (fun g hg => sm_cong (fun h hh => ?_))
    by_cases c : g < h
    · rw [if_pos c]
      by_cases c2 : σ (21 + h) = σ (21 + g)
      · rw [if_pos c2, if_neg (fun z => z.2 c2)]
      · rw [if_neg c2, if_pos ⟨c, c2⟩, tsym]
    · rw [if_neg c, if_neg (fun z => c z.1)]
  rw [e, h2]
  unfold cutZ
  refine sm_cong (fun e he => ?_)
  have ha := hV.a he
  have hb := hV.b he
  have hab := hV.ab he
  unfold cutE
  by_cases c : σ (21 + (σ (110 + e)).toNat) ≠ σ (21 + (σ (150 + e)).toNat)
  · rw [if_pos c]
    by_cases c2 : (σ (110 + e)).toNat < (σ (150 + e)).toNat
    · rw [if_pos ⟨c2, fun z => c z.symm⟩, if_neg (fun z => by omega)]
      omega
    · rw [if_neg (fun z => c2 z.1), if_pos ⟨by omega, c⟩]
      omega
  · rw [if_neg c, if_neg (fun z => c (fun q => z.2 q.symm)), if_neg (fun z => c z.2)]
    rfl
