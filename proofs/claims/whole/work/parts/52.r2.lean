/-! ===== sets of vertices ===== -/
theorem bset_bit (c : Nat → Bool) : ∀ (n i : Nat), (bset c n).testBit i = (decide (i < n) && c i)
  | 0, i => by simp [bset]
  | n + 1, i => by
    rw [bset_succ, Nat.testBit_or, bset_bit c n i]
    by_cases hc : c n = true
    · rw [if_pos hc, Nat.one_mul, Nat.testBit_two_pow]
      by_cases h1 : i < n
      · have h2 : ¬ n = i := by omega
        simp [h1, h2]
        intro _; omega
      · by_cases h2 : i = n
        · subst h2
          simp [hc]
        · have h3 : ¬ n = i := by omega
          have h4 : ¬ i < n + 1 := by omega
          simp [h1, h3, h4]
    · rw [if_neg hc, Nat.zero_mul, Nat.zero_testBit]
      by_cases h1 : i < n
      · have h4 : i < n + 1 := by omega
        simp [h1, h4]
      · by_cases h2 : i = n
        · subst h2
          simp [hc]
        · have h4 : ¬ i < n + 1 := by omega
          simp [h1, h4]
/-- a number's bits, counted -/
def cntB (s n : Nat) : Int := sm (fun i => if s.testBit i then 1 else 0) n
theorem bset_cong {c d : Nat → Bool} : ∀ {n : Nat}, (∀ i, i < n → c i = d i) → bset c n = bset d n
  | 0, _ => rfl
  | n + 1, h => by rw [bset_succ, bset_succ, bset_cong (fun i hi => h i (by omega)), h n (by omega)]
theorem shlT {z : Int} {b : Bool} {v : Nat} (hz : z = if b then 1 else 0) (hv : v < 31) : shlZ z (v : Int) = (((if b then 1 else 0) * 2 ^ v : Nat) : Int) := by
  have h : 2 ^ v < 2147483648 := by
    have : 2 ^ v ≤ 2 ^ 30 := Nat.pow_le_pow_right (by decide) (by omega)
    omega
  subst hz
  cases b
  · have := shlZ_nat (a := 0) (k := v) (by omega) (by omega)
    exact this
  · have := shlZ_nat (a := 1) (k := v) (by omega) (by omega)
    exact this
theorem bset_next {c : Nat → Bool} {v : Nat} (hv : v < 14) {z : Int} (hz : z = if c v then 1 else 0) : orZ ((bset c v : Nat) : Int) (shlZ z (v : Int)) = ((bset c (v + 1) : Nat) : Int) := by
  have h1 := bset_lt14 c (n := v) (by omega)
  have h2 : 2 ^ v ≤ 2 ^ 14 := Nat.pow_le_pow_right (by decide) (by omega)
  rw [shlT hz (by omega), orZ_nat (by omega) (by split <;> omega)]
  rfl
section RV2
variable {I : Ii} {J : Jj}
theorem s_inPart {p : Int} (hM : MS (I 2)) (hp : rg p) : wp_X12_inPart p I J (fun r _ _ => r = ((inP (I 2) p : Nat) : Int)) := by
  have b0 := ms_0 hM
  refine ⟨15, loopN (L := fun n t v => L_X12_inPart_4 _ _ n t v I J) (fun v t => t = ((bset (fun v => decide (I 2 (21 + v) = p)) v : Nat) : Int)) (N := (I 2 0).toNat) (fun n v t hv ht k => ?_) 15 0 0 (by omega) (by omega) rfl⟩
  refine ls_X12_inPart_4 ?_
  unfold Lb_X12_inPart_4 B_X12_inPart_33
  refine ⟨rgK (by omega), rgK (by omega), fun c => ?_, fun c => ?_⟩
  · rw [ht, show v = (I 2 0).toNat by omega]; rfl
  · have hb := ms_p hM v (by omega)
    rw [show (21 + (v : Int)).toNat = 21 + v by omega]
    refine ⟨by omega, rgK (by omega), hp, fun d => fr_X12_truth (s_truth (Or.inl rfl)) (fun r hr => k (by omega) _ ?_), fun d => fr_X12_truth (s_truth (Or.inr rfl)) (fun r hr => k (by omega) _ ?_)⟩
    · rw [ht]
      exact bset_next (by omega) (by rw [hr]; simp [d])
    · rw [ht]
      exact bset_next (by omega) (by rw [hr]; simp [d])
theorem s_membersOf {p : Int} (hM : MS (I 2)) (hp : rg p) : wp_X12_membersOf p I J (fun r _ _ => r = ((memG (I 2) p : Nat) : Int)) := by
  have b0 := ms_0 hM
  refine ⟨15, loopN (L := fun n t v => L_X12_membersOf_4 _ _ n t v I J) (fun v t => t = ((bset (fun v => decide (gAt (I 2) v = p)) v : Nat) : Int)) (N := (I 2 0).toNat) (fun n v t hv ht k => ?_) 15 0 0 (by omega) (by omega) rfl⟩
  refine ls_X12_membersOf_4 ?_
  unfold Lb_X12_membersOf_4 B_X12_membersOf_29
  refine ⟨rgK (by omega), rgK (by omega), fun c => ?_, fun c => ?_⟩
  · rw [ht, show v = (I 2 0).toNat by omega]; rfl
  · refine fr_X12_groupAt (s_groupAt hM rfl (by omega)) (fun r hr => ?_)
    subst hr
    have hb := gAt_b hM (v := v) (by omega)
    refine ⟨rgK (by omega), hp, fun d => fr_X12_truth (s_truth (Or.inl rfl)) (fun r hr => k (by omega) _ ?_), fun d => fr_X12_truth (s_truth (Or.inr rfl)) (fun r hr => k (by omega) _ ?_)⟩
    · rw [ht]
      exact bset_next (by omega) (by rw [hr]; simp [d])
    · rw [ht]
      exact bset_next (by omega) (by rw [hr]; simp [d])
/-- the ends of the cut edges below e -/
def bordZ (σ : Nat → Int) : Nat → Nat
  | 0 => 0
  | e + 1 => if cutE σ e then bordZ σ e ||| (2 ^ (σ (110 + e)).toNat ||| 2 ^ (σ (150 + e)).toNat) else bordZ σ e
theorem bordZ_succ (σ : Nat → Int) (e : Nat) : bordZ σ (e + 1) = if cutE σ e then bordZ σ e ||| (2 ^ (σ (110 + e)).toNat ||| 2 ^ (σ (150 + e)).toNat) else bordZ σ e := rfl
theorem bordZ_lt {σ : Nat → Int} (hM : MS σ) : ∀ e, e ≤ 40 → bordZ σ e < 2 ^ 14
  | 0, _ => by simp [bordZ]
  | e + 1, h => by
    have ih := bordZ_lt hM e (by omega)
    have h1 := ms_a hM e (by omega)
    have h2 := ms_b hM e (by omega)
    unfold bordZ
    split
    · refine Nat.or_lt_two_pow ih (Nat.or_lt_two_pow ?_ ?_) <;> exact Nat.pow_lt_pow_right (by decide) (by omega)
    · exact ih
theorem s_borderNow (hM : MS (I 2)) : wp_X12_borderNow I J (fun r _ _ => r = ((bordZ (I 2) (I 2 1).toNat : Nat) : Int)) := by
  have b0 := ms_1 hM
  refine ⟨41, loopN (L := fun n t v => L_X12_borderNow_4 _ n t v I J) (fun v t => t = ((bordZ (I 2) v : Nat) : Int)) (N := (I 2 1).toNat) (fun n v t hv ht k => ?_) 41 0 0 (by omega) (by omega) rfl⟩
  refine ls_X12_borderNow_4 ?_
  unfold Lb_X12_borderNow_4
  refine ⟨rgK (by omega), rgK (by omega), fun c => ?_, fun c => ?_⟩
  · rw [ht, show v = (I 2 1).toNat by omega]
  · have h1 := ms_a hM v (by omega)
    have h2 := ms_b hM v (by omega)
    have h3 := bordZ_lt hM v (by omega)
    refine fr_X12_isCut (s_isCut hM rfl (by omega)) (fun r h => bo0 h (fun d => k (by omega) _ ?_) (fun d => ⟨by omega, by omega, k (by omega) _ ?_⟩))
    · rw [ht, bordZ_succ, if_neg d]
    · have e1 : shlZ 1 (I 2 (110 + v)) = ((2 ^ (I 2 (110 + v)).toNat : Nat) : Int) := by
        have := shl1Z (k := (I 2 (110 + v)).toNat) (by omega)
        rwa [Int.toNat_of_nonneg h1.1] at this
      have e2 : shlZ 1 (I 2 (150 + v)) = ((2 ^ (I 2 (150 + v)).toNat : Nat) : Int) := by
        have := shl1Z (k := (I 2 (150 + v)).toNat) (by omega)
        rwa [Int.toNat_of_nonneg h2.1] at this
      have p1 : 2 ^ (I 2 (110 + v)).toNat < 2 ^ 14 := Nat.pow_lt_pow_right (by decide) (by omega)
      have p2 : 2 ^ (I 2 (150 + v)).toNat < 2 ^ 14 := Nat.pow_lt_pow_right (by decide) (by omega)
      have p3 : 2 ^ (I 2 (110 + v)).toNat ||| 2 ^ (I 2 (150 + v)).toNat < 2 ^ 14 := Nat.or_lt_two_pow p1 p2
      rw [show (110 + (v : Int)).toNat = 110 + v by omega, show (150 + (v : Int)).toNat = 150 + v by omega, e1, e2, orZ_nat (by omega) (by omega), ht, orZ_nat (by omega) (by omega)]
      rw [bordZ_succ, if_pos d]
theorem s_heaviestNow (hM : MS (I 2)) : wp_X12_heaviestNow I J (fun r _ _ => r = ((hvZ (I 2) ((I 2 2).toNat - 1) : Nat) : Int)) := by
  have b0 := ms_2 hM
  refine ⟨5, loopN (L := fun n t v => L_X12_heaviestNow_4 _ n t v I J) (fun v t => 1 ≤ v ∧ t = ((hvZ (I 2) (v - 1) : Nat) : Int)) (N := (I 2 2).toNat) (fun n v t hv ht k => ?_) 5 1 0 (by omega) (by omega) ⟨by omega, rfl⟩⟩
  obtain ⟨hv1, ht⟩ := ht
  refine ls_X12_heaviestNow_4 ?_
  unfold Lb_X12_heaviestNow_4
  refine ⟨rgK (by omega), rgK (by omega), fun c => ?_, fun c => ?_⟩
  · rw [ht, show v = (I 2 2).toNat by omega]
  · have hl := hvZ_le (I 2) (v - 1)
    refine fr_X12_weightOf (s_weightOf hM (rgK (by omega))) (fun r hr => fr_X12_weightOf (s_weightOf hM (rgK (by omega))) (fun q hq => ?_))
    have w1 := wOf_b hM (v : Int)
    have w2 := wOf_b hM t
    obtain ⟨u, rfl⟩ : ∃ u, v = u + 1 := ⟨v - 1, by omega⟩
    refine ⟨rgK (by omega), rgK (by omega), fun d => k (by omega) _ ⟨by omega, ?_⟩, fun d => k (by omega) _ ⟨by omega, ?_⟩⟩
    · show t = ((hvZ (I 2) (u + 1) : Nat) : Int)
      conv => rhs; unfold hvZ
      rw [Nat.add_sub_cancel] at ht
      rw [if_neg (by rw [← ht]; omega)]
      exact ht
    · show ((u + 1 : Nat) : Int) = ((hvZ (I 2) (u + 1) : Nat) : Int)
      conv => rhs; unfold hvZ
      rw [Nat.add_sub_cancel] at ht
      rw [if_pos (by rw [← ht]; omega)]
theorem s_everything (hM : MS (I 2)) : wp_X12_everything I J (fun r _ _ => r = ((2 ^ (I 2 0).toNat - 1 : Nat) : Int)) := by
  have b0 := ms_0 hM
  unfold wp_X12_everything
  have e := shl1Z (k := (I 2 0).toNat) (by omega)
  rw [Int.toNat_of_nonneg b0.1] at e
  have p := pow_le14 (n := (I 2 0).toNat) (by omega)
  rw [e]
  omega
theorem s_ones {x : Int} {s : Nat} (hx : x = (s : Int)) (hs : s < 2147483648) : wp_X12_ones x I J (fun r _ _ => r = cntB s 14) := by
  subst hx
  refine ⟨15, loopN (L := fun n t v => L_X12_ones_4 _ _ n t v I J) (fun v t => t = cntB s v) (N := 14) (fun n v t hv ht k => ?_) 15 0 0 (by omega) (by omega) rfl⟩
  refine ls_X12_ones_4 ?_
  unfold Lb_X12_ones_4
  refine ⟨rgK (by omega), fun c => ?_, fun c => k (by omega) _ ?_⟩
  · rw [ht, show v = 14 by omega]
  · have e : andZ (shrZ (s : Int) (v : Int)) 1 = if s.testBit v = true then 1 else 0 := by
      rw [shrZ_nat (by omega) hs]
      show andZ _ ((1 : Nat) : Int) = _
      rw [andZ_nat' (by decide), bit_one]
      split <;> rfl
    rw [e, ht]
    rfl
/-- a group has a vertex -/
def hasV (σ : Nat → Int) (g : Int) : Prop := ∃ v, v < 14 ∧ gAt σ v = g
theorem s_groupPart {g : Int} (hM : MS (I 2)) (hg : rg g) (hv : hasV (I 2) g) : wp_X12_groupPart g I J (fun r _ _ => ∃ v, v < 14 ∧ gAt (I 2) v = g ∧ (∀ u, u < v → gAt (I 2) u ≠ g) ∧ r = I 2 (21 + v)) := by
  obtain ⟨w, hw, hwg⟩ := hv
  refine ⟨15, ?_⟩
  have key : ∀ (n v : Nat), v ≤ w → 15 ≤ v + n → (∀ u, u < v → gAt (I 2) u ≠ g) → L_X12_groupPart_2 g (fun r _ _ => ∃ v, v < 14 ∧ gAt (I 2) v = g ∧ (∀ u, u < v → gAt (I 2) u ≠ g) ∧ r = I 2 (21 + v)) n (v : Int) I J := by
    intro n
    induction n with
    | zero => intro v h1 h2; omega
    | succ n ih =>
      intro v h1 h2 h3
      refine ls_X12_groupPart_2 ?_
      unfold Lb_X12_groupPart_2
      refine fr_X12_groupAt (s_groupAt hM rfl (by omega)) (fun r hr => ?_)
      subst hr
      have hb := gAt_b hM (v := v) (by omega)
      have hb2 := ms_p hM v (by omega)
      refine ⟨rgK (by omega), hg, fun d => ⟨by omega, v, by omega, d, h3, by rw [show (21 + (v : Int)).toNat = 21 + v by omega]⟩, fun d => ?_⟩
      have hne : v ≠ w := fun e => d (by rw [e]; exact hwg)
      have h' := ih (v + 1) (by omega) (by omega) (fun u hu => by
        by_cases q : u = v
        · rw [q]; exact d
        · exact h3 u (by omega))
      rwa [show (((v + 1 : Nat)) : Int) = (v : Int) + 1 by omega] at h'
  exact key 15 0 (by omega) (by omega) (fun u hu => by omega)
end RV2
