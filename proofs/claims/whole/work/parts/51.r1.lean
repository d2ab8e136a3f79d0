/-! ===== the reference's methods that change nothing: what they answer ===== -/
/-- a loop that counts up to N -/
theorem loopN {α : Type} {L : Nat → α → Int → Prop} (Inv : Nat → α → Prop) {N : Nat} (step : ∀ (n v : Nat) (a : α), v ≤ N → Inv v a → (v < N → ∀ a', Inv (v + 1) a' → L n a' ((v : Int) + 1)) → L (n + 1) a (v : Int)) : ∀ (n v : Nat) (a : α), v ≤ N → N + 1 ≤ v + n → Inv v a → L n a (v : Int) := by
  intro n
  induction n with
  | zero => intro v a h1 h2; omega
  | succ n ih =>
    intro v a h1 h2 h3
    refine step n v a h1 h3 (fun hv a' h => ?_)
    have h' := ih (v + 1) a' (by omega) (by omega) h
    rwa [show (((v + 1 : Nat)) : Int) = (v : Int) + 1 by omega] at h'
theorem s_thrown {I : Ii} {J : Jj} : wp_X12_thrown I J (fun r _ _ => r = I 0 0) := rfl
theorem s_isIn {I : Ii} {J : Jj} {v a b : Int64} : wp_X12_isIn v a b I J (fun r _ _ => Bo r (a.toInt ≤ v.toInt ∧ v.toInt ≤ b.toInt)) := by
  unfold wp_X12_isIn
  simp only [cmpL_toInt, cmpZ_lt, cmpZ_gt]
  exact ⟨fun c => Bo.zero (by omega), fun c => ⟨fun d => Bo.zero (by omega), fun d => Bo.one (by omega)⟩⟩
theorem lZ_rg {a : Int} (h : rg a) : (lZ a).toInt = a := lZ_toInt (by have := h.1; have := h.2; omega)
theorem s_isInA {I : Ii} {J : Jj} {x a y : Int} (hx : rg x) (ha : rg a) (hy : rg y) : wp_X12_isIn (i2lZ x) (lZ a) (i2lZ y) I J (fun r _ _ => Bo r (a ≤ x ∧ x ≤ y)) := by
  have h := s_isIn (I := I) (J := J) (v := i2lZ x) (a := lZ a) (b := i2lZ y)
  rw [i2lZ_toInt hx, i2lZ_toInt hy, lZ_rg ha] at h
  exact h
theorem s_isInB {I : Ii} {J : Jj} {x a y : Int} (hx : rg x) (ha : rg a) (hy : rg y) : wp_X12_isIn (i2lZ x) (lZ a) (lZ y) I J (fun r _ _ => Bo r (a ≤ x ∧ x ≤ y)) := by
  have h := s_isIn (I := I) (J := J) (v := i2lZ x) (a := lZ a) (b := lZ y)
  rw [i2lZ_toInt hx, lZ_rg hy, lZ_rg ha] at h
  exact h
theorem s_isInC {I : Ii} {J : Jj} {x a y : Int} (hx : rg x) (ha : rg a) (hy : rg y) : wp_X12_isIn (i2lZ x) (i2lZ a) (i2lZ y) I J (fun r _ _ => Bo r (a ≤ x ∧ x ≤ y)) := by
  have h := s_isIn (I := I) (J := J) (v := i2lZ x) (a := i2lZ a) (b := i2lZ y)
  rw [i2lZ_toInt hx, i2lZ_toInt hy, i2lZ_toInt ha] at h
  exact h
theorem rgK {z : Int} (h : -1000000000 ≤ z ∧ z ≤ 2000000000) : rg z := rgI (by omega) (by omega)
theorem s_truth {I : Ii} {J : Jj} {z : Int} (hz : z = 0 ∨ z = 1) : wp_X12_truth z I J (fun r _ _ => r = z) := by
  unfold wp_X12_truth
  exact ⟨rgK (by omega), fun c => by omega, fun c => by omega⟩
theorem s_hasBit {I : Ii} {J : Jj} {x y : Int} {s k : Nat} (hx : x = (s : Int)) (hy : y = (k : Int)) (hs : s < 2147483648) (hk : k < 32) : wp_X12_hasBit x y I J (fun r _ _ => Bo r (s.testBit k = true)) := by
  subst hx hy
  unfold wp_X12_hasBit
  have e : andZ (shrZ (s : Int) (k : Int)) 1 = if s.testBit k = true then 1 else 0 := by
    rw [shrZ_nat hk hs]
    show andZ _ ((1 : Nat) : Int) = _
    rw [andZ_nat' (by decide), bit_one]
    split <;> rfl
  rw [e]
  by_cases h : s.testBit k = true
  · rw [if_pos h]
    exact ⟨fun c => absurd rfl c, fun _ => Bo.one h⟩
  · rw [if_neg h]
    exact ⟨fun _ => Bo.zero h, fun c => absurd c (by decide)⟩
theorem s_goes {I : Ii} {J : Jj} {z : Int} (hz : z = 0 ∨ z = 1) : wp_X12_goes z I J (fun r I' J' => r = z ∧ I' = up2 I 0 0 (1 - z) ∧ J' = J) := by
  unfold wp_X12_goes
  have key : ∀ t : Int, t = 0 ∨ t = 1 → t = 1 - z → B_X12_goes_10 z (fun r I' J' => r = z ∧ I' = up2 I 0 0 (1 - z) ∧ J' = J) t I J := by
    intro t ht e
    unfold B_X12_goes_10
    refine fr_X12_truth (s_truth ht) (fun v hv I3 e3 => ⟨hz, rfl, ?_, rfl⟩)
    rw [e3, hv, e]
  exact ⟨rgK (by omega), fun c => key 0 (by omega) (by omega), fun c => key 1 (by omega) (by omega)⟩
theorem s_goesBoth {I : Ii} {J : Jj} {x y : Int} (hx : x = 0 ∨ x = 1) (hy : y = 0 ∨ y = 1) : wp_X12_goesBoth x y I J (fun r I' J' => J' = J ∧ ∃ c, I' = up2 I 0 0 c ∧ ((x = 1 ∧ y = 1 ∧ c = 0 ∧ r = 1) ∨ (x = 0 ∧ c = 1 ∧ r = 0) ∨ (x = 1 ∧ y = 0 ∧ c = 2 ∧ r = 0))) := by
  unfold wp_X12_goesBoth
  refine ⟨rgK (by omega), fun c => ⟨rgK (by omega), fun d => ?_, fun d => ?_⟩, fun c => ?_⟩ <;> unfold B_X12_goesBoth_18 <;> intro I3 e3 <;> subst e3
  · rw [up2_self]; exact ⟨rgK (by omega), fun z => absurd rfl z, fun _ => ⟨rfl, 0, rfl, by omega⟩⟩
  · rw [up2_self]; exact ⟨rgK (by omega), fun z => ⟨rfl, 2, rfl, by omega⟩, fun z => absurd z (by decide)⟩
  · rw [up2_self]; exact ⟨rgK (by omega), fun z => ⟨rfl, 1, rfl, by omega⟩, fun z => absurd z (by decide)⟩
section RV
variable {I : Ii} {J : Jj}
theorem s_isVertex {x : Int} (hM : MS (I 2)) (hx : rg x) : wp_X12_isVertex x I J (fun r _ _ => Bo r (0 ≤ x ∧ x < I 2 0)) := by
  have b := ms_0 hM
  unfold wp_X12_isVertex
  exact fr_X12_isIn (s_isInA hx (rgK (by omega)) (rgK (by omega))) (fun v h => ⟨h.b, h.iff ⟨fun q => by omega, fun q => by omega⟩⟩)
theorem s_isEdge {x : Int} (hM : MS (I 2)) (hx : rg x) : wp_X12_isEdge x I J (fun r _ _ => Bo r (0 ≤ x ∧ x < I 2 1)) := by
  have b := ms_1 hM
  unfold wp_X12_isEdge
  exact fr_X12_isIn (s_isInA hx (rgK (by omega)) (rgK (by omega))) (fun v h => ⟨h.b, h.iff ⟨fun q => by omega, fun q => by omega⟩⟩)
theorem s_isPart {x : Int} (hM : MS (I 2)) (hx : rg x) : wp_X12_isPart x I J (fun r _ _ => Bo r (0 ≤ x ∧ x < I 2 2)) := by
  have b := ms_2 hM
  unfold wp_X12_isPart
  exact fr_X12_isIn (s_isInA hx (rgK (by omega)) (rgK (by omega))) (fun v h => ⟨h.b, h.iff ⟨fun q => by omega, fun q => by omega⟩⟩)
theorem s_groups (hM : MS (I 2)) : wp_X12_groups I J (fun r _ _ => r = grs (I 2)) := by
  have b := ms_5 hM
  unfold wp_X12_groups
  refine ⟨by omega, ?_⟩
  rw [show (105 + I 2 5).toNat = 105 + (I 2 5).toNat by omega]
  rfl
theorem s_isGroup {x : Int} (hM : MS (I 2)) (hx : rg x) : wp_X12_isGroup x I J (fun r _ _ => Bo r (0 ≤ x ∧ x < grs (I 2))) := by
  have b := grs_b hM
  unfold wp_X12_isGroup
  refine fr_X12_groups (s_groups hM) (fun v e => ?_)
  subst e
  exact fr_X12_isIn (s_isInA hx (rgK (by omega)) (rgK (by omega))) (fun v h => ⟨h.b, h.iff ⟨fun q => by omega, fun q => by omega⟩⟩)
theorem s_groupAt {x : Int} {v : Nat} (hM : MS (I 2)) (hx : x = (v : Int)) (hv : v < 14) : wp_X12_groupAt x I J (fun r _ _ => r = gAt (I 2) v) := by
  have b := ms_5 hM
  subst hx
  unfold wp_X12_groupAt
  refine ⟨by omega, ?_⟩
  rw [show (35 + 14 * I 2 5 + (v : Int)).toNat = 35 + 14 * (I 2 5).toNat + v by omega]
  rfl
theorem s_areVertices {x y : Int} (hM : MS (I 2)) (hx : rg x) (hy : rg y) : wp_X12_areVertices x y I J (fun r _ _ => Bo r ((0 ≤ x ∧ x < I 2 0) ∧ (0 ≤ y ∧ y < I 2 0))) := by
  unfold wp_X12_areVertices
  refine fr_X12_isVertex (s_isVertex hM hx) (fun v h => bo0 h (fun c => Bo.zero (fun z => c z.1)) (fun c => ?_))
  exact fr_X12_isVertex (s_isVertex hM hy) (fun v h => bo0 h (fun d => Bo.zero (fun z => d z.2)) (fun d => Bo.one ⟨c, d⟩))
theorem s_areThere {x y : Int} (hM : MS (I 2)) (hx : rg x) (hy : rg y) : wp_X12_areThere x y I J (fun r _ _ => Bo r ((0 ≤ x ∧ x < grs (I 2)) ∧ (0 ≤ y ∧ y < I 2 2))) := by
  unfold wp_X12_areThere
  refine fr_X12_isGroup (s_isGroup hM hx) (fun v h => bo0 h (fun c => Bo.zero (fun z => c z.1)) (fun c => ?_))
  exact fr_X12_isPart (s_isPart hM hy) (fun v h => bo0 h (fun d => Bo.zero (fun z => d z.2)) (fun d => Bo.one ⟨c, d⟩))
theorem s_mayApart (hM : MS (I 2)) : wp_X12_mayApart I J (fun r _ _ => Bo r (I 2 2 = 2 ∧ I 2 5 = 0)) := by
  have b := ms_2 hM
  have b5 := ms_5 hM
  unfold wp_X12_mayApart
  exact ⟨rgK (by omega), fun c => Bo.zero (fun z => c z.1), fun c => ⟨rgK (by omega), fun d => Bo.zero (fun z => d z.2), fun d => Bo.one ⟨c, d⟩⟩⟩
theorem s_allWeight (hM : MS (I 2)) : wp_X12_allWeight I J (fun r _ _ => r = allW (I 2)) := by
  have b0 := ms_0 hM
  refine ⟨15, loopN (L := fun n t v => L_X12_allWeight_4 _ n t v I J) (fun v t => t = sm (fun v => I 2 (7 + v)) v) (N := (I 2 0).toNat) (fun n v t hv ht k => ?_) 15 0 0 (by omega) (by omega) rfl⟩
  refine ls_X12_allWeight_4 ?_
  unfold Lb_X12_allWeight_4
  refine ⟨rgK (by omega), rgK (by omega), fun c => ?_, fun c => ⟨by omega, k (by omega) _ ?_⟩⟩
  · rw [ht, show v = (I 2 0).toNat by omega]; rfl
  · rw [ht, show (7 + (v : Int)).toNat = 7 + v by omega]; rfl
theorem s_allEdges (hM : MS (I 2)) : wp_X12_allEdges I J (fun r _ _ => r = allE (I 2)) := by
  have b0 := ms_1 hM
  refine ⟨41, loopN (L := fun n t v => L_X12_allEdges_4 _ n t v I J) (fun v t => t = sm (fun v => I 2 (190 + v)) v) (N := (I 2 1).toNat) (fun n v t hv ht k => ?_) 41 0 0 (by omega) (by omega) rfl⟩
  refine ls_X12_allEdges_4 ?_
  unfold Lb_X12_allEdges_4
  refine ⟨rgK (by omega), rgK (by omega), fun c => ?_, fun c => ⟨by omega, k (by omega) _ ?_⟩⟩
  · rw [ht, show v = (I 2 1).toNat by omega]; rfl
  · rw [ht, show (190 + (v : Int)).toNat = 190 + v by omega]; rfl
theorem s_limit (hM : MS (I 2)) : wp_X12_limit I J (fun r _ _ => r = limZ (I 2)) := by
  have b := allW_b hM
  have b2 := ms_2 hM
  unfold wp_X12_limit
  refine fr_X12_allWeight (s_allWeight hM) (fun v e => ?_)
  subst e
  exact ⟨by omega, rfl⟩
theorem s_isCut {x : Int} {e : Nat} (hM : MS (I 2)) (hx : x = (e : Int)) (he : e < 40) : wp_X12_isCut x I J (fun r _ _ => Bo r (cutE (I 2) e)) := by
  subst hx
  have ha := ms_a hM e he
  have hb := ms_b hM e he
  have e1 : (110 + (e : Int)).toNat = 110 + e := by omega
  have e2 : (150 + (e : Int)).toNat = 150 + e := by omega
  have e3 : (21 + I 2 (110 + e)).toNat = 21 + (I 2 (110 + e)).toNat := by omega
  have e4 : (21 + I 2 (150 + e)).toNat = 21 + (I 2 (150 + e)).toNat := by omega
  have h3 := ms_p hM (I 2 (110 + e)).toNat (by omega)
  have h4 := ms_p hM (I 2 (150 + e)).toNat (by omega)
  unfold wp_X12_isCut
  rw [e1, e2, e3, e4]
  exact ⟨by omega, by omega, by omega, by omega, rgK (by omega), rgK (by omega), fun c => Bo.zero (fun z => z c), fun c => Bo.one c⟩
theorem s_cutNow (hM : MS (I 2)) : wp_X12_cutNow I J (fun r _ _ => r = cutZ (I 2)) := by
  have b0 := ms_1 hM
  refine ⟨41, loopN (L := fun n t v => L_X12_cutNow_4 _ n t v I J) (fun v t => t = sm (fun e => if cutE (I 2) e then I 2 (190 + e) else 0) v) (N := (I 2 1).toNat) (fun n v t hv ht k => ?_) 41 0 0 (by omega) (by omega) rfl⟩
  refine ls_X12_cutNow_4 ?_
  unfold Lb_X12_cutNow_4
  refine ⟨rgK (by omega), rgK (by omega), fun c => ?_, fun c => ?_⟩
  · rw [ht, show v = (I 2 1).toNat by omega]; rfl
  · refine fr_X12_isCut (s_isCut hM rfl (by omega)) (fun r h => bo0 h (fun d => k (by omega) _ ?_) (fun d => ⟨by omega, k (by omega) _ ?_⟩))
    · rw [ht, sm_succ, if_neg d]
    · rw [ht, sm_succ, if_pos d, show (190 + (v : Int)).toNat = 190 + v by omega]
theorem s_weightOf {p : Int} (hM : MS (I 2)) (hp : rg p) : wp_X12_weightOf p I J (fun r _ _ => r = wOf (I 2) p) := by
  have b0 := ms_0 hM
  refine ⟨15, loopN (L := fun n t v => L_X12_weightOf_4 _ _ n t v I J) (fun v t => t = sm (fun v => if I 2 (21 + v) = p then I 2 (7 + v) else 0) v) (N := (I 2 0).toNat) (fun n v t hv ht k => ?_) 15 0 0 (by omega) (by omega) rfl⟩
  refine ls_X12_weightOf_4 ?_
  unfold Lb_X12_weightOf_4
  refine ⟨rgK (by omega), rgK (by omega), fun c => ?_, fun c => ?_⟩
  · rw [ht, show v = (I 2 0).toNat by omega]; rfl
  · have hb := ms_p hM v (by omega)
    rw [show (21 + (v : Int)).toNat = 21 + v by omega]
    refine ⟨by omega, rgK (by omega), hp, fun d => k (by omega) _ ?_, fun d => ⟨by omega, k (by omega) _ ?_⟩⟩
    · rw [ht, sm_succ, if_neg d]
    · rw [ht, sm_succ, if_pos d, show (7 + (v : Int)).toNat = 7 + v by omega]
theorem s_debtOf {p : Int} (hM : MS (I 2)) (hp : rg p) : wp_X12_debtOf p I J (fun r _ _ => r = debtZ (I 2) p) := by
  have b1 := wOf_b hM p
  have b2 := limZ_b hM
  unfold wp_X12_debtOf
  refine fr_X12_weightOf (s_weightOf hM hp) (fun v e => fr_X12_limit (s_limit hM) (fun w e2 => ?_))
  subst e e2
  unfold debtZ
  exact ⟨rgK (by omega), fun c => by rw [if_neg (by omega)], fun c => by rw [if_pos (by omega)]⟩
theorem s_debtsNow (hM : MS (I 2)) : wp_X12_debtsNow I J (fun r _ _ => r = debtsZ (I 2)) := by
  have b0 := ms_2 hM
  refine ⟨5, loopN (L := fun n t v => L_X12_debtsNow_4 _ n t v I J) (fun v t => t = sm (fun p => debtZ (I 2) (p : Int)) v) (N := (I 2 2).toNat) (fun n v t hv ht k => ?_) 5 0 0 (by omega) (by omega) rfl⟩
  refine ls_X12_debtsNow_4 ?_
  unfold Lb_X12_debtsNow_4
  refine ⟨rgK (by omega), rgK (by omega), fun c => ?_, fun c => ?_⟩
  · rw [ht, show v = (I 2 2).toNat by omega]; rfl
  · refine fr_X12_debtOf (s_debtOf hM (rgK (by omega))) (fun r h => k (by omega) _ ?_)
    rw [ht, h, sm_succ]
theorem s_edgeOf {a b : Int} (hM : MS (I 2)) (ha : rg a) (hb : rg b) : wp_X12_edgeOf a b I J (fun r _ _ => r = edgeZ (I 2) a b (I 2 1).toNat) := by
  have b0 := ms_1 hM
  refine ⟨41, loopN (L := fun n t v => L_X12_edgeOf_5 _ _ _ n t v I J) (fun v t => t = edgeZ (I 2) a b v) (N := (I 2 1).toNat) (fun n v t hv ht k => ?_) 41 0 (-1) (by omega) (by omega) rfl⟩
  refine ls_X12_edgeOf_5 ?_
  unfold Lb_X12_edgeOf_5 B_X12_edgeOf_45
  refine ⟨rgK (by omega), rgK (by omega), fun c => ?_, fun c => ?_⟩
  · rw [ht, show v = (I 2 1).toNat by omega]
  · have h1 := ms_a hM v (by omega)
    have h2 := ms_b hM v (by omega)
    rw [show (110 + (v : Int)).toNat = 110 + v by omega, show (150 + (v : Int)).toNat = 150 + v by omega]
    have no : ¬ ((I 2 (110 + v) = a ∧ I 2 (150 + v) = b) ∨ (I 2 (110 + v) = b ∧ I 2 (150 + v) = a)) → t = edgeZ (I 2) a b (v + 1) := fun z => by
      unfold edgeZ; rw [if_neg z, ht]
    have yes : ((I 2 (110 + v) = a ∧ I 2 (150 + v) = b) ∨ (I 2 (110 + v) = b ∧ I 2 (150 + v) = a)) → (v : Int) = edgeZ (I 2) a b (v + 1) := fun z => by
      unfold edgeZ; rw [if_pos z]
    refine ⟨by omega, rgK (by omega), ha, fun d => ⟨by omega, rgK (by omega), hb, fun d2 => k (by omega) _ (no ?_), fun d2 => ⟨by omega, rgK (by omega), ha, fun d3 => k (by omega) _ (no ?_), fun d3 => k (by omega) _ (yes ?_)⟩⟩, fun d => ⟨by omega, rgK (by omega), hb, fun d2 => k (by omega) _ (yes ?_), fun d2 => ⟨by omega, rgK (by omega), hb, fun d3 => k (by omega) _ (no ?_), fun d3 => ⟨by omega, rgK (by omega), ha, fun d4 => k (by omega) _ (no ?_), fun d4 => k (by omega) _ (yes ?_)⟩⟩⟩⟩ <;> omega
theorem s_outOf {x : Int} {s : Nat} (hM : MS (I 2)) (hx : x = (s : Int)) (hs : s < 2147483648) : wp_X12_outOf x I J (fun r _ _ => r = outZ (I 2) s) := by
  have b0 := ms_1 hM
  refine ⟨41, loopN (L := fun n t v => L_X12_outOf_4 _ _ n t v I J) (fun v t => t = sm (fun e => if s.testBit (I 2 (110 + e)).toNat = s.testBit (I 2 (150 + e)).toNat then 0 else I 2 (190 + e)) v) (N := (I 2 1).toNat) (fun n v t hv ht k => ?_) 41 0 0 (by omega) (by omega) rfl⟩
  refine ls_X12_outOf_4 ?_
  unfold Lb_X12_outOf_4
  refine ⟨rgK (by omega), rgK (by omega), fun c => ?_, fun c => ?_⟩
  · rw [ht, show v = (I 2 1).toNat by omega]; rfl
  · have h1 := ms_a hM v (by omega)
    have h2 := ms_b hM v (by omega)
    rw [show (110 + (v : Int)).toNat = 110 + v by omega, show (150 + (v : Int)).toNat = 150 + v by omega, show (190 + (v : Int)).toNat = 190 + v by omega]
    refine ⟨by omega, fr_X12_hasBit (s_hasBit (s := s) (k := (I 2 (110 + v)).toNat) hx (by omega) hs (by omega)) (fun r1 g1 => ⟨by omega, fr_X12_hasBit (s_hasBit (s := s) (k := (I 2 (150 + v)).toNat) hx (by omega) hs (by omega)) (fun r2 g2 => ⟨fun d => k (by omega) _ ?_, fun d => ⟨by omega, k (by omega) _ ?_⟩⟩)⟩)⟩
    · rw [ht, sm_succ, if_pos]
      rcases g1 with ⟨rfl, g1⟩ | ⟨rfl, g1⟩ <;> rcases g2 with ⟨rfl, g2⟩ | ⟨rfl, g2⟩ <;> simp_all
    · rw [ht, sm_succ, if_neg]
      rcases g1 with ⟨rfl, g1⟩ | ⟨rfl, g1⟩ <;> rcases g2 with ⟨rfl, g2⟩ | ⟨rfl, g2⟩ <;> simp_all
theorem s_groupWeight {g : Int} (hM : MS (I 2)) (hg : rg g) : wp_X12_groupWeight g I J (fun r _ _ => r = gW (I 2) g) := by
  have b0 := ms_0 hM
  refine ⟨15, loopN (L := fun n t v => L_X12_groupWeight_4 _ _ n t v I J) (fun v t => t = sm (fun v => if gAt (I 2) v = g then I 2 (7 + v) else 0) v) (N := (I 2 0).toNat) (fun n v t hv ht k => ?_) 15 0 0 (by omega) (by omega) rfl⟩
  refine ls_X12_groupWeight_4 ?_
  unfold Lb_X12_groupWeight_4
  refine ⟨rgK (by omega), rgK (by omega), fun c => ?_, fun c => ?_⟩
  · rw [ht, show v = (I 2 0).toNat by omega]; rfl
  · refine fr_X12_groupAt (s_groupAt hM rfl (by omega)) (fun r hr => ?_)
    subst hr
    have hb := gAt_b hM (v := v) (by omega)
    refine ⟨rgK (by omega), hg, fun d => k (by omega) _ ?_, fun d => ⟨by omega, k (by omega) _ ?_⟩⟩
    · rw [ht, sm_succ, if_neg d]
    · rw [ht, sm_succ, if_pos d, show (7 + (v : Int)).toNat = 7 + v by omega]
theorem s_joined {g h : Int} (hM : MS (I 2)) (hg : rg g) (hh : rg h) : wp_X12_joined g h I J (fun r _ _ => r = joinZ (I 2) g h) := by
  have b0 := ms_1 hM
  refine ⟨41, loopN (L := fun n t v => L_X12_joined_5 _ _ _ n t v I J) (fun v t => t = sm (fun e => if (gAt (I 2) (I 2 (110 + e)).toNat = g ∧ gAt (I 2) (I 2 (150 + e)).toNat = h) ∨ (gAt (I 2) (I 2 (110 + e)).toNat = h ∧ gAt (I 2) (I 2 (150 + e)).toNat = g) then I 2 (190 + e) else 0) v) (N := (I 2 1).toNat) (fun n v t hv ht k => ?_) 41 0 0 (by omega) (by omega) rfl⟩
  refine ls_X12_joined_5 ?_
  unfold Lb_X12_joined_5 B_X12_joined_62 B_X12_joined_74
  refine ⟨rgK (by omega), rgK (by omega), fun c => ?_, fun c => ?_⟩
  · rw [ht, show v = (I 2 1).toNat by omega]; rfl
  · have h1 := ms_a hM v (by omega)
    have h2 := ms_b hM v (by omega)
    rw [show (110 + (v : Int)).toNat = 110 + v by omega, show (150 + (v : Int)).toNat = 150 + v by omega, show (190 + (v : Int)).toNat = 190 + v by omega]
    refine ⟨by omega, fr_X12_groupAt (s_groupAt (v := (I 2 (110 + v)).toNat) hM (by omega) (by omega)) (fun r1 g1 => ⟨by omega, fr_X12_groupAt (s_groupAt (v := (I 2 (150 + v)).toNat) hM (by omega) (by omega)) (fun r2 g2 => ?_)⟩)⟩
    subst g1 g2
    have q1 := gAt_b hM (v := (I 2 (110 + v)).toNat) (by omega)
    have q2 := gAt_b hM (v := (I 2 (150 + v)).toNat) (by omega)
    have no : ∀ {t' : Int}, t' = t + 0 → ¬ ((gAt (I 2) (I 2 (110 + v)).toNat = g ∧ gAt (I 2) (I 2 (150 + v)).toNat = h) ∨ (gAt (I 2) (I 2 (110 + v)).toNat = h ∧ gAt (I 2) (I 2 (150 + v)).toNat = g)) → t' = sm (fun e => if (gAt (I 2) (I 2 (110 + e)).toNat = g ∧ gAt (I 2) (I 2 (150 + e)).toNat = h) ∨ (gAt (I 2) (I 2 (110 + e)).toNat = h ∧ gAt (I 2) (I 2 (150 + e)).toNat = g) then I 2 (190 + e) else 0) (v + 1) := fun e z => by
      rw [e, ht, sm_succ, if_neg z]
    have yes : ∀ {t' : Int}, t' = t + I 2 (190 + v) → ((gAt (I 2) (I 2 (110 + v)).toNat = g ∧ gAt (I 2) (I 2 (150 + v)).toNat = h) ∨ (gAt (I 2) (I 2 (110 + v)).toNat = h ∧ gAt (I 2) (I 2 (150 + v)).toNat = g)) → t' = sm (fun e => if (gAt (I 2) (I 2 (110 + e)).toNat = g ∧ gAt (I 2) (I 2 (150 + e)).toNat = h) ∨ (gAt (I 2) (I 2 (110 + e)).toNat = h ∧ gAt (I 2) (I 2 (150 + e)).toNat = g) then I 2 (190 + e) else 0) (v + 1) := fun e z => by
      rw [e, ht, sm_succ, if_pos z]
    refine ⟨rgK (by omega), hg, fun d => ⟨rgK (by omega), hh, fun d2 => k (by omega) _ (no rfl ?_), fun d2 => ⟨rgK (by omega), hg, fun d3 => k (by omega) _ (no rfl ?_), fun d3 => ⟨by omega, k (by omega) _ (yes rfl ?_)⟩⟩⟩, fun d => ⟨rgK (by omega), hh, fun d2 => ⟨by omega, k (by omega) _ (yes rfl ?_)⟩, fun d2 => ⟨rgK (by omega), hh, fun d3 => k (by omega) _ (no rfl ?_), fun d3 => ⟨rgK (by omega), hg, fun d4 => k (by omega) _ (no rfl ?_), fun d4 => ⟨by omega, k (by omega) _ (yes rfl ?_)⟩⟩⟩⟩⟩ <;> omega
end RV
