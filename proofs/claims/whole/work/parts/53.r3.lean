/-! ===== the first vertex of a group, its part ===== -/
/-- the first number below n with c, n without one -/
def fv (c : Nat → Bool) : Nat → Nat
  | 0 => 0
  | n + 1 => if fv c n < n then fv c n else if c n then n else n + 1
theorem fv_le (c : Nat → Bool) : ∀ n, fv c n ≤ n
  | 0 => Nat.le_refl 0
  | n + 1 => by
    have := fv_le c n
    unfold fv
    split
    · omega
    · split <;> omega
theorem fv_lt {c : Nat → Bool} : ∀ {n : Nat}, fv c n < n → c (fv c n) = true
  | 0, h => by unfold fv at h; omega
  | n + 1, h => by
    unfold fv at h ⊢
    by_cases h1 : fv c n < n
    · rw [if_pos h1]; exact fv_lt h1
    · rw [if_neg h1] at h ⊢
      by_cases h2 : c n = true
      · rw [if_pos h2]; exact h2
      · rw [if_neg h2] at h; omega
theorem fv_min {c : Nat → Bool} : ∀ {n u : Nat}, u < fv c n → c u = false
  | 0, u, h => by unfold fv at h; omega
  | n + 1, u, h => by
    unfold fv at h
    have hl := fv_le c n
    by_cases h1 : fv c n < n
    · rw [if_pos h1] at h; exact fv_min h
    · rw [if_neg h1] at h
      have e : fv c n = n := by omega
      by_cases h2 : c n = true
      · rw [if_pos h2] at h; exact fv_min (n := n) (by omega)
      · rw [if_neg h2] at h
        by_cases h3 : u = n
        · subst h3; cases hc : c u
          · rfl
          · exact absurd hc h2
        · exact fv_min (n := n) (by omega)
theorem fv_eq {c : Nat → Bool} {n v : Nat} (hv : v < n) (hc : c v = true) (hm : ∀ u, u < v → c u = false) : fv c n = v := by
  have h1 : ¬ v < fv c n := fun z => by
    have := fv_min z
    rw [hc] at this; cases this
  have h2 : ¬ fv c n < v := fun z => by
    have h3 := fv_lt (c := c) (n := n) (by omega)
    rw [hm _ z] at h3; cases h3
  omega
/-- a group's part -/
def gPt (σ : Nat → Int) (g : Int) : Int := σ (21 + fv (fun v => decide (gAt σ v = g)) 14)
/-- each group has a vertex -/
def GV (σ : Nat → Int) : Prop := ∀ g : Int, 0 ≤ g → g < grs σ → ∃ v, v < (σ 0).toNat ∧ gAt σ v = g
theorem GV.has {σ : Nat → Int} (h : GV σ) (hM : MS σ) {g : Int} (h0 : 0 ≤ g) (h1 : g < grs σ) : hasV σ g := by
  obtain ⟨v, hv, e⟩ := h g h0 h1
  have := ms_0 hM
  exact ⟨v, by omega, e⟩
theorem gPt_b {σ : Nat → Int} (hM : MS σ) {g : Int} (hv : hasV σ g) : 0 ≤ gPt σ g ∧ gPt σ g ≤ 3 := by
  obtain ⟨v, h1, h2⟩ := hv
  have hl : ¬ v < fv (fun v => decide (gAt σ v = g)) 14 := fun z => by
    have := fv_min z
    simp [h2] at this
  exact ms_p hM _ (by omega)
/-- more than nothing -/
def pos (z : Int) : Int := if 0 < z then z else 0
theorem pos_b {z c : Int} (h : z ≤ c) (hc : 0 ≤ c) : 0 ≤ pos z ∧ pos z ≤ c := by unfold pos; split <;> omega
/-- what a move of g to p is worth at edge e -/
def gainE (σ : Nat → Int) (g p : Int) (e : Nat) : Int :=
  if (gAt σ (σ (110 + e)).toNat = g ↔ gAt σ (σ (150 + e)).toNat = g) then 0
  else if (if gAt σ (σ (110 + e)).toNat = g then σ (21 + (σ (150 + e)).toNat) else σ (21 + (σ (110 + e)).toNat)) = p then σ (190 + e)
  else if (if gAt σ (σ (110 + e)).toNat = g then σ (21 + (σ (150 + e)).toNat) else σ (21 + (σ (110 + e)).toNat)) = gPt σ g then -σ (190 + e) else 0
def gainZ (σ : Nat → Int) (g p : Int) : Int := if gPt σ g = p then 0 else sm (gainE σ g p) (σ 1).toNat
def dwQ (σ : Nat → Int) (g p : Int) (q : Nat) : Int := pos (wOf σ (q : Int) - (if (q : Int) = gPt σ g then 1 else 0) * gW σ g + (if (q : Int) = p then 1 else 0) * gW σ g - limZ σ)
def dwZ (σ : Nat → Int) (g p : Int) : Int := sm (dwQ σ g p) (σ 2).toNat
def wmZ (σ : Nat → Int) (g p : Int) : Int := if gPt σ g = p then 1 else if σ 4 < dwZ σ g p ∧ debtsZ σ < dwZ σ g p then 2 else 0
theorem gainE_b {σ : Nat → Int} (h : MS σ) (g p : Int) {e : Nat} (he : e < 40) : -99 ≤ gainE σ g p e ∧ gainE σ g p e ≤ 99 := by
  have := ms_h h e he
  unfold gainE
  split
  · omega
  · split
    · omega
    · split <;> omega
theorem sm_bound2 {f : Nat → Int} {c : Int} : ∀ {n : Nat}, (∀ k, k < n → -c ≤ f k ∧ f k ≤ c) → -(c * n) ≤ sm f n ∧ sm f n ≤ c * n
  | 0, _ => by simp [sm]
  | n + 1, h => by
    have h1 := sm_bound2 (n := n) (fun k hk => h k (by omega))
    have h2 := h n (by omega)
    have e : c * ((n + 1 : Nat) : Int) = c * (n : Int) + c := by rw [Int.natCast_succ, Int.mul_add, Int.mul_one]
    rw [sm_succ, e]
    omega
theorem gainZ_b {σ : Nat → Int} (h : MS σ) (g p : Int) : -3960 ≤ gainZ σ g p ∧ gainZ σ g p ≤ 3960 := by
  have b := ms_1 h
  have := sm_bound2 (f := gainE σ g p) (c := 99) (n := (σ 1).toNat) (fun k hk => gainE_b h g p (by omega))
  unfold gainZ
  split <;> omega
theorem dwQ_b {σ : Nat → Int} (h : MS σ) (g p : Int) (q : Nat) : 0 ≤ dwQ σ g p q ∧ dwQ σ g p q ≤ 2772 := by
  have h1 := wOf_b h (q : Int)
  have h2 := limZ_b h
  have h3 := gW_b h g
  unfold dwQ
  refine pos_b ?_ (by omega)
  split <;> split <;> omega
theorem dwZ_b {σ : Nat → Int} (h : MS σ) (g p : Int) : 0 ≤ dwZ σ g p ∧ dwZ σ g p ≤ 11088 := by
  have b := ms_2 h
  have := sm_bound (f := dwQ σ g p) (c := 2772) (n := (σ 2).toNat) (fun k _ => dwQ_b h g p k)
  unfold dwZ
  omega
theorem wmZ_b (σ : Nat → Int) (g p : Int) : 0 ≤ wmZ σ g p ∧ wmZ σ g p ≤ 2 := by
  unfold wmZ
  split
  · omega
  · split <;> omega
/-- the best of the moves: (10 times the group plus the part, its gain, the debts with it); one move more is looked at -/
def bmS (σ : Nat → Int) (lw : Bool) (g p : Nat) (a : Int × Int × Int) : Int × Int × Int :=
  if 0 < wmZ σ g p ∨ (lw = true ∧ debtsZ σ ≤ dwZ σ g p) ∨ (lw = false ∧ gainZ σ g p ≤ 0) then a
  else if a.1 ≠ -1 ∧ (gainZ σ g p < a.2.1 ∨ (gainZ σ g p = a.2.1 ∧ a.2.2 ≤ dwZ σ g p)) then a
  else (10 * (g : Int) + (p : Int), gainZ σ g p, dwZ σ g p)
def bmR (σ : Nat → Int) (lw : Bool) (g : Nat) : Nat → Int × Int × Int → Int × Int × Int
  | 0, a => a
  | p + 1, a => bmS σ lw g p (bmR σ lw g p a)
def bmZ (σ : Nat → Int) (lw : Bool) : Nat → Int × Int × Int
  | 0 => (-1, 0, 0)
  | g + 1 => bmR σ lw g (σ 2).toNat (bmZ σ lw g)
def nxZ (σ : Nat → Int) : Int :=
  if 0 < debtsZ σ then (if (bmZ σ true (grs σ).toNat).1 = -1 then (bmZ σ false (grs σ).toNat).1 else (bmZ σ true (grs σ).toNat).1) else (bmZ σ false (grs σ).toNat).1
/-- a triple within bounds -/
def bmB (a : Int × Int × Int) : Prop := (-1 ≤ a.1 ∧ a.1 ≤ 133) ∧ (-4000 ≤ a.2.1 ∧ a.2.1 ≤ 4000) ∧ (0 ≤ a.2.2 ∧ a.2.2 ≤ 12000)
theorem bmS_b {σ : Nat → Int} (hM : MS σ) (lw : Bool) {g p : Nat} (hg : g < 14) (hp : p < 4) {a : Int × Int × Int} (ha : bmB a) : bmB (bmS σ lw g p a) := by
  have h1 := gainZ_b hM g p
  have h2 := dwZ_b hM g p
  unfold bmS
  split
  · exact ha
  · split
    · exact ha
    · show (-1 ≤ 10 * (g : Int) + (p : Int) ∧ 10 * (g : Int) + (p : Int) ≤ 133) ∧ (-4000 ≤ gainZ σ g p ∧ gainZ σ g p ≤ 4000) ∧ (0 ≤ dwZ σ g p ∧ dwZ σ g p ≤ 12000)
      omega
theorem bmR_b {σ : Nat → Int} (hM : MS σ) (lw : Bool) {g : Nat} (hg : g < 14) : ∀ {p : Nat} {a : Int × Int × Int}, p ≤ 4 → bmB a → bmB (bmR σ lw g p a)
  | 0, a, _, ha => ha
  | p + 1, a, hp, ha => bmS_b hM lw hg (by omega) (bmR_b hM lw hg (by omega) ha)
theorem bmZ_b {σ : Nat → Int} (hM : MS σ) (lw : Bool) : ∀ {g : Nat}, g ≤ 14 → bmB (bmZ σ lw g)
  | 0, _ => by
    show (-1 ≤ (-1 : Int) ∧ (-1 : Int) ≤ 133) ∧ (-4000 ≤ (0 : Int) ∧ (0 : Int) ≤ 4000) ∧ (0 ≤ (0 : Int) ∧ (0 : Int) ≤ 12000)
    omega
  | g + 1, hg => by
    have b2 := ms_2 hM
    exact bmR_b hM lw (by omega) (by omega) (bmZ_b hM lw (by omega))
theorem nxZ_b {σ : Nat → Int} (hM : MS σ) : -1 ≤ nxZ σ ∧ nxZ σ ≤ 133 := by
  have b := grs_b hM
  have h1 := (bmZ_b hM true (g := (grs σ).toNat) (by omega)).1
  have h2 := (bmZ_b hM false (g := (grs σ).toNat) (by omega)).1
  unfold nxZ
  split
  · split <;> omega
  · omega
section RV3
variable {I : Ii} {J : Jj}
theorem s_gPt {g : Int} (hM : MS (I 2)) (hg : rg g) (hv : hasV (I 2) g) : wp_X12_groupPart g I J (fun r _ _ => r = gPt (I 2) g) := by
  refine fr_X12_groupPart (s_groupPart hM hg hv) (fun r h => ?_)
  obtain ⟨v, h1, h2, h3, h4⟩ := h
  rw [h4]
  unfold gPt
  rw [fv_eq (v := v) h1 (by simp [h2]) (fun u hu => by simp [h3 u hu])]
theorem s_gainOf' {g p : Int} {Q : Int → Ii → Jj → Prop} (hM : MS (I 2)) (hg : rg g) (hp : rg p) (hv : hasV (I 2) g) (hQ : Q (gainZ (I 2) g p) I J) : wp_X12_gainOf g p I J Q := by
  have b0 := ms_1 hM
  have bg := gPt_b hM hv
  unfold wp_X12_gainOf
  refine fr_X12_groupPart (s_gPt hM hg hv) (fun own hown => ?_)
  by_cases hop : own = p
  · have hz : gainZ (I 2) g p = 0 := by unfold gainZ; rw [if_pos (by rw [← hown]; exact hop)]
    rw [hz] at hQ
    refine ⟨1, ?_⟩
    refine ls_X12_gainOf_12 ?_
    unfold Lb_X12_gainOf_12
    exact ⟨rgK (by omega), rgK (by omega), fun c => hQ, fun c => ⟨rgK (by omega), hp, fun d => hQ, fun d => absurd hop d⟩⟩
  · have hz : gainZ (I 2) g p = sm (gainE (I 2) g p) (I 2 1).toNat := by unfold gainZ; rw [if_neg (by rw [← hown]; exact hop)]
    rw [hz] at hQ
    refine ⟨41, loopN (L := fun n t v => L_X12_gainOf_12 g p Q n own t v I J) (fun v t => t = sm (gainE (I 2) g p) v) (N := (I 2 1).toNat) (fun n v t hv ht k => ?_) 41 0 0 (by omega) (by omega) rfl⟩
    refine ls_X12_gainOf_12 ?_
    generalize hr : L_X12_gainOf_12 g p Q n = r at k ⊢
    unfold Lb_X12_gainOf_12
    refine ⟨rgK (by omega), rgK (by omega), fun c => ?_, fun c => ⟨rgK (by omega), hp, fun d => absurd d hop, fun d => ?_⟩⟩
    · rw [ht, show v = (I 2 1).toNat by omega]; exact hQ
    · have h1 := ms_a hM v (by omega)
      have h2 := ms_b hM v (by omega)
      have h5 := ms_h hM v (by omega)
      have q1 := gAt_b hM (v := (I 2 (110 + v)).toNat) (by omega)
      have q2 := gAt_b hM (v := (I 2 (150 + v)).toNat) (by omega)
      have p1 := ms_p hM (I 2 (110 + v)).toNat (by omega)
      have p2 := ms_p hM (I 2 (150 + v)).toNat (by omega)
      have fin : ∀ x : Int, x = gainE (I 2) g p v → t + x = sm (gainE (I 2) g p) (v + 1) := fun x hx => by rw [ht, hx]; rfl
      have b122 : ∀ (t0 : Int), (0 ≤ t0 ∧ t0 ≤ 3) → (t0 = p → I 2 (190 + v) = gainE (I 2) g p v) → (¬ t0 = p → t0 = own → -I 2 (190 + v) = gainE (I 2) g p v) → (¬ t0 = p → ¬ t0 = own → 0 = gainE (I 2) g p v) → B_X12_gainOf_122 g p Q r own t v t0 I J := fun t0 hb e1 e2 e3 => by
        unfold B_X12_gainOf_122
        rw [show (190 + (v : Int)).toNat = 190 + v by omega]
        exact ⟨rgK (by omega), hp, fun z => ⟨rgK (by omega), fun z2 => k (by omega) _ (fin _ (e3 z z2)), fun z2 => ⟨by omega, k (by omega) _ (fin _ (e2 z z2))⟩⟩, fun z => ⟨by omega, k (by omega) _ (fin _ (e1 z))⟩⟩
      have b83 : ∀ (t0 t1 : Int), (t0 = 0 ∨ t0 = 1) → (t1 = 0 ∨ t1 = 1) → (t0 = 1 ↔ gAt (I 2) (I 2 (110 + v)).toNat = g) → (t1 = 1 ↔ gAt (I 2) (I 2 (150 + v)).toNat = g) → B_X12_gainOf_83 g p Q r own t v (I 2 (110 + v)) (I 2 (150 + v)) t0 t1 I J := by
        intro t0 t1 ht0 ht1 f0 f1
        unfold B_X12_gainOf_83
        rw [show (21 + I 2 (110 + v)).toNat = 21 + (I 2 (110 + v)).toNat by omega, show (21 + I 2 (150 + v)).toNat = 21 + (I 2 (150 + v)).toNat by omega]
        refine ⟨rgK (by omega), rgK (by omega), fun z => ?_, fun z => k (by omega) _ ?_⟩
        · have hif : ¬ (gAt (I 2) (I 2 (110 + v)).toNat = g ↔ gAt (I 2) (I 2 (150 + v)).toNat = g) := fun q => by
            have : t0 = 1 ↔ t1 = 1 := f0.trans (q.trans f1.symm)
            omega
          refine fr_X12_groupAt (s_groupAt (v := (I 2 (110 + v)).toNat) hM (by omega) (by omega)) (fun r3 g3 => ?_)
          subst g3
          refine ⟨rgK (by omega), hg, fun d3 => ⟨by omega, ?_⟩, fun d3 => ⟨by omega, ?_⟩⟩
          · refine b122 _ p1 (fun w => ?_) (fun w w2 => ?_) (fun w w2 => ?_) <;> (unfold gainE; rw [if_neg hif, if_neg d3])
            · rw [if_pos w]
            · rw [if_neg w, if_pos (by rw [← hown]; exact w2)]
            · rw [if_neg w, if_neg (by rw [← hown]; exact w2)]
          · refine b122 _ p2 (fun w => ?_) (fun w w2 => ?_) (fun w w2 => ?_) <;> (unfold gainE; rw [if_neg hif, if_pos d3])
            · rw [if_pos w]
            · rw [if_neg w, if_pos (by rw [← hown]; exact w2)]
            · rw [if_neg w, if_neg (by rw [← hown]; exact w2)]
        · have hif : (gAt (I 2) (I 2 (110 + v)).toNat = g ↔ gAt (I 2) (I 2 (150 + v)).toNat = g) := f0.symm.trans (by rw [z]; exact f1)
          rw [ht, sm_succ]; unfold gainE; rw [if_pos hif]; omega
      have b68 : ∀ (t0 : Int), (t0 = 0 ∨ t0 = 1) → (t0 = 1 ↔ gAt (I 2) (I 2 (110 + v)).toNat = g) → B_X12_gainOf_68 g p Q r own t v (I 2 (110 + v)) (I 2 (150 + v)) t0 I J := by
        intro t0 ht0 f0
        unfold B_X12_gainOf_68
        refine fr_X12_groupAt (s_groupAt (v := (I 2 (150 + v)).toNat) hM (by omega) (by omega)) (fun r2 g2 => ?_)
        subst g2
        exact ⟨rgK (by omega), hg, fun d2 => b83 t0 0 ht0 (Or.inl rfl) f0 ⟨fun z => by omega, fun z => absurd z d2⟩, fun d2 => b83 t0 1 ht0 (Or.inr rfl) f0 ⟨fun _ => d2, fun _ => rfl⟩⟩
      rw [show (110 + (v : Int)).toNat = 110 + v by omega, show (150 + (v : Int)).toNat = 150 + v by omega]
      refine ⟨by omega, by omega, fr_X12_groupAt (s_groupAt (v := (I 2 (110 + v)).toNat) hM (by omega) (by omega)) (fun r1 g1 => ?_)⟩
      subst g1
      exact ⟨rgK (by omega), hg, fun d1 => b68 0 (Or.inl rfl) ⟨fun z => by omega, fun z => absurd z d1⟩, fun d1 => b68 1 (Or.inr rfl) ⟨fun _ => d1, fun _ => rfl⟩⟩
theorem s_gainOf {g p : Int} (hM : MS (I 2)) (hg : rg g) (hp : rg p) (hv : hasV (I 2) g) : wp_X12_gainOf g p I J (fun r _ _ => r = gainZ (I 2) g p) := s_gainOf' hM hg hp hv rfl
theorem s_debtsWith' {g p : Int} {Q : Int → Ii → Jj → Prop} (hM : MS (I 2)) (hg : rg g) (hp : rg p) (hv : hasV (I 2) g) (hQ : Q (dwZ (I 2) g p) I J) : wp_X12_debtsWith g p I J Q := by
  have b0 := ms_2 hM
  have bg := gPt_b hM hv
  have bw := gW_b hM g
  have bl := limZ_b hM
  unfold wp_X12_debtsWith
  refine fr_X12_groupPart (s_gPt hM hg hv) (fun own hown => ?_)
  refine fr_X12_groupWeight (s_groupWeight hM hg) (fun w hw => ?_)
  refine ⟨5, loopN (L := fun n t v => L_X12_debtsWith_19 g p Q n own t w v I J) (fun v t => t = sm (dwQ (I 2) g p) v) (N := (I 2 2).toNat) (fun n v t hv ht k => ?_) 5 0 0 (by omega) (by omega) rfl⟩
  refine ls_X12_debtsWith_19 ?_
  generalize hr : L_X12_debtsWith_19 g p Q n = r at k ⊢
  unfold Lb_X12_debtsWith_19
  refine ⟨rgK (by omega), rgK (by omega), fun c => ?_, fun c => ?_⟩
  · rw [ht, show v = (I 2 2).toNat by omega]; exact hQ
  · refine fr_X12_weightOf (s_weightOf hM (rgK (by omega))) (fun x hx => ?_)
    have br := wOf_b hM (v : Int)
    have b65 : ∀ (y z2 : Int), (z2 = 0 ∨ z2 = 1) → (0 - 1386 ≤ y ∧ y ≤ 1386) → dwQ (I 2) g p v = pos (y + z2 * w - limZ (I 2)) → B_X12_debtsWith_65 g p Q r own t w v y z2 I J := by
      intro y z2 hz hy e
      unfold B_X12_debtsWith_65
      refine fr_X12_truth (s_truth hz) (fun r2 h2 => fr_X12_limit (s_limit hM) (fun r3 h3 => ?_))
      subst h2 h3
      refine ⟨?_, fun d => k (by omega) _ ?_, fun d => k (by omega) _ ?_⟩
      · rcases hz with rfl | rfl <;> exact rgK (by omega)
      · rw [sm_succ, e, ht]; unfold pos; rw [if_neg (by omega)]
      · rw [sm_succ, e, ht]; unfold pos; rw [if_pos (by omega)]
    have b47 : ∀ (z1 : Int), (z1 = 0 ∨ z1 = 1) → z1 = (if (v : Int) = gPt (I 2) g then 1 else 0) → B_X12_debtsWith_47 g p Q r own t w v x z1 I J := by
      intro z1 hz e
      unfold B_X12_debtsWith_47
      refine fr_X12_truth (s_truth hz) (fun r2 h2 => ?_)
      subst h2
      have hy : 0 - 1386 ≤ x - r2 * w ∧ x - r2 * w ≤ 1386 := by rcases hz with rfl | rfl <;> omega
      refine ⟨rgK (by omega), hp, fun d2 => b65 _ 0 (Or.inl rfl) hy ?_, fun d2 => b65 _ 1 (Or.inr rfl) hy ?_⟩
      · unfold dwQ; rw [← e, if_neg d2, hx, hw]
      · unfold dwQ; rw [← e, if_pos d2, hx, hw]
    refine ⟨rgK (by omega), rgK (by omega), fun d => b47 0 (Or.inl rfl) (by rw [if_neg (by rw [← hown]; exact d)]), fun d => b47 1 (Or.inr rfl) (by rw [if_pos (by rw [← hown]; exact d)])⟩
theorem s_debtsWith {g p : Int} (hM : MS (I 2)) (hg : rg g) (hp : rg p) (hv : hasV (I 2) g) : wp_X12_debtsWith g p I J (fun r _ _ => r = dwZ (I 2) g p) := s_debtsWith' hM hg hp hv rfl
theorem s_whyMove {g p : Int} (hM : MS (I 2)) (hg : rg g) (hp : rg p) (hv : hasV (I 2) g) : wp_X12_whyMove g p I J (fun r _ _ => r = wmZ (I 2) g p) := by
  have bg := gPt_b hM hv
  have b4 := ms_4 hM
  have bd := dwZ_b hM g p
  have bn := debtsZ_b hM
  unfold wp_X12_whyMove
  refine fr_X12_groupPart (s_gPt hM hg hv) (fun own hown => ?_)
  subst hown
  unfold wmZ
  refine ⟨rgK (by omega), hp, fun d => ?_, fun d => by rw [if_pos d]⟩
  refine fr_X12_debtsWith (s_debtsWith hM hg hp hv) (fun r hr => ?_)
  subst hr
  rw [if_neg d]
  refine ⟨rgK (by omega), rgK (by omega), fun c => by rw [if_neg (by omega)], fun c => ?_⟩
  refine fr_X12_debtsNow (s_debtsNow hM) (fun r hr => ?_)
  subst hr
  exact ⟨rgK (by omega), rgK (by omega), fun c2 => by rw [if_neg (by omega)], fun c2 => by rw [if_pos (by omega)]⟩
theorem s_bestMove' {lw : Bool} {Q : Int → Ii → Jj → Prop} {z : Int} (hz : z = if lw then 1 else 0) (hM : MS (I 2)) (hG : GV (I 2)) (hQ : Q (bmZ (I 2) lw (grs (I 2)).toNat).1 I J) : wp_X12_bestMove z I J Q := by
  have bG := grs_b hM
  have b2 := ms_2 hM
  have bn := debtsZ_b hM
  unfold wp_X12_bestMove
  refine fr_X12_debtsNow (s_debtsNow hM) (fun now hnow => ?_)
  refine ⟨15, loopN (L := fun n (a : Int × Int × Int) v => L_X12_bestMove_16 z Q n a.1 a.2.1 a.2.2 now v I J) (fun v a => a = bmZ (I 2) lw v) (N := (grs (I 2)).toNat) (fun n v a hv ha k => ?_) 15 0 (-1, 0, 0) (by omega) (by omega) rfl⟩
  refine ls_X12_bestMove_16 ?_
  generalize hr : L_X12_bestMove_16 z Q n = r at k ⊢
  unfold Lb_X12_bestMove_16
  refine fr_X12_groups (s_groups hM) (fun gr hgr => ?_)
  refine ⟨rgK (by omega), rgK (by omega), fun c => by rw [ha, show v = (grs (I 2)).toNat by omega]; exact hQ, fun c => ?_⟩
  have hv' : hasV (I 2) (v : Int) := hG.has hM (by omega) (by omega)
  refine ⟨5, loopN (L := fun n2 (a2 : Int × Int × Int) p => L_X12_bestMove_28 z Q r n2 a2.1 a2.2.1 a2.2.2 now v p I J) (fun p a2 => a2 = bmR (I 2) lw v p a) (N := (I 2 2).toNat) (fun n2 p a2 hp ha2 k2 => ?_) 5 0 a (by omega) (by omega) rfl⟩
  refine ls_X12_bestMove_28 ?_
  generalize hr2 : L_X12_bestMove_28 z Q r n2 = r2 at k2 ⊢
  unfold Lb_X12_bestMove_28
  refine ⟨rgK (by omega), rgK (by omega), fun c2 => ?_, fun c2 => ?_⟩
  · refine k (by omega) _ ?_
    rw [ha2, ha, show p = (I 2 2).toNat by omega]
    rfl
  · have hab : bmB a2 := by rw [ha2, ha]; exact bmR_b hM lw (by omega) (by omega) (bmZ_b hM lw (by omega))
    obtain ⟨ha1, hb1, hc1⟩ := hab
    refine fr_X12_gainOf (s_gainOf hM (rgK (by omega)) (rgK (by omega)) hv') (fun gn hgn => fr_X12_debtsWith (s_debtsWith hM (rgK (by omega)) (rgK (by omega)) hv') (fun db hdb => fr_X12_whyMove (s_whyMove hM (rgK (by omega)) (rgK (by omega)) hv') (fun wm hwm => ?_)))
    have g1 := gainZ_b hM v p
    have g2 := dwZ_b hM v p
    have g3 := wmZ_b (I 2) v p
    have stay : bmS (I 2) lw v p a2 = a2 → r2 a2.1 a2.2.1 a2.2.2 now v ((p : Int) + 1) I J := fun e => k2 (by omega) a2 (by show a2 = bmS (I 2) lw v p (bmR (I 2) lw v p a); rw [← ha2, e])
    have go : bmS (I 2) lw v p a2 = (10 * (v : Int) + (p : Int), gn, db) → B_X12_bestMove_119 z Q r r2 now v p gn db I J := fun e => k2 (by omega) (10 * (v : Int) + (p : Int), gn, db) (by show _ = bmS (I 2) lw v p (bmR (I 2) lw v p a); rw [← ha2, e])
    have second : ¬ (0 < wmZ (I 2) v p ∨ (lw = true ∧ debtsZ (I 2) ≤ dwZ (I 2) v p) ∨ (lw = false ∧ gainZ (I 2) v p ≤ 0)) → B_X12_bestMove_92 z Q r r2 a2.1 a2.2.1 a2.2.2 now v p gn db I J := by
      intro hno
      unfold B_X12_bestMove_92
      refine ⟨rgK (by omega), fun d => go ?_, fun d => ⟨rgK (by omega), rgK (by omega), fun d2 => stay ?_, fun d2 => ⟨fun d3 => go ?_, fun d3 => ⟨rgK (by omega), rgK (by omega), fun d4 => go ?_, fun d4 => stay ?_⟩⟩⟩⟩ <;> unfold bmS <;> rw [if_neg hno]
      · rw [if_neg (by omega), hgn, hdb]
      · rw [if_pos (by omega)]
      · rw [if_neg (by omega), hgn, hdb]
      · rw [if_neg (by omega), hgn, hdb]
      · rw [if_pos (by omega)]
    refine ⟨rgK (by omega), fun d => stay ?_, fun d => ?_⟩
    · unfold bmS; rw [if_pos (Or.inl (by omega))]
    · cases lw with
      | true =>
        have hz : z = 1 := hz
        refine ⟨rgK (by omega), fun y => by omega, fun _ => ⟨rgK (by omega), rgK (by omega), fun d2 => second ?_, fun d2 => stay ?_⟩⟩
        · rintro (y | y | y)
          · omega
          · omega
          · exact absurd y.1 (by decide)
        · unfold bmS; rw [if_pos (Or.inr (Or.inl ⟨rfl, by omega⟩))]
      | false =>
        have hz : z = 0 := hz
        refine ⟨rgK (by omega), fun _ => ⟨rgK (by omega), fun d2 => second ?_, fun d2 => stay ?_⟩, fun y => absurd hz y⟩
        · rintro (y | y | y)
          · omega
          · exact absurd y.1 (by decide)
          · omega
        · unfold bmS; rw [if_pos (Or.inr (Or.inr ⟨rfl, by omega⟩))]
theorem s_nextNow (hM : MS (I 2)) (hG : GV (I 2)) : wp_X12_nextNow I J (fun r _ _ => r = nxZ (I 2)) := by
  have bn := debtsZ_b hM
  have bG := grs_b hM
  have h1 := (bmZ_b hM true (g := (grs (I 2)).toNat) (by omega)).1
  have h2 := (bmZ_b hM false (g := (grs (I 2)).toNat) (by omega)).1
  unfold wp_X12_nextNow B_X12_nextNow_16
  refine fr_X12_debtsNow (s_debtsNow hM) (fun now hnow => ?_)
  subst hnow
  unfold nxZ
  refine ⟨rgK (by omega), fun c => ?_, fun c => ?_⟩
  · rw [if_neg (by omega)]
    exact ⟨rgK (by omega), fun z => absurd rfl z, fun _ => s_bestMove' (lw := false) rfl hM hG rfl⟩
  · rw [if_pos (by omega)]
    refine s_bestMove' (lw := true) rfl hM hG ?_
    refine ⟨rgK (by omega), fun z => by rw [if_neg z], fun z => ?_⟩
    rw [if_pos z]
    exact s_bestMove' (lw := false) rfl hM hG rfl
end RV3
