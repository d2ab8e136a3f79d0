/-! ===== the best sharing: the reference ===== -/
/-- the digits of k, as a sharing -/
def dgS (σ : Nat → Int) (k : Nat) : Nat → Nat := dg (σ 2).toNat (grs σ).toNat k
/-- the best of the first k -/
def RB (σ : Nat → Int) (k : Nat) (x y : Int) (r : Nat → Int) : Prop := (k = 0 ∧ x = -1) ∨
  ∃ j, j < k ∧ x = bdZ σ (dgS σ j) ∧ y = bkZ σ (dgS σ j) ∧ (∀ g, g < (grs σ).toNat → r g = (dgS σ j g : Int)) ∧ ∀ i, i < k → ¬ klt σ (dgS σ i) (dgS σ j) ∧ (i < j → klt σ (dgS σ j) (dgS σ i))
theorem RB_b {σ : Nat → Int} (hM : MS σ) (h7 : grs σ ≤ 7) {k : Nat} {x y : Int} {r : Nat → Int} (h : RB σ k x y r) : -1 ≤ x ∧ x ≤ 80000 ∧ (x ≠ -1 → 0 ≤ y ∧ y ≤ 200000) := by
  rcases h with ⟨-, h2⟩ | ⟨j, -, h3, h4, -, -⟩
  · omega
  · have := bdZ_b hM (dgS σ j)
    have := bkZ_b hM (dgS σ j) h7
    omega
theorem RB_new {σ : Nat → Int} (hM : MS σ) {k : Nat} {x y : Int} {r r' : Nat → Int} (h : RB σ k x y r) (hb : x = -1 ∨ bdZ σ (dgS σ k) < x ∨ (bdZ σ (dgS σ k) = x ∧ bkZ σ (dgS σ k) < y)) (hr : ∀ g, g < (grs σ).toNat → r' g = (dgS σ k g : Int)) : RB σ (k + 1) (bdZ σ (dgS σ k)) (bkZ σ (dgS σ k)) r' := by
  refine Or.inr ⟨k, by omega, rfl, rfl, hr, fun i hi => ?_⟩
  by_cases e : i = k
  · subst e
    refine ⟨fun z => ?_, fun z => by omega⟩
    unfold klt at z
    omega
  · rcases h with ⟨h1, -⟩ | ⟨j, h1, h2, h3, h4, h5⟩
    · omega
    · have h6 := (h5 i (by omega)).1
      have bj := bdZ_b hM (dgS σ j)
      unfold klt at h6 ⊢
      refine ⟨fun z => ?_, fun _ => ?_⟩ <;> omega
theorem RB_old {σ : Nat → Int} {k : Nat} {x y : Int} {r : Nat → Int} (h : RB σ k x y r) (hb : ¬ (x = -1 ∨ bdZ σ (dgS σ k) < x ∨ (bdZ σ (dgS σ k) = x ∧ bkZ σ (dgS σ k) < y))) : RB σ (k + 1) x y r := by
  rcases h with ⟨-, h2⟩ | ⟨j, h1, h2, h3, h4, h5⟩
  · omega
  · refine Or.inr ⟨j, by omega, h2, h3, h4, fun i hi => ?_⟩
    by_cases e : i = k
    · subst e
      refine ⟨fun z => ?_, fun z => by omega⟩
      unfold klt at z
      omega
    · exact h5 i (by omega)
theorem RB_fin {σ : Nat → Int} (hM : MS σ) {x y : Int} {r : Nat → Int} (h : RB σ ((σ 2).toNat ^ (grs σ).toNat) x y r) : ∃ b : Nat → Nat, FB σ b ∧ x = bdZ σ b ∧ y = bkZ σ b ∧ ∀ g, g < (grs σ).toNat → r g = (b g : Int) := by
  have b2 := ms_2 hM
  have hp : 0 < (σ 2).toNat := by omega
  rcases h with ⟨h1, -⟩ | ⟨j, h1, h2, h3, h4, h5⟩
  · have : 0 < (σ 2).toNat ^ (grs σ).toNat := Nat.pow_pos hp
    omega
  · refine ⟨dgS σ j, ⟨fun g _ => dg_lt hp _ _ g, fun d hd => ?_⟩, h2, h3, h4⟩
    obtain ⟨i, i1, i2⟩ := dg_onto hp (grs σ).toNat d hd
    have h6 := h5 i i1
    have e1 : bdZ σ (dgS σ i) = bdZ σ d := bdZ_cong i2
    have e2 : bkZ σ (dgS σ i) = bkZ σ d := bkZ_cong i2
    unfold klt at h6 ⊢
    rw [e1, e2] at h6
    refine ⟨h6.1, fun hl => h6.2 ?_⟩
    rcases Nat.lt_trichotomy i j with z | z | z
    · exact z
    · exfalso
      subst z
      exact lxl_asym hl (lxl_congl (fun g hg => (i2 g hg).symm) (lxl_congr i2 hl))
    · exfalso
      have := dg_lex hp (grs σ).toNat j i z i1
      exact lxl_asym hl (lxl_congr i2 this)
theorem bwZ_none {σ : Nat → Int} {c : Nat → Nat} {q m : Nat} (h : ∀ g, g < m → c g ≠ q) : bwZ σ c q m = 0 := by
  unfold bwZ
  rw [sm_cong (g := fun _ => 0) (fun g hg => by rw [if_neg (h g hg)])]
  exact sm_zero m
/-- of a search: the weights, the joins -/
def WJ (σ : Nat → Int) (I : Ii) : Prop := (∀ g : Nat, g < (grs σ).toNat → I 12 g = gW σ (g : Int)) ∧ ∀ g h : Nat, g < (grs σ).toNat → h < (grs σ).toNat → I 11 (7 * g + h) = if g = h then 0 else joinZ σ (g : Int) (h : Int)
section RBS
variable {I : Ii} {J : Jj}
theorem s_looksAt {x y : Int} {k : Nat} (hV : VS (I 2)) (h7 : grs (I 2) ≤ 7) (hx : x = (k : Int)) (hk : k < 16384) (hy : y = grs (I 2)) (hW : WJ (I 2) I) (hB : RB (I 2) k (I 0 34) (I 0 35) (I 14)) : wp_X12_looksAt x y I J (fun I' _ => RB (I 2) (k + 1) (I' 0 34) (I' 0 35) (I' 14)) := by
  have hM := hV.M
  have gr := grs_b hM
  have b2 := ms_2 hM
  have bl := limZ_b hM
  have hp : 0 < (I 2 2).toNat := by omega
  have bB := RB_b hM h7 hB
  have cl : ∀ g, dgS (I 2) k g < (I 2 2).toNat := fun g => dg_lt hp _ _ g
  have bd := bdZ_b hM (dgS (I 2) k)
  have bk := bkZ_b hM (dgS (I 2) k) h7
  subst hx hy
  -- what stays
  have st : ∀ (a : Ii), Prop := fun a => ∀ q, q ≠ 13 → q ≠ 15 → a q = I q
  -- behind the digits
  have judge : ∀ (a : Ii) (aJ : Jj), (∀ q, q ≠ 13 → q ≠ 15 → a q = I q) → (∀ g, g < (grs (I 2)).toNat → a 13 g = (dgS (I 2) k g : Int)) → (∀ q, q < 4 → a 15 q = bwZ (I 2) (dgS (I 2) k) q (grs (I 2)).toNat) → ∃ n : Nat, L_X12_looksAt_99 (k : Int) (grs (I 2)) (fun I' _ => RB (I 2) (k + 1) (I' 0 34) (I' 0 35) (I' 14)) n 0 (limZ (I 2)) 0 a aJ := by
    intro a aJ a0 a1 a2
    have z34 : a 0 = I 0 := a0 0 (by decide) (by decide)
    have z14 : a 14 = I 14 := a0 14 (by decide) (by decide)
    have z11 : a 11 = I 11 := a0 11 (by decide) (by decide)
    have upd : (I 0 34 = -1 ∨ bdZ (I 2) (dgS (I 2) k) < I 0 34 ∨ (bdZ (I 2) (dgS (I 2) k) = I 0 34 ∧ bkZ (I 2) (dgS (I 2) k) < I 0 35)) → B_X12_looksAt_260 (k : Int) (grs (I 2)) (fun I' _ => RB (I 2) (k + 1) (I' 0 34) (I' 0 35) (I' 14)) (bdZ (I 2) (dgS (I 2) k)) (bkZ (I 2) (dgS (I 2) k)) a aJ := by
      intro hb
      unfold B_X12_looksAt_260
      intro I28 e28 I29 e29
      refine ⟨15, loopN (L := fun n (b : Ii) v => L_X12_looksAt_275 (k : Int) (grs (I 2)) _ n v b aJ) (fun v b => b 0 34 = bdZ (I 2) (dgS (I 2) k) ∧ b 0 35 = bkZ (I 2) (dgS (I 2) k) ∧ b 13 = a 13 ∧ ∀ g, g < v → b 14 g = (dgS (I 2) k g : Int)) (N := (grs (I 2)).toNat) (fun n v b hv hb2 kk => ?_) 15 0 I29 (by omega) (by omega) ⟨by rw [e29, up2_ne (by decide), e28, up2_self], by rw [e29, up2_self], by rw [e29, up2_key (by decide), e28, up2_key (by decide)], fun g hg => by omega⟩⟩
      obtain ⟨c0, c1, c2, c3⟩ := hb2
      refine ls_X12_looksAt_275 ?_
      unfold Lb_X12_looksAt_275
      refine ⟨rgK (by omega), rgK (by omega), fun d => ?_, fun d => ⟨by omega, by omega, fun I41 e41 => kk (by omega) I41 ⟨by rw [e41, up2_key (by decide)]; exact c0, by rw [e41, up2_key (by decide)]; exact c1, by rw [e41, up2_key (by decide)]; exact c2, fun g hg => ?_⟩⟩⟩
      · show RB (I 2) (k + 1) (b 0 34) (b 0 35) (b 14)
        rw [c0, c1]
        exact RB_new hM hB hb (fun g hg => c3 g (by omega))
      · rw [e41, up2_row, show ((v : Int)).toNat = v by omega]
        by_cases q : g = v
        · rw [q, updr_self, c2, a1 v (by omega)]
        · rw [updr_ne q]; exact c3 g (by omega)
    have cost : (I 0 34 = -1 ∨ bdZ (I 2) (dgS (I 2) k) ≤ I 0 34) → ∃ n : Nat, L_X12_looksAt_166 (k : Int) (grs (I 2)) (fun I' _ => RB (I 2) (k + 1) (I' 0 34) (I' 0 35) (I' 14)) n (bdZ (I 2) (dgS (I 2) k)) 0 0 a aJ := by
      intro hle
      refine ⟨15, loopN (L := fun n (t : Int) v => L_X12_looksAt_166 (k : Int) (grs (I 2)) _ n (bdZ (I 2) (dgS (I 2) k)) t v a aJ) (fun v t => t = sm (fun g => sm (fun h => if dgS (I 2) k g = dgS (I 2) k h then 0 else joinZ (I 2) (g : Int) (h : Int)) g) v) (N := (grs (I 2)).toNat) (fun n v t hv ht kk => ?_) 15 0 0 (by omega) (by omega) rfl⟩
      refine ls_X12_looksAt_166 ?_
      generalize hr : L_X12_looksAt_166 (k : Int) (grs (I 2)) _ n = r at kk ⊢
      unfold Lb_X12_looksAt_166
      rw [z34]
      refine ⟨rgK (by omega), rgK (by omega), fun d => ?_, fun d => ?_⟩
      · have ht2 : t = bkZ (I 2) (dgS (I 2) k) := by rw [ht, show v = (grs (I 2)).toNat by omega]; rfl
        subst ht2
        refine ⟨rgK (by omega), fun d2 => upd (Or.inl d2), fun d2 => ⟨rgK (by omega), fun d3 => upd (by omega), fun d3 => ⟨rgK (by omega), rgK (by have := bB.2.2 d2; omega), fun d4 => upd (by omega), fun d4 => ?_⟩⟩⟩
        show RB (I 2) (k + 1) (a 0 34) (a 0 35) (a 14)
        rw [z34, z14]
        exact RB_old hB (by omega)
      · refine ⟨15, loopN (L := fun n2 (u : Int) w => L_X12_looksAt_175 (k : Int) (grs (I 2)) _ r n2 (bdZ (I 2) (dgS (I 2) k)) u v w a aJ) (fun w u => u = t + sm (fun h => if dgS (I 2) k v = dgS (I 2) k h then 0 else joinZ (I 2) (v : Int) (h : Int)) w) (N := v) (fun n2 w u hw hu k2 => ?_) 15 0 t (by omega) (by omega) (by show t = t + 0; omega)⟩
        refine ls_X12_looksAt_175 ?_
        generalize hr2 : L_X12_looksAt_175 (k : Int) (grs (I 2)) _ r n2 = r2 at k2 ⊢
        unfold Lb_X12_looksAt_175
        refine ⟨rgK (by omega), rgK (by omega), fun d2 => kk (by omega) u ?_, fun d2 => ?_⟩
        · rw [sm_succ, ← ht, hu, show w = v by omega]
        · have h1 := cl v
          have h2 := cl w
          rw [show ((v : Int)).toNat = v by omega, show ((w : Int)).toNat = w by omega, a1 v (by omega), a1 w (by omega), show (7 * (v : Int) + (w : Int)).toNat = 7 * v + w by omega, z11, hW.2 v w (by omega) (by omega)]
          refine ⟨by omega, by omega, rgK (by omega), rgK (by omega), fun d3 => ⟨by omega, k2 (by omega) _ ?_⟩, fun d3 => k2 (by omega) _ ?_⟩
          · rw [if_neg (c := v = w) (by omega), hu, sm_succ, if_neg (by omega)]; omega
          · rw [hu, sm_succ, if_pos (by omega)]; omega
    refine ⟨6, loopN (L := fun n (t : Int) q => L_X12_looksAt_99 (k : Int) (grs (I 2)) _ n t (limZ (I 2)) q a aJ) (fun q t => t = sm (fun q => pos (bwZ (I 2) (dgS (I 2) k) q (grs (I 2)).toNat - limZ (I 2))) q) (N := 4) (fun n q t hq ht kk => ?_) 6 0 0 (by omega) (by omega) rfl⟩
    refine ls_X12_looksAt_99 ?_
    generalize hr : L_X12_looksAt_99 (k : Int) (grs (I 2)) _ n = r at kk ⊢
    unfold Lb_X12_looksAt_99
    rw [z34]
    refine ⟨rgK (by omega), fun d => ?_, fun d => ?_⟩
    · have ht2 : t = bdZ (I 2) (dgS (I 2) k) := by
        have hz : ∀ q, (I 2 2).toNat ≤ q → pos (bwZ (I 2) (dgS (I 2) k) q (grs (I 2)).toNat - limZ (I 2)) = 0 := fun q hq => by
          rw [bwZ_none (fun g _ => by have := cl g; omega)]
          unfold pos
          rw [if_neg (by omega)]
        have hs : ∀ m, (I 2 2).toNat ≤ m → sm (fun q => pos (bwZ (I 2) (dgS (I 2) k) q (grs (I 2)).toNat - limZ (I 2))) m = bdZ (I 2) (dgS (I 2) k) := by
          intro m
          induction m with
          | zero => intro hm; omega
          | succ m ih =>
            intro hm
            by_cases e : (I 2 2).toNat = m + 1
            · unfold bdZ; rw [e]
            · rw [sm_succ, ih (by omega), hz m (by omega)]; omega
        rw [ht, show q = 4 by omega]
        exact hs 4 (by omega)
      subst ht2
      refine ⟨rgK (by omega), fun d2 => cost (Or.inl d2), fun d2 => ⟨rgK (by omega), fun d3 => cost (Or.inr d3), fun d3 => ?_⟩⟩
      show RB (I 2) (k + 1) (a 0 34) (a 0 35) (a 14)
      rw [z34, z14]
      exact RB_old hB (by omega)
    · have bw := bwZ_b hM (dgS (I 2) k) q (m := (grs (I 2)).toNat) (by omega)
      rw [show ((q : Int)).toNat = q by omega, a2 q (by omega)]
      refine ⟨by omega, rgK (by omega), rgK (by omega), fun d2 => kk (by omega) _ ?_, fun d2 => ⟨by omega, kk (by omega) _ ?_⟩⟩
      · rw [ht, sm_succ]; unfold pos; rw [if_neg (by omega)]
      · rw [ht, sm_succ]; unfold pos; rw [if_pos (by omega)]
  -- the digits
  have digits : ∀ (n m L : Nat) (a : Ii), m ≤ (grs (I 2)).toNat → m + 1 ≤ n → L < 16384 → (∀ q, q ≠ 13 → q ≠ 15 → a q = I q) → (∀ i, i < m → dg (I 2 2).toNat m L i = dgS (I 2) k i) → (∀ i, m ≤ i → i < (grs (I 2)).toNat → a 13 i = (dgS (I 2) k i : Int)) → (∀ q, q < 4 → a 15 q = bwZ (I 2) (dgS (I 2) k) q (grs (I 2)).toNat - bwZ (I 2) (dgS (I 2) k) q m) → L_X12_looksAt_30 (k : Int) (grs (I 2)) (fun I' _ => RB (I 2) (k + 1) (I' 0 34) (I' 0 35) (I' 14)) n (L : Int) ((m : Int) - 1) a J := by
    intro n
    induction n with
    | zero => intro m L a h1 h2; omega
    | succ n ih =>
      intro m L a hm hmn hL a0 a1 a2 a3
      have r2 : a 2 = I 2 := a0 2 (by decide) (by decide)
      refine ls_X12_looksAt_30 ?_
      unfold Lb_X12_looksAt_30
      rw [r2]
      refine ⟨rgK (by omega), fun d => ?_, fun d => ?_⟩
      · refine fr_X12_limit (s_limit (by rw [r2]; exact hM)) (fun l hl => ?_)
        rw [r2] at hl
        subst hl
        have hm0 : m = 0 := by omega
        subst hm0
        refine judge a J a0 (fun g hg => a2 g (by omega) hg) (fun q hq => ?_)
        rw [a3 q hq]
        show _ - 0 = _
        omega
      · obtain ⟨g, rfl⟩ : ∃ g, m = g + 1 := ⟨m - 1, by omega⟩
        have eg : (((g + 1 : Nat) : Int) - 1) = (g : Int) := by omega
        rw [eg, show ((g : Int)).toNat = g by omega]
        have em : (L : Int) % I 2 2 = ((L % (I 2 2).toNat : Nat) : Int) := by
          rw [Int.natCast_emod, Int.toNat_of_nonneg (by omega)]
        have ed : (L : Int) / I 2 2 = ((L / (I 2 2).toNat : Nat) : Int) := by
          rw [Int.natCast_ediv, Int.toNat_of_nonneg (by omega)]
        have hc : L % (I 2 2).toNat = dgS (I 2) k g := by
          have := a1 g (by omega)
          rw [dg_succ, if_pos rfl] at this
          exact this
        have hcl := cl g
        refine ⟨by omega, by omega, fun I8 e8 => ?_⟩
        have q2 : I8 2 = I 2 := by rw [e8, up2_key (by decide)]; exact r2
        have q13 : I8 13 g = (dgS (I 2) k g : Int) := by rw [e8, up2_self, em, hc]
        have q15 : I8 15 = a 15 := by rw [e8, up2_key (by decide)]
        have q12 : I8 12 = I 12 := by rw [e8, up2_key (by decide)]; exact a0 12 (by decide) (by decide)
        rw [q2, q13, ed]
        refine ⟨by omega, by omega, by omega, by omega, by omega, fun I14 e14 => ?_⟩
        rw [q12, hW.1 g (by omega), q15, show ((dgS (I 2) k g : Nat) : Int).toNat = dgS (I 2) k g from rfl] at e14
        have hLd : L / (I 2 2).toNat ≤ L := Nat.div_le_self _ _
        have := ih g (L / (I 2 2).toNat) I14 (by omega) (by omega) (by omega) (fun q h1 h2 => by rw [e14, up2_key h2, e8, up2_key h1]; exact a0 q h1 h2) (fun i hi => ?_) (fun i hi hin => ?_) (fun q hq => ?_)
        · rwa [show (g : Int) - 1 = (g : Int) + (-1) by omega] at this
        · have h1 := a1 i (by omega)
          rw [dg_succ, if_neg (by omega)] at h1
          exact h1
        · rw [e14, up2_key (by decide), e8, up2_row]
          by_cases q : i = g
          · rw [q, updr_self, em, hc]
          · rw [updr_ne q]; exact a2 i (by omega) hin
        · rw [e14, up2_row, q15]
          have hs : bwZ (I 2) (dgS (I 2) k) q (g + 1) = bwZ (I 2) (dgS (I 2) k) q g + (if dgS (I 2) k g = q then gW (I 2) (g : Int) else 0) := rfl
          by_cases z : q = dgS (I 2) k g
          · rw [z, updr_self, a3 _ (by omega)]
            rw [z, if_pos rfl] at hs
            omega
          · rw [updr_ne z, a3 q hq]
            rw [if_neg (fun y => z y.symm)] at hs
            omega
  unfold wp_X12_looksAt
  refine ⟨6, loopN (L := fun n (a : Ii) v => L_X12_looksAt_5 (k : Int) (grs (I 2)) _ n (k : Int) v a J) (fun v a => (∀ q, q ≠ 13 → q ≠ 15 → a q = I q) ∧ ∀ q, q < v → a 15 q = 0) (N := 4) (fun n v a hv ha kk => ?_) 6 0 I (by omega) (by omega) ⟨fun _ _ _ => rfl, fun q hq => by omega⟩⟩
  obtain ⟨a0, a1⟩ := ha
  refine ls_X12_looksAt_5 ?_
  unfold Lb_X12_looksAt_5
  refine ⟨rgK (by omega), fun d => ?_, fun d => ⟨by omega, fun I3 e3 => kk (by omega) I3 ⟨fun q h1 h2 => by rw [e3, up2_key h2]; exact a0 q h1 h2, fun q hq => ?_⟩⟩⟩
  · have := digits ((grs (I 2)).toNat + 1) (grs (I 2)).toNat k a (Nat.le_refl _) (Nat.le_refl _) hk a0 (fun i _ => rfl) (fun i h1 h2 => by omega) (fun q hq => by rw [a1 q (by omega)]; omega)
    rw [show (((grs (I 2)).toNat : Nat) : Int) = grs (I 2) by omega] at this
    exact ⟨_, this⟩
  · rw [e3, up2_row, show ((v : Int)).toNat = v by omega]
    by_cases z : q = v
    · rw [z, updr_self]
    · rw [updr_ne z]; exact a1 q (by omega)
theorem s_searches (hV : VS (I 2)) (h7 : grs (I 2) ≤ 7) : wp_X12_searches I J (fun I' _ => ∃ b : Nat → Nat, FB (I 2) b ∧ I' 0 34 = bdZ (I 2) b ∧ I' 0 35 = bkZ (I 2) b ∧ ∀ g, g < (grs (I 2)).toNat → I' 14 g = (b g : Int)) := by
  have hM := hV.M
  have gr := grs_b hM
  have b2 := ms_2 hM
  have hp : 0 < (I 2 2).toNat := by omega
  have hpw : ∀ g, g ≤ (grs (I 2)).toNat → (I 2 2).toNat ^ g ≤ 16384 := fun g hg => pow_4_7 (by omega) (by omega)
  unfold wp_X12_searches
  refine fr_X12_groups (s_groups hM) (fun w hw => ?_)
  subst hw
  refine ⟨15, loopN (L := fun n (a : Ii) v => L_X12_searches_9 _ n (grs (I 2)) (((I 2 2).toNat ^ v.toNat : Nat) : Int) v a J) (fun v a => a 2 = I 2 ∧ (∀ g : Nat, g < v → a 12 g = gW (I 2) (g : Int)) ∧ ∀ g h : Nat, g < v → h < (grs (I 2)).toNat → a 11 (7 * g + h) = if g = h then 0 else joinZ (I 2) (g : Int) (h : Int)) (N := (grs (I 2)).toNat) (fun n v a hv ha kk => ?_) 15 0 I (by omega) (by omega) ⟨rfl, fun g hg => by omega, fun g h hg => by omega⟩⟩
  obtain ⟨a0, a1, a2⟩ := ha
  refine ls_X12_searches_9 ?_
  generalize hr : L_X12_searches_9 _ n = r at kk ⊢
  unfold Lb_X12_searches_9
  rw [show ((v : Int)).toNat = v from rfl]
  have hv16 := hpw v hv
  refine ⟨rgK (by omega), rgK (by omega), fun d I4 e4 I5 e5 => ?_, fun d => ?_⟩
  · have hvn : v = (grs (I 2)).toNat := by omega
    subst hvn
    have o5 : ∀ q, q ≠ 0 → I5 q = a q := fun q hq => by rw [e5, up2_key hq, e4, up2_key hq]
    refine ⟨16386, loopN (L := fun n2 (b : Ii × Jj) k => L_X12_searches_96 _ n2 (grs (I 2)) (((I 2 2).toNat ^ (grs (I 2)).toNat : Nat) : Int) k b.1 b.2) (fun k b => b.1 2 = I 2 ∧ WJ (I 2) b.1 ∧ RB (I 2) k (b.1 0 34) (b.1 0 35) (b.1 14)) (N := (I 2 2).toNat ^ (grs (I 2)).toNat) (fun n2 k b hk hb k2 => ?_) 16386 0 (I5, J) (by omega) (by omega) ⟨by show I5 2 = I 2; rw [o5 2 (by decide)]; exact a0, ?_, Or.inl ⟨rfl, by show I5 0 34 = -1; rw [e5, up2_ne (by decide), e4, up2_self]⟩⟩⟩
    · obtain ⟨b, bJ⟩ := b
      obtain ⟨c0, c1, c2⟩ := hb
      dsimp only at c0 c1 c2 k2 ⊢
      refine ls_X12_searches_96 ?_
      unfold Lb_X12_searches_96
      refine ⟨rgK (by omega), rgK (by omega), fun d2 => ?_, fun d2 => ?_⟩
      · have hk : k = (I 2 2).toNat ^ (grs (I 2)).toNat := by omega
        rw [hk] at c2
        exact RB_fin hM c2
      · have hL := s_looksAt (I := b) (J := bJ) (x := (k : Int)) (y := grs (I 2)) (by rw [c0]; exact hV) (by rw [c0]; exact h7) rfl (by omega) (by rw [c0]) (by rw [c0]; exact c1) (by rw [c0]; exact c2)
        refine fr_X12_looksAt hL (fun I' J' h' s' => k2 (by omega) (I', J') ⟨?_, ?_, ?_⟩)
        · have : I' 2 = b 2 := s'.k
          show I' 2 = I 2
          rw [this, c0]
        · have e11 : I' 11 = b 11 := s'.k
          have e12 : I' 12 = b 12 := s'.k
          show WJ (I 2) I'
          unfold WJ
          rw [e11, e12]
          exact c1
        · rw [c0] at h'
          exact h'
    · show WJ (I 2) I5
      unfold WJ
      rw [o5 12 (by decide), o5 11 (by decide)]
      exact ⟨a1, a2⟩
  · rw [a0]
    have em : (((I 2 2).toNat ^ v : Nat) : Int) * I 2 2 = (((I 2 2).toNat ^ (v + 1) : Nat) : Int) := by
      rw [Nat.pow_succ, Int.natCast_mul, Int.toNat_of_nonneg (by omega)]
    rw [em]
    refine fr_X12_groupWeight (s_groupWeight (by rw [a0]; exact hM) (rgK (by omega))) (fun wt hwt => ⟨by omega, fun I8 e8 => ?_⟩)
    rw [a0] at hwt
    subst hwt
    refine ⟨15, loopN (L := fun n2 (b : Ii) h => L_X12_searches_37 _ r n2 (grs (I 2)) (((I 2 2).toNat ^ (v + 1) : Nat) : Int) v h b J) (fun h b => b 2 = I 2 ∧ b 12 = I8 12 ∧ (∀ i, i < 7 * v → b 11 i = a 11 i) ∧ ∀ x : Nat, x < h → b 11 (7 * v + x) = if v = x then 0 else joinZ (I 2) (v : Int) (x : Int)) (N := (grs (I 2)).toNat) (fun n2 h b hh hb k2 => ?_) 15 0 I8 (by omega) (by omega) ⟨by rw [e8, up2_key (by decide)]; exact a0, rfl, fun i _ => by rw [e8, up2_key (by decide)], fun x hx => by omega⟩⟩
    obtain ⟨c0, c1, c2, c3⟩ := hb
    have hv1 := hpw (v + 1) (by omega)
    refine ls_X12_searches_37 ?_
    generalize hr2 : L_X12_searches_37 _ r n2 = r2 at k2 ⊢
    unfold Lb_X12_searches_37
    have nx : ∀ (I19 : Ii) (z : Int), I19 = up2 b 11 (7 * v + h) z → z = (if v = h then 0 else joinZ (I 2) (v : Int) (h : Int)) → h < (grs (I 2)).toNat → r2 (grs (I 2)) (((I 2 2).toNat ^ (v + 1) : Nat) : Int) v ((h : Int) + 1) I19 J := fun I19 z e19 hz hlt => k2 hlt I19 ⟨by rw [e19, up2_key (by decide)]; exact c0, by rw [e19, up2_key (by decide)]; exact c1, fun i hi => by rw [e19, up2_row, updr_ne (by omega)]; exact c2 i hi, fun x hx => by
      rw [e19, up2_row]
      by_cases q : x = h
      · rw [q, updr_self, hz]
      · rw [updr_ne (by omega)]; exact c3 x (by omega)⟩
    refine ⟨rgK (by omega), rgK (by omega), fun d2 => ?_, fun d2 => ⟨rgK (by omega), fun d3 => ?_, fun d3 => ⟨by omega, fun I19 e19 => ?_⟩⟩⟩
    · have := kk (by omega) b ⟨c0, fun g hg => ?_, fun g h2 hg hh2 => ?_⟩
      · have e : ((v : Int) + 1).toNat = v + 1 := by omega
        rw [e] at this
        exact this
      · rw [c1, e8, up2_row]
        by_cases q : g = v
        · rw [q, updr_self]
        · rw [updr_ne q]; exact a1 g (by omega)
      · by_cases q : g = v
        · rw [q]; exact c3 h2 (by omega)
        · rw [c2 _ (by omega)]; exact a2 g h2 (by omega) hh2
    · refine fr_X12_joined (s_joined (by rw [c0]; exact hM) (rgK (by omega)) (rgK (by omega))) (fun jj hjj => ⟨by omega, fun I17 e17 => ?_⟩)
      rw [c0] at hjj
      rw [show (7 * (v : Int) + (h : Int)).toNat = 7 * v + h by omega] at e17
      exact nx I17 _ e17 (by rw [if_neg (by omega), hjj]) (by omega)
    · rw [show (7 * (v : Int) + (h : Int)).toNat = 7 * v + h by omega] at e19
      exact nx I19 _ e19 (by rw [if_pos (by omega)]) (by omega)
end RBS
