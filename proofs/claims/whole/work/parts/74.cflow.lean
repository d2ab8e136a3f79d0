/-! ===== flows, the class ===== -/
section FL
variable {I : Ii} {J : Jj} {σ : Nat → Int} {nm : Nat → Int64}
theorem outZ_succ' (σ : Nat → Int) (S e : Nat) : sm (fun e => if S.testBit (σ (110 + e)).toNat = S.testBit (σ (150 + e)).toNat then 0 else σ (190 + e)) (e + 1) = sm (fun e => if S.testBit (σ (110 + e)).toNat = S.testBit (σ (150 + e)).toNat then 0 else σ (190 + e)) e + (if S.testBit (σ (110 + e)).toNat = S.testBit (σ (150 + e)).toNat then 0 else σ (190 + e)) := rfl
theorem c_fillRooms {a b : Nat} (hV : VS σ) (hR : RG 200 I J σ nm) : wp_X1_fillRooms 200 I J (fun I' _ => I' 128 3 = σ 0 ∧ RO σ a b (I' 129) 0) := by
  have b0 := ms_0 hV.M
  have b1 := ms_1 hV.M
  have hn := hR.n
  have hm := hR.m
  refine ⟨gK200, fun I1 e1 => fill_of (n := 196) rfl (fun I2 e2 => ?_)⟩
  have o2 : ∀ q, q ≠ 129 → q ≠ 128 → I2 q = I q := fun q h1 h2 => by rw [e2, upr_ne h1, e1, up2_key h2]
  have z2 : ∀ u v, u < 14 → v < 14 → I2 129 (14 * u + v) = 0 := fun u v hu hv => by rw [e2, upr_self, filR_lt (by omega)]
  refine ⟨41, loopN (L := fun n (g : Ii) v => L_X1_fillRooms_18 200 _ n v g J) (fun e g => (∀ q, q ≠ 129 → g q = I2 q) ∧ (∀ u v, u < 14 → v < 14 → 0 ≤ g 129 (14 * u + v) ∧ g 129 (14 * u + v) ≤ 99 * e) ∧ ∀ S, crs (σ 0).toNat (g 129) S = sm (fun e => if S.testBit (σ (110 + e)).toNat = S.testBit (σ (150 + e)).toNat then 0 else σ (190 + e)) e) (N := (σ 1).toNat) (fun n e g he hg kk => ?_) 41 0 I2 (by omega) (by omega) ⟨fun _ _ => rfl, fun u v hu hv => by rw [z2 u v hu hv]; omega, fun S => ?_⟩⟩
  · obtain ⟨g0, g1, g2⟩ := hg
    have h0 : g 200 1 = σ 1 := by rw [g0 _ (by decide), o2 _ (by decide) (by decide)]; exact hm
    refine ls_X1_fillRooms_18 ?_
    unfold Lb_X1_fillRooms_18
    refine ⟨rgK (by omega), rgK (by omega), fun c => ?_, fun c => ?_⟩
    · have hen : e = (σ 1).toNat := by omega
      refine ⟨by rw [g0 _ (by decide), e2, upr_ne (by decide), e1, up2_self, hn], fun u v hu hv => (g1 u v (by omega) (by omega)).1, fun u v hu hv => ?_, by omega, fun S _ _ => ?_⟩
      · have := g1 u v (by omega) (by omega)
        have := g1 v u (by omega) (by omega)
        omega
      · rw [g2, hen, Int.sub_zero]; rfl
    · have he' : e < (σ 1).toNat := by omega
      have ha := hV.a he'
      have hb := hV.b he'
      have hw := hV.w he'
      have hab := hV.ab he'
      have r3 : g 203 e = σ (110 + e) := by rw [g0 _ (by decide), o2 _ (by decide) (by decide)]; exact hR.a he'
      have r4 : g 204 e = σ (150 + e) := by rw [g0 _ (by decide), o2 _ (by decide) (by decide)]; exact hR.b he'
      have r5 : g 205 e = σ (190 + e) := by rw [g0 _ (by decide), o2 _ (by decide) (by decide)]; exact hR.h he'
      refine at_of (n := 40) rfl rfl (by omega) (at_of (n := 40) rfl rfl (by omega) (at_of (n := 40) rfl rfl (by omega) ?_))
      rw [r3, r4, r5]
      refine add_of (n := 196) rfl (i := 14 * (σ (110 + e)).toNat + (σ (150 + e)).toNat) (by omega) (by omega) (fun I8 e8 => ?_)
      refine at_of (n := 40) rfl rfl (by omega) ?_
      have q8 : I8 205 = g 205 := by rw [e8, up2_key (by decide)]
      rw [q8, r5]
      refine add_of (n := 196) rfl (i := 14 * (σ (150 + e)).toNat + (σ (110 + e)).toNat) (by omega) (by omega) (fun I10 e10 => ?_)
      have w8 : I8 129 = updr (g 129) (14 * (σ (110 + e)).toNat + (σ (150 + e)).toNat) (g 129 (14 * (σ (110 + e)).toNat + (σ (150 + e)).toNat) + σ (190 + e)) := by rw [e8, up2_row]
      have w10 : I10 129 = updr (I8 129) (14 * (σ (150 + e)).toNat + (σ (110 + e)).toNat) (I8 129 (14 * (σ (150 + e)).toNat + (σ (110 + e)).toNat) + σ (190 + e)) := by rw [e10, up2_row]
      refine kk he' I10 ⟨fun q hq => by rw [e10, up2_key hq, e8, up2_key hq]; exact g0 q hq, fun u v hu hv => ?_, fun S => ?_⟩
      · have h1 := g1 u v hu hv
        rw [w10]
        by_cases q1 : 14 * u + v = 14 * (σ (150 + e)).toNat + (σ (110 + e)).toNat
        · rw [q1, updr_self, w8, updr_ne (by omega), ← q1]; omega
        · rw [updr_ne q1, w8]
          by_cases q2 : 14 * u + v = 14 * (σ (110 + e)).toNat + (σ (150 + e)).toNat
          · rw [q2, updr_self, ← q2]; omega
          · rw [updr_ne q2]; omega
      · rw [w10, crs_upd (by omega) (by omega) (by omega), w8, crs_upd (by omega) (by omega) (by omega), g2, outZ_succ']
        cases S.testBit (σ (110 + e)).toNat <;> cases S.testBit (σ (150 + e)).toNat <;> simp
  · rw [crs_zero (fun u v hu hv _ _ => z2 u v (by omega) (by omega))]; rfl
theorem c_findWay {a b n : Nat} {x y : Int} (hn : n ≤ 14) (hx : x = (a : Int)) (ha : a < n) (hy : y = (b : Int)) (hb : b < n) (h3 : I 128 3 = (n : Int)) (hf : ∀ u v, u < n → v < n → 0 ≤ I 129 (14 * u + v) ∧ I 129 (14 * u + v) ≤ 8000) : wp_X1_findWay x y I J (fun r I' _ => ∃ s c, I' 128 5 = ((s : Nat) : Int) ∧ BF n a (I 129) s c (I' 130) (I' 131) ∧ CLS n (I 129) s ∧ Bo r (s.testBit b = true)) := by
  subst hx hy
  have pa := pow14 (v := a) (by omega)
  intro I1 e1
  rw [shlT1 (by omega)] at e1
  refine put_of (n := 14) rfl (i := 0) rfl (by omega) (fun I2 e2 => ?_)
  have o2 : ∀ q, q ≠ 128 → q ≠ 130 → I2 q = I q := fun q h1 h2 => by rw [e2, up2_key h2, e1, up2_key h1]
  have p2 : ∀ i, i ≠ 5 → I2 128 i = I 128 i := fun i hi => by rw [e2, up2_key (by decide), e1, up2_ne (by omega)]
  -- the outer loop's state: the store, the set, how many
  have body : ∀ (g : Ii), (∀ q, q ≠ 128 → q ≠ 130 → q ≠ 131 → g q = I q) → (∀ i, i ≠ 5 → g 128 i = I 128 i) → g 129 = I 129 := fun g h1 _ => h1 129 (by decide) (by decide) (by decide)
  refine ⟨15, ?_⟩
  have start : BF n a (I 129) (2 ^ a) 1 (I2 130) (I2 131) := BF_one ha _ (by rw [e2, up2_self])
  refine loopN (L := fun m (t : Ii × Nat × Nat) v => L_X1_findWay_21 (a : Int) (b : Int) _ m (t.2.2 : Int) v t.1 J) (fun i t => (∀ q, q ≠ 128 → q ≠ 130 → q ≠ 131 → t.1 q = I q) ∧ (∀ i, i ≠ 5 → t.1 128 i = I 128 i) ∧ t.1 128 5 = (t.2.1 : Int) ∧ BF n a (I 129) t.2.1 t.2.2 (t.1 130) (t.1 131) ∧ i ≤ t.2.2 ∧ ∀ j, j < i → ∀ v, v < n → t.2.1.testBit v = false → I 129 (14 * (t.1 130 j).toNat + v) ≤ 0) (N := 14) (fun m i t hi ht kk => ?_) 15 0 (I2, 2 ^ a, 1) (by omega) (by omega) ⟨fun q h1 h2 _ => o2 q h1 h2, p2, by show I2 128 5 = _; rw [e2, up2_key (by decide), e1, up2_self], start, by omega, fun j hj => by omega⟩
  obtain ⟨t0, t1, t2, tB, tc, tP⟩ := ht
  obtain ⟨g, s, c⟩ := t
  dsimp only at t0 t1 t2 tB tc tP kk ⊢
  have hcn := tB.c
  refine ls_X1_findWay_21 ?_
  generalize hr : L_X1_findWay_21 (a : Int) (b : Int) _ m = r at kk ⊢
  have s14 : s < 16384 := by
    have h4 := tB.2.2.2.1
    have : 2 ^ n ≤ 2 ^ 14 := Nat.pow_le_pow_right (by decide) hn
    omega
  have fin : c ≤ i → B_X1_findWay_136 (a : Int) (b : Int) (fun r I' _ => ∃ s c, I' 128 5 = ((s : Nat) : Int) ∧ BF n a (I 129) s c (I' 130) (I' 131) ∧ CLS n (I 129) s ∧ Bo r (s.testBit b = true)) g J := by
    intro hci
    have cls : CLS n (I 129) s := fun u v hu hv h1 h2 => by
      obtain ⟨j, hj, ej⟩ := tB.2.2.2.2.2.1 u h1
      have := tP j (by omega) v hv h2
      rw [ej] at this
      exact this
    unfold B_X1_findWay_136
    exact isIn_of t2 rfl (by omega) (by omega) (fun d => ⟨Or.inr rfl, s, c, t2, tB, cls, Bo.one d⟩) (fun d => ⟨Or.inl rfl, s, c, t2, tB, cls, Bo.zero (by rw [d]; decide)⟩)
  unfold Lb_X1_findWay_21
  refine ⟨rgK (by omega), rgK (by omega), fun d => fin (by omega), fun d => ⟨fun d2 => fin (by omega), fun d2 => ?_⟩⟩
  have hic : i < c := by omega
  refine at_of (n := 14) rfl rfl (by omega) ?_
  have hq := tB.2.2.2.2.1 i hic
  generalize hQi : (g 130 i).toNat = Qi
  have eQi : g 130 i = (Qi : Int) := by omega
  have hQn : Qi < n := by omega
  rw [eQi]
  refine ⟨15, loopN (L := fun m2 (t : Ii × Nat × Nat) w => L_X1_findWay_48 (a : Int) (b : Int) _ r m2 (t.2.2 : Int) (i : Int) (Qi : Int) w t.1 J) (fun w t => (∀ q, q ≠ 128 → q ≠ 130 → q ≠ 131 → t.1 q = I q) ∧ (∀ i, i ≠ 5 → t.1 128 i = I 128 i) ∧ t.1 128 5 = (t.2.1 : Int) ∧ BF n a (I 129) t.2.1 t.2.2 (t.1 130) (t.1 131) ∧ i < t.2.2 ∧ t.1 130 i = (Qi : Int) ∧ (∀ j, j < i → ∀ v, v < n → t.2.1.testBit v = false → I 129 (14 * (t.1 130 j).toNat + v) ≤ 0) ∧ ∀ v, v < w → t.2.1.testBit v = false → I 129 (14 * Qi + v) ≤ 0) (N := n) (fun m2 w t hw ht k2 => ?_) 15 0 (g, s, c) (by omega) (by omega) ⟨t0, t1, t2, tB, hic, eQi, tP, fun v hv => by omega⟩⟩
  obtain ⟨u0, u1, u2, uB, uc, uQ, uP, uW⟩ := ht
  obtain ⟨g2, s2, c2⟩ := t
  dsimp only at u0 u1 u2 uB uc uQ uP uW k2 ⊢
  have hcn2 := uB.c
  have s24 : s2 < 16384 := by
    have h4 := uB.2.2.2.1
    have : 2 ^ n ≤ 2 ^ 14 := Nat.pow_le_pow_right (by decide) hn
    omega
  have v3 : g2 128 3 = (n : Int) := by rw [u1 3 (by decide)]; exact h3
  have r9 : g2 129 = I 129 := u0 129 (by decide) (by decide) (by decide)
  refine ls_X1_findWay_48 ?_
  generalize hr2 : L_X1_findWay_48 (a : Int) (b : Int) _ r m2 = r2 at k2 ⊢
  unfold Lb_X1_findWay_48
  refine ⟨rgK (by omega), rgK (by omega), fun z => ?_, fun z => ?_⟩
  · have hwn : w = n := by omega
    refine kk (by omega) (g2, s2, c2) ⟨u0, u1, u2, uB, by show i + 1 ≤ c2; omega, fun j hj v hv hs => ?_⟩
    by_cases q : j = i
    · rw [q]
      show I 129 (14 * (g2 130 i).toNat + v) ≤ 0
      rw [uQ]
      show I 129 (14 * ((Qi : Int)).toNat + v) ≤ 0
      exact uW v (by omega) hs
    · exact uP j (by omega) v hv hs
  · have hwn : w < n := by omega
    refine isIn_of u2 rfl (by omega) (by omega) (fun d3 => ⟨fun _ => k2 hwn (g2, s2, c2) ⟨u0, u1, u2, uB, uc, uQ, uP, fun v hv hs => ?_⟩, fun y => absurd y (by decide)⟩) (fun d3 => ⟨fun y => absurd rfl y, fun _ => ?_⟩)
    · by_cases q : v = w
      · rw [q] at hs
        have hs : s2.testBit w = false := hs
        rw [d3] at hs; cases hs
      · exact uW v (by omega) hs
    · refine at_of (n := 196) rfl (i := 14 * Qi + w) (by omega) (by omega) ?_
      have hfb := hf Qi w hQn hwn
      rw [r9]
      refine ⟨rgK (by omega), fun d4 => k2 hwn (g2, s2, c2) ⟨u0, u1, u2, uB, uc, uQ, uP, fun v hv hs => ?_⟩, fun d4 I12 e12 => ?_⟩
      · by_cases q : v = w
        · rw [q]; exact d4
        · exact uW v (by omega) hs
      · have pw := pow14 (v := w) (by omega)
        have po := or14 s24 pw
        rw [u2, shlT1 (by omega), orZ_nat (by omega) (by omega)] at e12
        have hB2 := BF_ins uB uc hwn d3 (by rw [uQ]; show 0 < I 129 (14 * ((Qi : Int)).toNat + w); rw [show ((Qi : Int)).toNat = Qi from rfl]; omega)
        have hc3 := hB2.c
        refine put_of (n := 14) rfl rfl (by omega) (fun I13 e13 => put_of (n := 14) rfl rfl (by omega) (fun I14 e14 => ?_))
        have f130 : I14 130 = updr (g2 130) c2 (w : Int) := by rw [e14, up2_row, e13, up2_key (by decide), e12, up2_key (by decide)]
        have f131 : I14 131 = updr (g2 131) w (g2 130 i) := by rw [e14, up2_key (by decide), e13, up2_row, e12, up2_key (by decide), uQ]
        have bo : ∀ v, (s2 ||| 2 ^ w).testBit v = false → s2.testBit v = false ∧ v ≠ w := fun v hv => by
          rw [Nat.testBit_or, Nat.testBit_two_pow, Bool.or_eq_false_iff] at hv
          exact ⟨hv.1, fun q => by have := of_decide_eq_false hv.2; omega⟩
        have := k2 hwn (I14, s2 ||| 2 ^ w, c2 + 1) ⟨fun q h1 h2 h3 => ?_, fun j hj => ?_, ?_, ?_, ?_, ?_, fun j hj v hv hs => ?_, fun v hv hs => ?_⟩
        · rwa [show (((c2 + 1 : Nat)) : Int) = (c2 : Int) + 1 by omega] at this
        · show I14 q = I q
          rw [e14, up2_key h2, e13, up2_key h3, e12, up2_key h1]; exact u0 q h1 h2 h3
        · show I14 128 j = I 128 j
          rw [e14, up2_key (by decide), e13, up2_key (by decide), e12, up2_ne (by omega)]; exact u1 j hj
        · show I14 128 5 = _
          rw [e14, up2_key (by decide), e13, up2_key (by decide), e12, up2_self]
        · show BF n a (I 129) (s2 ||| 2 ^ w) (c2 + 1) (I14 130) (I14 131)
          rw [f130, f131]; exact hB2
        · show i < c2 + 1
          omega
        · show I14 130 i = _
          rw [f130, updr_ne (by omega)]; exact uQ
        · show I 129 (14 * (I14 130 j).toNat + v) ≤ 0
          rw [f130, updr_ne (by omega)]; exact uP j hj v hv (bo v hs).1
        · have := bo v hs
          exact uW v (by omega) this.1
theorem c_useWay {a b n m : Nat} {w : Nat → Nat} {x y : Int} (hn : n ≤ 14) (hx : x = (a : Int)) (hy : y = (b : Int)) (hW : WY n a b (I 129) (I 131) m w) (hf : ∀ u v, u < n → v < n → 0 ≤ I 129 (14 * u + v)) (hs : ∀ u v, u < n → v < n → I 129 (14 * u + v) + I 129 (14 * v + u) ≤ 8000) :
    wp_X1_useWay x y I J (fun r I' _ => 0 < r ∧ r ≤ 1000000 ∧ (∀ u v, u < n → v < n → 0 ≤ I' 129 (14 * u + v)) ∧ (∀ u v, u < n → v < n → I' 129 (14 * u + v) + I' 129 (14 * v + u) ≤ 8000) ∧ ∀ S : Nat, crs n (I' 129) S = crs n (I 129) S - (if S.testBit a = true then r else 0) + (if S.testBit b = true then r else 0)) := by
  subst hx hy
  obtain ⟨hm, w0, wm, wn, wi, wk⟩ := hW
  have second : ∀ r : Int, 0 < r → r ≤ 1000000 → (∀ k, k < m → r ≤ I 129 (14 * w (k + 1) + w k)) → ∃ n' : Nat, L_X1_useWay_72 (a : Int) (b : Int) (fun r I' _ => 0 < r ∧ r ≤ 1000000 ∧ (∀ u v, u < n → v < n → 0 ≤ I' 129 (14 * u + v)) ∧ (∀ u v, u < n → v < n → I' 129 (14 * u + v) + I' 129 (14 * v + u) ≤ 8000) ∧ ∀ S : Nat, crs n (I' 129) S = crs n (I 129) S - (if S.testBit a = true then r else 0) + (if S.testBit b = true then r else 0)) n' r (b : Int) 0 I J := by
    intro r r0 r1 rk
    have hb : (b : Int) = (w 0 : Int) := by rw [w0]
    rw [hb]
    refine ⟨15, loopN (L := fun n' (t : Ii × Nat) k => L_X1_useWay_72 (a : Int) ((w 0 : Nat) : Int) _ n' r (t.2 : Int) k t.1 J) (fun k t => t.2 = w k ∧ t.1 131 = I 131 ∧ (∀ u v, u < n → v < n → 0 ≤ t.1 129 (14 * u + v)) ∧ (∀ u v, u < n → v < n → t.1 129 (14 * u + v) + t.1 129 (14 * v + u) ≤ 8000) ∧ (∀ j, k ≤ j → j < m → r ≤ t.1 129 (14 * w (j + 1) + w j)) ∧ ∀ S : Nat, crs n (t.1 129) S = crs n (I 129) S - (if S.testBit (w k) = true then r else 0) + (if S.testBit b = true then r else 0)) (N := m) (fun n' k t hk ht kk => ?_) 15 0 (I, w 0) (by omega) (by omega) ⟨rfl, rfl, hf, hs, fun j _ hj => rk j hj, fun S => by show crs n (I 129) S = _; rw [w0]; omega⟩⟩
    obtain ⟨g, z⟩ := t
    obtain ⟨t0, t1, t2, t3, t4, t5⟩ := ht
    dsimp only at t0 t1 t2 t3 t4 t5 kk ⊢
    subst t0
    refine ls_X1_useWay_72 ?_
    generalize hr2 : L_X1_useWay_72 (a : Int) ((w 0 : Nat) : Int) _ n' = r2 at kk ⊢
    unfold Lb_X1_useWay_72
    have hwk := wn k hk
    have an : a < n := by rw [← wm]; exact wn m (Nat.le_refl _)
    refine ⟨rgK (by omega), fun c => by omega, fun c => ⟨rgK (by omega), rgK (by omega), fun d => ?_, fun d => ?_⟩⟩
    · have hkm : k = m := wi k m hk (Nat.le_refl _) (by rw [wm]; omega)
      refine ⟨r0, r1, t2, t3, fun S => ?_⟩
      have := t5 S
      rw [hkm, wm] at this
      exact this
    · have hkm : k < m := by
        by_cases q : k = m
        · exact absurd (by rw [q, wm]) d
        · omega
      have hk1 := wk k hkm
      have hwk1 := wn (k + 1) (by omega)
      have hne : w (k + 1) ≠ w k := fun e => by have := wi (k + 1) k (by omega) hk e; omega
      refine at_of (n := 14) rfl rfl (by omega) ?_
      rw [t1, hk1.1]
      refine add_of (n := 196) rfl (i := 14 * w (k + 1) + w k) (by omega) (by omega) (fun I12 e12 => ?_)
      refine at_of (n := 14) rfl rfl (by omega) ?_
      have q12 : I12 131 = I 131 := by rw [e12, up2_key (by decide)]; exact t1
      rw [q12, hk1.1]
      refine add_of (n := 196) rfl (i := 14 * w k + w (k + 1)) (by omega) (by omega) (fun I14 e14 => ?_)
      refine at_of (n := 14) rfl rfl (by omega) ?_
      have q14 : I14 131 = I 131 := by rw [e14, up2_key (by decide)]; exact q12
      rw [q14, hk1.1]
      have f12 : I12 129 = updr (g 129) (14 * w (k + 1) + w k) (g 129 (14 * w (k + 1) + w k) + -r) := by rw [e12, up2_row]
      have f14 : I14 129 = updr (I12 129) (14 * w k + w (k + 1)) (I12 129 (14 * w k + w (k + 1)) + r) := by rw [e14, up2_row]
      have val : ∀ u v, u < n → v < n → I14 129 (14 * u + v) = g 129 (14 * u + v) + (if u = w k ∧ v = w (k + 1) then r else 0) - (if u = w (k + 1) ∧ v = w k then r else 0) := fun u v hu hv => by
        rw [f14]
        by_cases p1 : u = w k ∧ v = w (k + 1)
        · rw [if_pos p1, if_neg (by omega), p1.1, p1.2, updr_self, f12, updr_ne (by omega)]; omega
        · rw [if_neg p1, updr_ne (by omega), f12]
          by_cases p2 : u = w (k + 1) ∧ v = w k
          · rw [if_pos p2, p2.1, p2.2, updr_self]; omega
          · rw [if_neg p2, updr_ne (by omega)]; omega
      have rr := t4 k (Nat.le_refl _) hkm
      refine kk hkm (I14, w (k + 1)) ⟨rfl, q14, fun u v hu hv => ?_, fun u v hu hv => ?_, fun j hj hjm => ?_, fun S => ?_⟩
      · show 0 ≤ I14 129 (14 * u + v)
        rw [val u v hu hv]
        have := t2 u v hu hv
        by_cases p2 : u = w (k + 1) ∧ v = w k
        · rw [if_pos p2, if_neg (by omega), p2.1, p2.2]; omega
        · rw [if_neg p2]; split <;> omega
      · show I14 129 (14 * u + v) + I14 129 (14 * v + u) ≤ 8000
        rw [val u v hu hv, val v u hv hu]
        have := t3 u v hu hv
        by_cases p1 : u = w k ∧ v = w (k + 1)
        · rw [if_pos p1, if_neg (by omega), if_neg (c := v = w k ∧ u = w (k + 1)) (by omega), if_pos (by omega)]; omega
        · by_cases p2 : u = w (k + 1) ∧ v = w k
          · rw [if_neg p1, if_pos p2, if_pos (by omega), if_neg (by omega)]; omega
          · rw [if_neg p1, if_neg p2, if_neg (by omega), if_neg (by omega)]; omega
      · show r ≤ I14 129 (14 * w (j + 1) + w j)
        have h1 := wn j (by omega)
        have h2 := wn (j + 1) (by omega)
        rw [val _ _ h2 h1]
        have := t4 j (by omega) hjm
        have ne : ¬ (w (j + 1) = w (k + 1) ∧ w j = w k) := fun z => by have := wi j k (by omega) (by omega) z.2; omega
        rw [if_neg ne]; split <;> omega
      · show crs n (I14 129) S = _
        rw [f14, crs_upd hn hwk hwk1, f12, crs_upd hn hwk1 hwk, t5 S]
        cases S.testBit (w k) <;> cases S.testBit (w (k + 1)) <;> simp <;> omega
  unfold wp_X1_useWay
  have hb : (b : Int) = (w 0 : Int) := by rw [w0]
  have hloop := loopN (L := fun n' (t : Int × Nat) k => L_X1_useWay_9 (a : Int) (b : Int) (fun r I' _ => 0 < r ∧ r ≤ 1000000 ∧ (∀ u v, u < n → v < n → 0 ≤ I' 129 (14 * u + v)) ∧ (∀ u v, u < n → v < n → I' 129 (14 * u + v) + I' 129 (14 * v + u) ≤ 8000) ∧ ∀ S : Nat, crs n (I' 129) S = crs n (I 129) S - (if S.testBit a = true then r else 0) + (if S.testBit b = true then r else 0)) n' t.1 (t.2 : Int) k I J) (fun k t => t.2 = w k ∧ 0 < t.1 ∧ t.1 ≤ 1000000 ∧ ∀ j, j < k → t.1 ≤ I 129 (14 * w (j + 1) + w j)) (N := m) (fun n' k t hk ht kk => ?_) 15 0 (1000000, b) (by omega) (by omega) ⟨w0.symm, by show (0 : Int) < 1000000; decide, by show (1000000 : Int) ≤ 1000000; decide, fun j hj => by omega⟩
  · exact ⟨15, hloop⟩
  · obtain ⟨r, z⟩ := t
    obtain ⟨t0, t1, t2, t3⟩ := ht
    dsimp only at t0 t1 t2 t3 kk ⊢
    subst t0
    refine ls_X1_useWay_9 ?_
    generalize hr2 : L_X1_useWay_9 (a : Int) (b : Int) _ n' = r2 at kk ⊢
    unfold Lb_X1_useWay_9
    have hwk := wn k hk
    have an : a < n := by rw [← wm]; exact wn m (Nat.le_refl _)
    refine ⟨rgK (by omega), fun c => by omega, fun c => ⟨rgK (by omega), rgK (by omega), fun d => ?_, fun d => ?_⟩⟩
    · have hkm : k = m := wi k m hk (Nat.le_refl _) (by rw [wm]; omega)
      exact second r t1 t2 (fun j hj => t3 j (by omega))
    · have hkm : k < m := by
        by_cases q : k = m
        · exact absurd (by rw [q, wm]) d
        · omega
      have hk1 := wk k hkm
      have hwk1 := wn (k + 1) (by omega)
      have up := hs _ _ hwk1 hwk
      have lo := hf _ _ hwk hwk1
      refine at_of (n := 14) rfl rfl (by omega) ?_
      rw [hk1.1]
      refine at_of (n := 196) rfl (i := 14 * w (k + 1) + w k) (by omega) (by omega) ?_
      refine min_of (rgK (by omega)) (rgK (by omega)) (fun d2 => at_of (n := 14) rfl rfl (by omega) ?_) (fun d2 => at_of (n := 14) rfl rfl (by omega) ?_)
      · rw [hk1.1]
        refine kk hkm (I 129 (14 * w (k + 1) + w k), w (k + 1)) ⟨rfl, hk1.2, by dsimp only; omega, fun j hj => ?_⟩
        by_cases q : j = k
        · rw [q]; exact Int.le_refl _
        · have := t3 j (by omega); dsimp only; omega
      · rw [hk1.1]
        refine kk hkm (r, w (k + 1)) ⟨rfl, t1, t2, fun j hj => ?_⟩
        by_cases q : j = k
        · rw [q]; dsimp only; omega
        · exact t3 j (by omega)
/-- a greatest flow -/
theorem c_run {a b : Nat} {x y : Int} (hV : VS σ) (hR : RG 200 I J σ nm) (hx : x = (a : Int)) (ha : a < (σ 0).toNat) (hy : y = (b : Int)) (hb : b < (σ 0).toNat) (hab : a ≠ b) : wp_X1_run 200 x y I J (fun I' _ => ∃ T s, I' 128 4 = T ∧ I' 128 5 = ((s : Nat) : Int) ∧ FLW σ a b T s) := by
  have b0 := ms_0 hV.M
  refine ⟨gK200, fr_X1_fillRooms (c_fillRooms (a := a) (b := b) hV hR) (fun I1 J1 h1 s1 I2 e2 => ?_)⟩
  refine ⟨3962, loopN (L := fun m (t : Ii × Jj) v => L_X1_run_13 200 x y _ m v t.1 t.2) (fun k t => t.1 128 3 = σ 0 ∧ RO σ a b (t.1 129) (t.1 128 4) ∧ (k : Int) ≤ t.1 128 4) (N := 3961) (fun m k t hk ht kk => ?_) 3962 0 (I2, J1) (by omega) (by omega) ⟨?_, ?_, ?_⟩⟩
  · obtain ⟨g, gJ⟩ := t
    obtain ⟨t0, t1, t2⟩ := ht
    dsimp only at t0 t1 t2 kk ⊢
    have tT := t1.T hV.M hab
    refine ls_X1_run_13 ?_
    generalize hr : L_X1_run_13 200 x y _ m = r at kk ⊢
    unfold Lb_X1_run_13
    have hf : ∀ u v, u < (σ 0).toNat → v < (σ 0).toNat → 0 ≤ g 129 (14 * u + v) ∧ g 129 (14 * u + v) ≤ 8000 := fun u v hu hv => by
      have := t1.1 u v hu hv
      have := t1.1 v u hv hu
      have := t1.2.1 u v hu hv
      omega
    refine ⟨rgK (by omega), fun c => by omega, fun c => fr_X1_findWay (c_findWay (n := (σ 0).toNat) (by omega) hx ha hy hb (by omega) hf) (fun v I4 J4 h4 s4 => ?_)⟩
    obtain ⟨s, cc, h5, hB, hC, hbo⟩ := h4
    have r4 : I4 129 = g 129 := s4.k
    have i4 : I4 128 4 = g 128 4 := s4.i
    have i3 : I4 128 3 = g 128 3 := s4.i
    refine bo0 hbo (fun d => ?_) (fun d => ?_)
    · have hF := FLW_of t1 hB hC (by cases q : s.testBit b; rfl; exact absurd q d)
      exact ⟨g 128 4, s, i4, h5, hF⟩
    · obtain ⟨mm, w, hw⟩ := BF_way (by omega) hB d
      rw [← r4] at hw
      refine fr_X1_useWay (c_useWay (n := (σ 0).toNat) (by omega) hx hy hw (fun u v hu hv => by rw [r4]; exact t1.1 u v hu hv) (fun u v hu hv => by rw [r4]; exact t1.2.1 u v hu hv)) (fun rr I5 J5 h6 s5 I6 e6 => ?_)
      obtain ⟨g1, g2, g3, g4, g5⟩ := h6
      have p4 : I6 128 4 = g 128 4 + rr := by rw [e6, up2_self, i4]
      have p9 : I6 129 = I5 129 := by rw [e6, up2_key (by decide)]
      have p3 : I6 128 3 = σ 0 := by
        have : I5 128 3 = I4 128 3 := s5.i
        rw [e6, up2_ne (by decide), this, i3, t0]
      have hRO : RO σ a b (I6 129) (I6 128 4) := by
        rw [p9, p4]
        refine ⟨g3, g4, by have := t1.2.2.1; omega, fun S q1 q2 => ?_⟩
        rw [g5 S, r4, t1.2.2.2 S q1 q2, if_pos q1, if_neg (by rw [q2]; decide)]; omega
      have tT2 := hRO.T hV.M hab
      have := kk (by omega) (I6, J5) ⟨p3, hRO, by show ((k + 1 : Nat) : Int) ≤ I6 128 4; omega⟩
      exact this
  · show I2 128 3 = σ 0
    rw [e2, up2_ne (by decide)]; exact h1.1
  · show RO σ a b (I2 129) (I2 128 4)
    rw [e2, up2_key (by decide), up2_self]; exact h1.2
  · show ((0 : Nat) : Int) ≤ I2 128 4
    rw [e2, up2_self]; exact Int.le_refl _
end FL
