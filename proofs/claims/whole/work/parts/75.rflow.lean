/-! ===== flows, the reference ===== -/
def vld (a b S : Nat) : Prop := S.testBit a = true ∧ S.testBit b = false
/-- what was found among the sets below k -/
def FS (σ : Nat → Int) (a b k : Nat) (x y : Int) : Prop := ((∀ S, S < k → ¬ vld a b S) ∧ x = -1 ∧ y = 0) ∨
  ∃ t : Nat, y = (t : Int) ∧ t < 16384 ∧ 0 ≤ x ∧ (∃ S, S < k ∧ vld a b S ∧ outZ σ S = x) ∧ (∀ S, S < k → vld a b S → x ≤ outZ σ S) ∧ ∀ i, t.testBit i = true ↔ ∀ S, S < k → vld a b S → outZ σ S = x → S.testBit i = true
theorem FS_skip {σ : Nat → Int} {a b k : Nat} {x y : Int} (h : FS σ a b k x y) (hn : ¬ vld a b k) : FS σ a b (k + 1) x y := by
  have up : ∀ S, S < k + 1 → vld a b S → S < k := fun S hS hv => by
    by_cases e : S = k
    · subst e; exact absurd hv hn
    · omega
  rcases h with ⟨h1, h2, h3⟩ | ⟨t, h1, h2, h3, ⟨S, s1, s2, s3⟩, h5, h6⟩
  · exact Or.inl ⟨fun S hS hv => h1 S (up S hS hv) hv, h2, h3⟩
  · refine Or.inr ⟨t, h1, h2, h3, ⟨S, by omega, s2, s3⟩, fun S hS hv => h5 S (up S hS hv) hv, fun i => ⟨fun q S hS hv e => (h6 i).mp q S (up S hS hv) hv e, fun q => (h6 i).mpr (fun S hS hv e => q S (by omega) hv e)⟩⟩
theorem FS_new {σ : Nat → Int} (hM : MS σ) {a b k : Nat} {x y : Int} (h : FS σ a b k x y) (hk : k < 16384) (hv : vld a b k) (hx : x = -1 ∨ outZ σ k < x) : FS σ a b (k + 1) (outZ σ k) (k : Int) := by
  have bo := outZ_b hM k
  have lt : ∀ S, S < k → vld a b S → outZ σ k < outZ σ S := fun S hS hv' => by
    rcases h with ⟨h1, -, -⟩ | ⟨t, h1, h2, h3, -, h5, -⟩
    · exact absurd hv' (h1 S hS)
    · have := h5 S hS hv'
      omega
  refine Or.inr ⟨k, rfl, hk, bo.1, ⟨k, by omega, hv, rfl⟩, fun S hS hv' => ?_, fun i => ⟨fun q S hS hv' e => ?_, fun q => q k (by omega) hv rfl⟩⟩
  · by_cases e : S = k
    · rw [e]; exact Int.le_refl _
    · have := lt S (by omega) hv'; omega
  · by_cases e2 : S = k
    · rw [e2]; exact q
    · have := lt S (by omega) hv'; omega
theorem FS_same {σ : Nat → Int} {a b k t : Nat} {x : Int} (h : FS σ a b k x (t : Int)) (hv : vld a b k) (hx : x ≠ -1) (he : outZ σ k = x) : FS σ a b (k + 1) x ((t &&& k : Nat) : Int) := by
  rcases h with ⟨-, h2, -⟩ | ⟨t', h1, h2, h3, ⟨S, s1, s2, s3⟩, h5, h6⟩
  · exact absurd h2 hx
  · have ht : t = t' := by omega
    subst ht
    refine Or.inr ⟨t &&& k, rfl, Nat.lt_of_le_of_lt Nat.and_le_left h2, h3, ⟨S, by omega, s2, s3⟩, fun S hS hv' => ?_, fun i => ⟨fun q S hS hv' e => ?_, fun q => ?_⟩⟩
    · by_cases e : S = k
      · rw [e, he]; exact Int.le_refl _
      · exact h5 S (by omega) hv'
    · rw [Nat.testBit_and, Bool.and_eq_true] at q
      by_cases e2 : S = k
      · rw [e2]; exact q.2
      · exact (h6 i).mp q.1 S (by omega) hv' e
    · rw [Nat.testBit_and, Bool.and_eq_true]
      exact ⟨(h6 i).mpr (fun S hS hv' e => q S (by omega) hv' e), q k (by omega) hv he⟩
theorem FS_more {σ : Nat → Int} {a b k : Nat} {x y : Int} (h : FS σ a b k x y) (hx : x ≠ -1) (he : x < outZ σ k) : FS σ a b (k + 1) x y := by
  rcases h with ⟨-, h2, -⟩ | ⟨t, h1, h2, h3, ⟨S, s1, s2, s3⟩, h5, h6⟩
  · exact absurd h2 hx
  · refine Or.inr ⟨t, h1, h2, h3, ⟨S, by omega, s2, s3⟩, fun S hS hv' => ?_, fun i => ⟨fun q S hS hv' e => ?_, fun q => (h6 i).mpr (fun S hS hv' e => q S (by omega) hv' e)⟩⟩
    · by_cases e : S = k
      · rw [e]; omega
      · exact h5 S (by omega) hv'
    · by_cases e2 : S = k
      · rw [e2] at e; omega
      · exact (h6 i).mp q S (by omega) hv' e
theorem FS_fin {σ : Nat → Int} {a b : Nat} {x y : Int} {T : Int} {s : Nat} (h : FS σ a b (2 ^ (σ 0).toNat) x y) (hF : FLW σ a b T s) : x = T ∧ y = (s : Int) := by
  obtain ⟨f1, f2, f3, f4, f5⟩ := hF
  rcases h with ⟨h1, -, -⟩ | ⟨t, h1, h2, h3, ⟨S, s1, s2, s3⟩, h5, h6⟩
  · exact absurd ⟨f2, f3⟩ (h1 s f1)
  · have e1 : x = T := by
      have := h5 s f1 ⟨f2, f3⟩
      have := (f5 S s2.1 s2.2).1
      omega
    refine ⟨e1, ?_⟩
    have : t = s := by
      apply Nat.eq_of_testBit_eq
      intro i
      cases c : s.testBit i
      · cases c2 : t.testBit i
        · rfl
        · have := (h6 i).mp c2 s f1 ⟨f2, f3⟩ (by rw [f4, e1])
          rw [c] at this; cases this
      · rw [(h6 i).mpr (fun S hS hv e => (f5 S hv.1 hv.2).2 (by rw [e, e1]) i c)]
    rw [h1, this]
/-- the least flow -/
def LFL (σ : Nat → Int) (r : Int) : Prop := (σ 0 < 2 → r = -1) ∧ (2 ≤ σ 0 → (∃ S : Nat, S % 2 = 1 ∧ S < 2 ^ (σ 0).toNat - 1 ∧ outZ σ S = r) ∧ ∀ S : Nat, S % 2 = 1 → S < 2 ^ (σ 0).toNat - 1 → r ≤ outZ σ S)
theorem LFL_one {σ : Nat → Int} {r q : Int} (h1 : LFL σ r) (h2 : LFL σ q) : r = q := by
  by_cases c : σ 0 < 2
  · rw [h1.1 c, h2.1 c]
  · obtain ⟨⟨S, a1, a2, a3⟩, a4⟩ := h1.2 (by omega)
    obtain ⟨⟨S', b1, b2, b3⟩, b4⟩ := h2.2 (by omega)
    have := a4 S' b1 b2
    have := b4 S a1 a2
    omega
theorem bit0 (S : Nat) : S.testBit 0 = true ↔ S % 2 = 1 := by
  rw [Nat.testBit_eq_decide_div_mod_eq, decide_eq_true_eq, Nat.pow_zero, Nat.div_one]
section RF
variable {I : Ii} {J : Jj}
theorem s_flows {x y : Int} {a b : Nat} {T : Int} {s : Nat} (hM : MS (I 2)) (hx : x = (a : Int)) (ha : a < (I 2 0).toNat) (hy : y = (b : Int)) (hb : b < (I 2 0).toNat) (hF : FLW (I 2) a b T s) : wp_X12_flows x y I J (fun I' _ => I' 0 26 = T ∧ I' 0 27 = (s : Int)) := by
  have b0 := ms_0 hM
  have p14 := pow_le14 (n := (I 2 0).toNat) (by omega)
  subst hx hy
  intro I1 e1 I2 e2
  have o2 : ∀ {g : Ii}, (∀ q, q ≠ 0 → g q = I q) → g 2 = I 2 := fun h => h 2 (by decide)
  refine ⟨2 ^ (I 2 0).toNat + 1, loopN (L := fun m (g : Ii) v => L_X12_flows_12 (a : Int) (b : Int) _ m v g J) (fun k g => (∀ q, q ≠ 0 → g q = I q) ∧ FS (I 2) a b k (g 0 26) (g 0 27)) (N := 2 ^ (I 2 0).toNat) (fun m k g hk hg kk => ?_) _ 0 I2 (by omega) (by omega) ⟨fun q hq => by rw [e2, up2_key hq, e1, up2_key hq], Or.inl ⟨fun S hS => by omega, by rw [e2, up2_ne (by decide), e1, up2_self], by rw [e2, up2_self]⟩⟩⟩
  obtain ⟨g0, g1⟩ := hg
  have r2 := o2 g0
  refine ls_X12_flows_12 ?_
  generalize hr : L_X12_flows_12 (a : Int) (b : Int) _ m = r at kk ⊢
  unfold Lb_X12_flows_12
  refine fr_X12_everything (s_everything (by rw [r2]; exact hM)) (fun w hw => ?_)
  rw [r2] at hw
  subst hw
  refine ⟨rgK (by omega), rgK (by omega), fun c => ?_, fun c => ?_⟩
  · have hk : k = 2 ^ (I 2 0).toNat := by omega
    rw [hk] at g1
    exact FS_fin g1 hF
  · have hk : k < 2 ^ (I 2 0).toNat := by omega
    have bo := outZ_b hM k
    have bx : -1 ≤ g 0 26 ∧ g 0 26 ≤ 3960 := by
      rcases g1 with ⟨-, h, -⟩ | ⟨t, -, -, h3, ⟨S, -, -, h5⟩, -, -⟩
      · omega
      · have := outZ_b hM S; omega
    refine fr_X12_hasBit (s_hasBit (s := k) (k := a) rfl rfl (by omega) (by omega)) (fun q1 h1 => bo0 h1 (fun d => kk hk g ⟨g0, FS_skip g1 (fun z => d z.1)⟩) (fun d => ?_))
    refine fr_X12_hasBit (s_hasBit (s := k) (k := b) rfl rfl (by omega) (by omega)) (fun q2 h2 => bo0 h2 (fun d2 => ?_) (fun d2 => kk hk g ⟨g0, FS_skip g1 (fun z => by have := z.2; rw [d2] at this; cases this)⟩))
    have hv : vld a b k := ⟨d, by cases q : k.testBit b; rfl; exact absurd q d2⟩
    refine fr_X12_outOf (s_outOf (s := k) (by rw [r2]; exact hM) rfl (by omega)) (fun o ho => ?_)
    rw [r2] at ho
    subst ho
    have new : (g 0 26 = -1 ∨ outZ (I 2) k < g 0 26) → B_X12_flows_63 (a : Int) (b : Int) (fun I' _ => I' 0 26 = T ∧ I' 0 27 = (s : Int)) r (k : Int) (outZ (I 2) k) g J := fun hh => by
      unfold B_X12_flows_63
      intro I12 e12 I13 e13
      refine kk hk I13 ⟨fun q hq => by rw [e13, up2_key hq, e12, up2_key hq]; exact g0 q hq, ?_⟩
      rw [e13, up2_self, up2_ne (by decide), e12, up2_self]
      exact FS_new hM g1 (by omega) hv hh
    refine ⟨rgK (by omega), fun d3 => new (Or.inl d3), fun d3 => ⟨rgK (by omega), fun d4 => ⟨fun d5 => kk hk g ⟨g0, FS_more g1 d3 (by omega)⟩, fun d5 I11 e11 => ?_⟩, fun d4 => new (Or.inr (by omega))⟩⟩
    have ht : ∃ t : Nat, g 0 27 = (t : Int) ∧ t < 16384 := by
      rcases g1 with ⟨-, h, -⟩ | ⟨t, h, h', -⟩
      · exact absurd h d3
      · exact ⟨t, h, h'⟩
    obtain ⟨t, ht, ht14⟩ := ht
    refine kk hk I11 ⟨fun q hq => by rw [e11, up2_key hq]; exact g0 q hq, ?_⟩
    rw [e11, up2_ne (by decide), up2_self, ht, andZ_nat (by omega)]
    rw [ht] at g1
    exact FS_same g1 hv d3 d5
theorem s_leastFlow (hM : MS (I 2)) : wp_X12_leastFlow I J (fun r I' J' => LFL (I 2) r ∧ I' = up2 I 0 0 0 ∧ J' = J) := by
  have b0 := ms_0 hM
  have p14 := pow_le14 (n := (I 2 0).toNat) (by omega)
  intro I1 e1
  have r2 : I1 2 = I 2 := by rw [e1, up2_key (by decide)]
  have key : ∀ (n m : Nat) (x : Int), 16385 ≤ n + 2 * m → ((m = 0 ∧ x = -1) ∨ ((∃ S : Nat, S % 2 = 1 ∧ S < 2 * m + 1 ∧ S < 2 ^ (I 2 0).toNat - 1 ∧ outZ (I 2) S = x) ∧ ∀ S : Nat, S % 2 = 1 → S < 2 * m + 1 → x ≤ outZ (I 2) S)) → (m = 0 ∨ 2 * m - 1 < 2 ^ (I 2 0).toNat - 1) → L_X12_leastFlow_9 (fun r I' J' => LFL (I 2) r ∧ I' = up2 I 0 0 0 ∧ J' = J) n x ((2 * m + 1 : Nat) : Int) I1 J := by
    intro n
    induction n with
    | zero => intro m x h1 h2 h3; omega
    | succ n ih =>
      intro m x h1 h2 h3
      refine ls_X12_leastFlow_9 ?_
      unfold Lb_X12_leastFlow_9
      refine fr_X12_everything (s_everything (by rw [r2]; exact hM)) (fun w hw => ?_)
      rw [r2] at hw
      subst hw
      have bx : -1 ≤ x ∧ x ≤ 3960 := by
        rcases h2 with h | ⟨⟨S, -, -, -, h⟩, -⟩
        · omega
        · have := outZ_b hM S; omega
      have bo := outZ_b hM (2 * m + 1)
      refine ⟨rgK (by omega), rgK (by omega), fun c => ⟨⟨fun z => ?_, fun z => ?_⟩, e1, rfl⟩, fun c => ?_⟩
      · have p2 : 2 ^ (I 2 0).toNat ≤ 2 ^ 1 := Nat.pow_le_pow_right (by decide) (by omega)
        rcases h2 with h | ⟨⟨S, h4, -, h5, -⟩, -⟩
        · exact h.2
        · omega
      · have p2 : 2 ^ 2 ≤ 2 ^ (I 2 0).toNat := Nat.pow_le_pow_right (by decide) (by omega)
        rcases h2 with h | ⟨⟨S, q1, q2, q3, q4⟩, h6⟩
        · omega
        · exact ⟨⟨S, q1, q3, q4⟩, fun S h7 h8 => h6 S h7 (by omega)⟩
      · refine fr_X12_outOf (s_outOf (s := 2 * m + 1) (by rw [r2]; exact hM) rfl (by omega)) (fun o ho => ?_)
        rw [r2] at ho
        subst ho
        have e2 : ((2 * m + 1 : Nat) : Int) + 2 = ((2 * (m + 1) + 1 : Nat) : Int) := by omega
        rw [e2]
        have odd : ∀ S : Nat, S % 2 = 1 → S < 2 * (m + 1) + 1 → S = 2 * m + 1 ∨ S < 2 * m + 1 := fun S _ _ => by omega
        have new : (x = -1 ∨ outZ (I 2) (2 * m + 1) < x) → L_X12_leastFlow_9 (fun r I' J' => LFL (I 2) r ∧ I' = up2 I 0 0 0 ∧ J' = J) n (outZ (I 2) (2 * m + 1)) ((2 * (m + 1) + 1 : Nat) : Int) I1 J := fun hh => ih (m + 1) _ (by omega) (Or.inr ⟨⟨2 * m + 1, by omega, by omega, by omega, rfl⟩, fun S q1 q2 => by
          rcases odd S q1 q2 with q | q
          · rw [q]; exact Int.le_refl _
          · rcases h2 with h | ⟨⟨S2, -, -, -, z⟩, h6⟩
            · omega
            · have := h6 S q1 q
              have := outZ_b hM S2
              omega⟩) (Or.inr (by omega))
        refine ⟨rgK (by omega), fun d => new (Or.inl d), fun d => ⟨rgK (by omega), fun d2 => ih (m + 1) x (by omega) (Or.inr ?_) (Or.inr (by omega)), fun d2 => new (Or.inr (by omega))⟩⟩
        rcases h2 with h | ⟨⟨S, q1, q2, q3, q4⟩, h6⟩
        · exact absurd h.2 d
        · refine ⟨⟨S, q1, by omega, q3, q4⟩, fun S' z1 z2 => ?_⟩
          rcases odd S' z1 z2 with q | q
          · rw [q]; exact d2
          · exact h6 S' z1 q
  exact ⟨16385, key 16385 0 (-1) (by omega) (Or.inl ⟨rfl, rfl⟩) (Or.inl rfl)⟩
end RF
/-- the least of the flows from vertex 0 to those below v -/
def LL (σ : Nat → Int) (v : Nat) (x : Int) : Prop := (v = 1 ∧ x = -1) ∨ ((∃ S w : Nat, 1 ≤ w ∧ w < v ∧ S < 2 ^ (σ 0).toNat ∧ vld 0 w S ∧ outZ σ S = x) ∧ ∀ S w : Nat, 1 ≤ w → w < v → vld 0 w S → x ≤ outZ σ S)
theorem LL_b {σ : Nat → Int} (hM : MS σ) {v : Nat} {x : Int} (h : LL σ v x) : -1 ≤ x ∧ x ≤ 3960 := by
  rcases h with h | ⟨⟨S, w, h1, h2, h3, h4, h5⟩, -⟩
  · omega
  · have := outZ_b hM S
    rw [h5] at this
    omega
theorem LL_new {σ : Nat → Int} (hM : MS σ) {v s : Nat} {x T : Int} (h : LL σ v x) (hv : 1 ≤ v) (hF : FLW σ 0 v T s) (hx : x = -1 ∨ T < x) : LL σ (v + 1) T := by
  obtain ⟨f1, f2, f3, f4, f5⟩ := hF
  refine Or.inr ⟨⟨s, v, hv, by omega, f1, ⟨f2, f3⟩, f4⟩, fun S w h1 h2 h3 => ?_⟩
  by_cases e : w = v
  · subst e
    exact (f5 S h3.1 h3.2).1
  · rcases h with h | ⟨⟨S2, w2, -, -, -, -, z⟩, h6⟩
    · omega
    · have a1 := h6 S w h1 (by omega) h3
      have a2 := outZ_b hM S2
      rw [z] at a2
      omega
theorem LL_old {σ : Nat → Int} {v s : Nat} {x T : Int} (h : LL σ v x) (hF : FLW σ 0 v T s) (hx : x ≠ -1) (hx2 : x ≤ T) : LL σ (v + 1) x := by
  obtain ⟨f1, f2, f3, f4, f5⟩ := hF
  rcases h with h | ⟨⟨S2, w2, g1, g2, g3, g4, g5⟩, h6⟩
  · exact absurd h.2 hx
  · refine Or.inr ⟨⟨S2, w2, g1, by omega, g3, g4, g5⟩, fun S w h1 h2 h3 => ?_⟩
    by_cases e : w = v
    · subst e
      have := (f5 S h3.1 h3.2).1
      omega
    · exact h6 S w h1 (by omega) h3
theorem LL_fin {σ : Nat → Int} {v : Nat} {x : Int} (h : LL σ v x) (hv : v = 1 ∨ (v : Int) ≤ σ 0) (hv2 : σ 0 ≤ (v : Int)) : LFL σ x := by
  refine ⟨fun z => ?_, fun z => ?_⟩
  · rcases h with h | ⟨⟨S, w, h1, h2, -, -, -⟩, -⟩
    · exact h.2
    · omega
  · have hvn : v = (σ 0).toNat := by omega
    rcases h with h | ⟨⟨S, w, h1, h2, h3, h4, h5⟩, h6⟩
    · omega
    · refine ⟨⟨S, (bit0 S).mp h4.1, ?_, h5⟩, fun S q1 q2 => ?_⟩
      · by_cases e : S = 2 ^ (σ 0).toNat - 1
        · have q := h4.2
          rw [e, Nat.testBit_two_pow_sub_one] at q
          have := of_decide_eq_false q
          omega
        · omega
      · have hex : ∃ w, w < (σ 0).toNat ∧ S.testBit w = false := by
          apply Classical.byContradiction
          intro hno
          have : S = 2 ^ (σ 0).toNat - 1 := by
            apply Nat.eq_of_testBit_eq
            intro i
            rw [Nat.testBit_two_pow_sub_one]
            by_cases hi : i < (σ 0).toNat
            · cases c : S.testBit i
              · exact absurd ⟨i, hi, c⟩ hno
              · simp [hi]
            · have : S < 2 ^ i := Nat.lt_of_lt_of_le (by omega : S < 2 ^ (σ 0).toNat) (Nat.pow_le_pow_right (by decide) (by omega))
              rw [Nat.testBit_lt_two_pow this]
              simp [hi]
          omega
        obtain ⟨w, w1, w2⟩ := hex
        have w0 : w ≠ 0 := fun e => by rw [e, (bit0 S).mpr q1] at w2; cases w2
        exact h6 S w (by omega) (by omega) ⟨(bit0 S).mpr q1, w2⟩
section CL
variable {I : Ii} {J : Jj} {σ : Nat → Int} {nm : Nat → Int64}
theorem c_leastFlow (hV : VS σ) (hR : RG 200 I J σ nm) : wp_X11_leastFlow I J (fun r _ _ => LFL σ r) := by
  have b0 := ms_0 hV.M
  refine ⟨16, loopN (L := fun m (t : Int × Ii × Jj) v => L_X11_leastFlow_4 _ m t.1 v t.2.1 t.2.2) (fun v t => (1 ≤ v ∧ (v = 1 ∨ (v : Int) ≤ σ 0)) ∧ RG 200 t.2.1 t.2.2 σ nm ∧ LL σ v t.1) (N := (σ 0).toNat + 1) (fun m v t hv ht kk => ?_) 16 1 (-1, I, J) (by omega) (by omega) ⟨⟨by omega, Or.inl rfl⟩, hR, Or.inl ⟨rfl, rfl⟩⟩⟩
  obtain ⟨x, g, gJ⟩ := t
  obtain ⟨t1, t2, t3⟩ := ht
  dsimp only at t2 t3 kk ⊢
  have hn := t2.n
  have bx := LL_b hV.M t3
  refine ls_X11_leastFlow_4 ?_
  generalize hr : L_X11_leastFlow_4 _ m = r at kk ⊢
  unfold Lb_X11_leastFlow_4
  refine ⟨rgK (by omega), rgK (by omega), fun c => LL_fin t3 t1.2 (by omega), fun c => ?_⟩
  refine fr_X1_run (c_run (a := 0) (b := v) hV t2 rfl (by omega) rfl (by omega) (by omega)) (fun I3 J3 h3 s3 => ?_)
  obtain ⟨T, s, q4, q5, hF⟩ := h3
  have bT := outZ_b hV.M s
  rw [hF.2.2.2.1] at bT
  have R3 : RG 200 I3 J3 σ nm := t2.fr s3
  rw [q4]
  have hv1 : 1 ≤ v + 1 ∧ (v + 1 = 1 ∨ ((v + 1 : Nat) : Int) ≤ σ 0) := by omega
  exact ⟨rgK (by omega), fun d => kk (by omega) (T, I3, J3) ⟨hv1, R3, LL_new hV.M t3 t1.1 hF (Or.inl d)⟩, fun d => ⟨rgK (by omega), fun d2 => kk (by omega) (x, I3, J3) ⟨hv1, R3, LL_old t3 hF d d2⟩, fun d2 => kk (by omega) (T, I3, J3) ⟨hv1, R3, LL_new hV.M t3 t1.1 hF (Or.inr (by omega))⟩⟩⟩
end CL
