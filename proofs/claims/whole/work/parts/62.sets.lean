/-! ===== what comes together by edges ===== -/
theorem bt_iZ {n i : Nat} (hi : i < 32) : bt (iZ (n : Int)) i = n.testBit i := by
  rw [← nI_iZ]
  unfold bt
  show (BitVec.ofNat 32 n).getLsbD i = _
  rw [BitVec.getLsbD_ofNat]
  simp [hi]
theorem iZ_m1 : iZ (-1) = -1 := by decide
theorem andn_zero {s W : Nat} (hs : s < 2147483648) : andZ (s : Int) (xorZ (W : Int) (-1)) = 0 ↔ ∀ i, s.testBit i = true → W.testBit i = true := by
  unfold andZ xorZ
  rw [iZ_back, iZ_m1]
  have e0 : ((iZ (s : Int)) &&& (iZ (W : Int) ^^^ -1)).toInt = 0 ↔ ((iZ (s : Int)) &&& (iZ (W : Int) ^^^ -1)) = 0 := by
    constructor
    · intro h
      exact Int32.toInt_inj.mp (by rw [h]; rfl)
    · intro h; rw [h]; rfl
  rw [e0]
  constructor
  · intro h i hi
    by_cases c : i < 32
    · have := congrArg (fun x => bt x i) h
      simp only [b_and, b_xor, bt_iZ c, b_m1 i c, b_0, hi] at this
      simpa using this
    · have : s < 2 ^ i := Nat.lt_of_lt_of_le hs (Nat.pow_le_pow_right (by decide) (by omega) : 2 ^ 31 ≤ 2 ^ i)
      rw [Nat.testBit_lt_two_pow this] at hi
      cases hi
  · intro h
    refine b_ext (fun i hi => ?_)
    rw [b_and, b_xor, bt_iZ hi, bt_iZ hi, b_m1 i hi, b_0]
    cases c : s.testBit i
    · rfl
    · rw [h i c]; rfl
theorem and_zero {s t : Nat} (hs : s < 2147483648) : andZ (s : Int) (t : Int) = 0 ↔ ∀ i, s.testBit i = true → t.testBit i = false := by
  rw [andZ_nat hs]
  constructor
  · intro h i hi
    have h : s &&& t = 0 := by omega
    have := congrArg (fun x => x.testBit i) h
    simp only [Nat.testBit_and, hi, Nat.zero_testBit, Bool.true_and] at this
    exact this
  · intro h
    have : s &&& t = 0 := by
      apply Nat.eq_of_testBit_eq
      intro i
      rw [Nat.testBit_and, Nat.zero_testBit]
      cases c : s.testBit i
      · rfl
      · rw [h i c]; rfl
    rw [this]; rfl
/-- a set without what another one has -/
def difN (s W : Nat) : Nat := s ^^^ (s &&& W)
theorem difN_bit (s W i : Nat) : (difN s W).testBit i = (s.testBit i && !W.testBit i) := by
  unfold difN
  rw [Nat.testBit_xor, Nat.testBit_and]
  cases s.testBit i <;> cases W.testBit i <;> rfl
theorem difN_lt {s W n : Nat} (h : s < 2 ^ n) : difN s W < 2 ^ n := Nat.xor_lt_two_pow h (Nat.lt_of_le_of_lt (Nat.and_le_left) h)
theorem andn_nat {s W : Nat} (hs : s < 2147483648) : andZ (s : Int) (xorZ (W : Int) (-1)) = ((difN s W : Nat) : Int) := by
  have hd : difN s W < 2 ^ 31 := difN_lt hs
  have e : iZ (s : Int) &&& (iZ (W : Int) ^^^ -1) = iZ ((difN s W : Nat) : Int) := by
    refine b_ext (fun i hi => ?_)
    rw [b_and, b_xor, bt_iZ hi, bt_iZ hi, b_m1 i hi, bt_iZ hi, difN_bit]
    cases s.testBit i <;> cases W.testBit i <;> rfl
  unfold andZ xorZ
  rw [iZ_back, iZ_m1, e]
  exact iZ_toInt (by omega)
/-- one edge is looked at -/
def stE (σ : Nat → Int) (W s e : Nat) : Nat :=
  if (W.testBit (σ (110 + e)).toNat = true ∧ W.testBit (σ (150 + e)).toNat = true) ∧ (s.testBit (σ (110 + e)).toNat = true ∨ s.testBit (σ (150 + e)).toNat = true) then s ||| (2 ^ (σ (110 + e)).toNat ||| 2 ^ (σ (150 + e)).toNat) else s
/-- a lap over the edges -/
def lapE (σ : Nat → Int) (W s : Nat) : Nat → Nat
  | 0 => s
  | e + 1 => stE σ W (lapE σ W s e) e
theorem lapE_succ (σ : Nat → Int) (W s e : Nat) : lapE σ W s (e + 1) = stE σ W (lapE σ W s e) e := rfl
/-- laps -/
def lpZ (σ : Nat → Int) (W s : Nat) : Nat → Nat
  | 0 => s
  | n + 1 => lapE σ W (lpZ σ W s n) (σ 1).toNat
theorem lpZ_succ (σ : Nat → Int) (W s n : Nat) : lpZ σ W s (n + 1) = lapE σ W (lpZ σ W s n) (σ 1).toNat := rfl
def tgZ (σ : Nat → Int) (W v : Nat) : Nat := lpZ σ W (2 ^ v) (σ 0).toNat
theorem stE_lt {σ : Nat → Int} {W s e n : Nat} (hs : s < 2 ^ n) (ha : (σ (110 + e)).toNat < n) (hb : (σ (150 + e)).toNat < n) : stE σ W s e < 2 ^ n := by
  unfold stE
  split
  · exact Nat.or_lt_two_pow hs (Nat.or_lt_two_pow (Nat.pow_lt_pow_right (by decide) ha) (Nat.pow_lt_pow_right (by decide) hb))
  · exact hs
theorem stE_sub (σ : Nat → Int) (W s e : Nat) {i : Nat} (h : s.testBit i = true) : (stE σ W s e).testBit i = true := by
  unfold stE
  split
  · rw [Nat.testBit_or, h, Bool.true_or]
  · exact h
theorem lapE_sub (σ : Nat → Int) (W s : Nat) : ∀ (e : Nat) {i : Nat}, s.testBit i = true → (lapE σ W s e).testBit i = true
  | 0, _, h => h
  | e + 1, _, h => stE_sub σ W _ e (lapE_sub σ W s e h)
theorem lapE_lt {σ : Nat → Int} {W s n : Nat} (hs : s < 2 ^ n) : ∀ {e : Nat}, (∀ f, f < e → (σ (110 + f)).toNat < n ∧ (σ (150 + f)).toNat < n) → lapE σ W s e < 2 ^ n
  | 0, _ => hs
  | e + 1, h => stE_lt (lapE_lt hs (fun f hf => h f (by omega))) (h e (by omega)).1 (h e (by omega)).2
theorem lpZ_lt {σ : Nat → Int} {W s n : Nat} (hs : s < 2 ^ n) (h : ∀ f, f < (σ 1).toNat → (σ (110 + f)).toNat < n ∧ (σ (150 + f)).toNat < n) : ∀ (l : Nat), lpZ σ W s l < 2 ^ n
  | 0 => hs
  | l + 1 => lapE_lt (lpZ_lt hs h l) h
/-- bits, counted -/
theorem cntB_le {s t : Nat} (h : ∀ i, s.testBit i = true → t.testBit i = true) : ∀ n, cntB s n ≤ cntB t n
  | 0 => Int.le_refl _
  | n + 1 => by
    have ih := cntB_le h n
    unfold cntB at ih ⊢
    rw [sm_succ, sm_succ]
    by_cases c : s.testBit n = true
    · rw [if_pos c, if_pos (h n c)]; omega
    · rw [if_neg c]; split <;> omega
theorem cntB_lt {s t : Nat} (h : ∀ i, s.testBit i = true → t.testBit i = true) : ∀ {n : Nat}, s < 2 ^ n → t < 2 ^ n → s ≠ t → cntB s n < cntB t n := by
  intro n hs ht hne
  have hex : ∃ i, i < n ∧ t.testBit i = true ∧ s.testBit i = false := by
    apply Classical.byContradiction
    intro hno
    apply hne
    apply Nat.eq_of_testBit_eq
    intro i
    cases c : t.testBit i
    · cases c2 : s.testBit i
      · rfl
      · rw [h i c2] at c; cases c
    · cases c2 : s.testBit i
      · by_cases hi : i < n
        · exact absurd ⟨i, hi, c, c2⟩ hno
        · have : t < 2 ^ i := Nat.lt_of_lt_of_le ht (Nat.pow_le_pow_right (by decide) (by omega))
          rw [Nat.testBit_lt_two_pow this] at c; cases c
      · rfl
  obtain ⟨i, hi, h1, h2⟩ := hex
  have key : ∀ m, i < m → cntB s m < cntB t m := by
    intro m
    induction m with
    | zero => intro hm; omega
    | succ m ih =>
      intro hm
      unfold cntB at ih ⊢
      rw [sm_succ, sm_succ]
      by_cases c : i = m
      · subst c
        have := cntB_le h i
        unfold cntB at this
        rw [h1, h2, if_neg (by decide), if_pos rfl]; omega
      · have := ih (by omega)
        by_cases c2 : s.testBit m = true
        · rw [if_pos c2, if_pos (h m c2)]; omega
        · rw [if_neg c2]; split <;> omega
  exact key n hi
theorem cntB_n (s : Nat) : ∀ n, 0 ≤ cntB s n ∧ cntB s n ≤ n
  | 0 => by simp [cntB, sm]
  | n + 1 => by
    have := cntB_n s n
    unfold cntB at this ⊢
    rw [sm_succ]
    split <;> omega
theorem cntB_pos {s i : Nat} (h : s.testBit i = true) {n : Nat} (hi : i < n) : 1 ≤ cntB s n := by
  have h1 := cntB_le (s := 2 ^ i) (t := s) (fun j hj => by
    rw [Nat.testBit_two_pow] at hj
    rw [← of_decide_eq_true hj]; exact h) n
  have h2 : ∀ m, i < m → 1 ≤ cntB (2 ^ i) m := by
    intro m
    induction m with
    | zero => intro hm; omega
    | succ m ih =>
      intro hm
      unfold cntB at ih ⊢
      rw [sm_succ]
      by_cases c : i = m
      · subst c
        have := (cntB_n (2 ^ i) i).1
        unfold cntB at this
        rw [if_pos (by rw [Nat.testBit_two_pow]; simp)]; omega
      · have := ih (by omega)
        split <;> omega
  have := h2 n hi
  omega
theorem lpZ_stay {σ : Nat → Int} {W s l : Nat} (h : lpZ σ W s (l + 1) = lpZ σ W s l) : ∀ d, lpZ σ W s (l + d) = lpZ σ W s l
  | 0 => rfl
  | d + 1 => by
    rw [show l + (d + 1) = (l + d) + 1 by omega, lpZ_succ, lpZ_stay h d, ← lpZ_succ]
    exact h
/-- behind as many laps as there are vertices nothing more comes -/
theorem lpZ_fix {σ : Nat → Int} {W v n : Nat} (hv : v < n) (h : ∀ f, f < (σ 1).toNat → (σ (110 + f)).toNat < n ∧ (σ (150 + f)).toNat < n) : ∃ l, l < n ∧ lpZ σ W (2 ^ v) (l + 1) = lpZ σ W (2 ^ v) l := by
  apply Classical.byContradiction
  intro hno
  have hs : 2 ^ v < 2 ^ n := Nat.pow_lt_pow_right (by decide) hv
  have key : ∀ l, l ≤ n → (l : Int) + 1 ≤ cntB (lpZ σ W (2 ^ v) l) n := by
    intro l
    induction l with
    | zero =>
      intro _
      have := cntB_pos (s := 2 ^ v) (i := v) (by rw [Nat.testBit_two_pow]; simp) hv
      show ((0 : Nat) : Int) + 1 ≤ cntB (2 ^ v) n
      omega
    | succ l ih =>
      intro hl
      have h1 := ih (by omega)
      have h2 := cntB_lt (s := lpZ σ W (2 ^ v) l) (t := lpZ σ W (2 ^ v) (l + 1)) (fun i hi => lapE_sub σ W _ _ hi) (lpZ_lt hs h l) (lpZ_lt hs h (l + 1)) (fun e => hno ⟨l, by omega, e.symm⟩)
      omega
  have h1 := key n (Nat.le_refl _)
  have h2 := (cntB_n (lpZ σ W (2 ^ v) n) n).2
  omega
theorem tgZ_of {σ : Nat → Int} {W v l : Nat} (hv : v < (σ 0).toNat) (h : ∀ f, f < (σ 1).toNat → (σ (110 + f)).toNat < (σ 0).toNat ∧ (σ (150 + f)).toNat < (σ 0).toNat) (hl : lpZ σ W (2 ^ v) (l + 1) = lpZ σ W (2 ^ v) l ∨ (σ 0).toNat ≤ l) : lpZ σ W (2 ^ v) l = tgZ σ W v := by
  obtain ⟨j, hj, e⟩ := lpZ_fix (W := W) hv h
  have h1 : ∀ m, j ≤ m → lpZ σ W (2 ^ v) m = lpZ σ W (2 ^ v) j := fun m hm => by
    have := lpZ_stay e (m - j)
    rwa [show j + (m - j) = m by omega] at this
  unfold tgZ
  rw [h1 (σ 0).toNat (by omega)]
  by_cases c : j ≤ l
  · exact h1 l c
  · have hl : lpZ σ W (2 ^ v) (l + 1) = lpZ σ W (2 ^ v) l := by
      rcases hl with hl | hl
      · exact hl
      · omega
    have := lpZ_stay hl (j - l)
    rw [show l + (j - l) = j by omega] at this
    exact this.symm
theorem VS.ends {σ : Nat → Int} (h : VS σ) : ∀ f, f < (σ 1).toNat → (σ (110 + f)).toNat < (σ 0).toNat ∧ (σ (150 + f)).toNat < (σ 0).toNat := fun f hf => by
  have := h.a hf
  have := h.b hf
  omega
theorem VS.ends14 {σ : Nat → Int} (h : VS σ) : ∀ f, f < (σ 1).toNat → (σ (110 + f)).toNat < 14 ∧ (σ (150 + f)).toNat < 14 := fun f hf => by
  have := h.ends f hf
  have := ms_0 h.M
  omega
section TG
variable {I : Ii} {J : Jj}
theorem s_together {x y : Int} {v W : Nat} (hV : VS (I 2)) (hx : x = (v : Int)) (hv : v < (I 2 0).toNat) (hy : y = (W : Int)) (hW : W < 16384) : wp_X12_together x y I J (fun r _ _ => r = ((tgZ (I 2) W v : Nat) : Int)) := by
  subst hx hy
  have b0 := ms_0 hV.M
  have b1 := ms_1 hV.M
  have p0 := pow14 (v := v) (by omega)
  unfold wp_X12_together
  rw [shlT1 (by omega)]
  refine ⟨15, loopN (L := fun n (s : Nat) l => L_X12_together_7 (v : Int) (W : Int) _ n (s : Int) l I J) (fun l s => s = lpZ (I 2) W (2 ^ v) l) (N := (I 2 0).toNat) (fun n l s hl hs k => ?_) 15 0 (2 ^ v) (by omega) (by omega) rfl⟩
  refine ls_X12_together_7 ?_
  generalize hr : L_X12_together_7 (v : Int) (W : Int) _ n = r at k ⊢
  unfold Lb_X12_together_7
  refine ⟨rgK (by omega), rgK (by omega), fun c => ?_, fun c => ?_⟩
  · rw [hs, show l = (I 2 0).toNat by omega]; rfl
  · refine ⟨41, loopN (L := fun n (s : Nat) e => L_X12_together_21 (v : Int) (W : Int) _ r n (s : Int) (l : Int) e I J) (fun e t => t = lapE (I 2) W s e) (N := (I 2 1).toNat) (fun n e t he ht k2 => ?_) 41 0 s (by omega) (by omega) rfl⟩
    refine ls_X12_together_21 ?_
    generalize hr2 : L_X12_together_21 (v : Int) (W : Int) _ r n = r2 at k2 ⊢
    have ht14 : t < 2 ^ 14 := by
      rw [ht, hs]
      exact lapE_lt (lpZ_lt (by omega) hV.ends14 l) (fun f hf => hV.ends14 f (by omega))
    unfold Lb_X12_together_21
    refine ⟨rgK (by omega), rgK (by omega), fun c2 => k (by omega) _ ?_, fun c2 => ?_⟩
    · rw [ht, hs, lpZ_succ, show e = (I 2 1).toNat by omega]
    · have he' : e < (I 2 1).toNat := by omega
      have h1 := hV.a he'
      have h2 := hV.b he'
      rw [show (110 + (e : Int)).toNat = 110 + e by omega, show (150 + (e : Int)).toNat = 150 + e by omega]
      have ea : I 2 (110 + e) = ((I 2 (110 + e)).toNat : Int) := by omega
      have eb : I 2 (150 + e) = ((I 2 (150 + e)).toNat : Int) := by omega
      have pa := pow14 (v := (I 2 (110 + e)).toNat) (by omega)
      have pb := pow14 (v := (I 2 (150 + e)).toNat) (by omega)
      have sa : shlZ 1 (I 2 (110 + e)) = ((2 ^ (I 2 (110 + e)).toNat : Nat) : Int) := by rw [ea]; exact shlT1 (by omega)
      have sb : shlZ 1 (I 2 (150 + e)) = ((2 ^ (I 2 (150 + e)).toNat : Nat) : Int) := by rw [eb]; exact shlT1 (by omega)
      have nx : ∀ t' : Nat, t' = stE (I 2) W t e → r2 (t' : Int) (l : Int) ((e : Int) + 1) I J := fun t' h => k2 he' t' (by rw [h, ht]; rfl)
      generalize hA : (I 2 (110 + e)).toNat = A at ea eb pa pb sa sb
      generalize hB : (I 2 (150 + e)).toNat = B at ea eb pa pb sa sb
      have hst : stE (I 2) W t e = if (W.testBit A = true ∧ W.testBit B = true) ∧ (t.testBit A = true ∨ t.testBit B = true) then t ||| (2 ^ A ||| 2 ^ B) else t := by unfold stE; rw [hA, hB]
      have tA : (2 ^ A).testBit A = true := by rw [Nat.testBit_two_pow]; simp
      refine ⟨by omega, by omega, fr_X12_hasBit (s_hasBit (s := W) (k := A) rfl ea (by omega) (by omega)) (fun q1 g1 => bo0 g1 (fun d => nx t ?_) (fun d => ?_))⟩
      · rw [hst, if_neg (fun z => d z.1.1)]
      · refine fr_X12_hasBit (s_hasBit (s := W) (k := B) rfl eb (by omega) (by omega)) (fun q2 g2 => bo1 g2 (fun d2 => ?_) (fun d2 => nx t ?_))
        · refine fr_X12_hasBit (s_hasBit (s := t) (k := A) rfl ea (by omega) (by omega)) (fun q3 g3 => bo0 g3 (fun d3 => ?_) (fun d3 => ?_)) <;> unfold B_X12_together_94
          · refine fr_X12_hasBit (s_hasBit (s := t) (k := B) rfl eb (by omega) (by omega)) (fun q4 g4 => bo0 g4 (fun d4 => nx t ?_) (fun d4 => ?_))
            · rw [hst, if_neg (fun z => z.2.elim d3 d4)]
            · rw [sa, orZ_nat (by omega) (by omega)]
              refine nx _ ?_
              rw [hst, if_pos ⟨⟨d, d2⟩, Or.inr d4⟩]
              apply Nat.eq_of_testBit_eq
              intro i
              simp only [Nat.testBit_or, Nat.testBit_two_pow]
              by_cases q : B = i
              · subst q; rw [d4]; simp
              · simp [q]
          · have tb : (t ||| 2 ^ B).testBit B = true := by rw [Nat.testBit_or, Nat.testBit_two_pow]; simp
            have o1 : t ||| 2 ^ B < 16384 := or14 (by omega) pb
            rw [sb, orZ_nat (by omega) (by omega)]
            refine fr_X12_hasBit (s_hasBit (s := t ||| 2 ^ B) (k := B) rfl eb (by omega) (by omega)) (fun q4 g4 => bo0 g4 (fun d4 => absurd tb d4) (fun d4 => ?_))
            rw [sa, orZ_nat (by omega) (by omega)]
            refine nx _ ?_
            rw [hst, if_pos ⟨⟨d, d2⟩, Or.inl d3⟩, Nat.or_assoc, Nat.or_comm (2 ^ B)]
        · rw [hst, if_neg (fun z => d2 z.1.2)]
variable {k : Nat} {σ : Nat → Int} {nm : Nat → Int64}
theorem c_spread {x y : Int} {v W : Nat} (hk : gK k) (hV : VS σ) (hR : RG k I J σ nm) (hx : x = shlZ 1 (v : Int)) (hv : v < (σ 0).toNat) (hy : y = (W : Int)) (hW : W < 16384) : wp_X2_spread k x y I J (fun r _ _ => r = ((tgZ σ W v : Nat) : Int)) := by
  have b0 := ms_0 hV.M
  have b1 := ms_1 hV.M
  have p0 := pow14 (v := v) (by omega)
  have hm := hR.m
  rw [shlT1 (by omega)] at hx
  subst hx hy
  refine ⟨hk, 15, loopN (L := fun n (s : Nat) l => L_X2_spread_5 k ((2 ^ v : Nat) : Int) (W : Int) _ n (s : Int) l I J) (fun l s => s = lpZ σ W (2 ^ v) l) (N := 14) (fun n l s hl hs kk => ?_) 15 0 (2 ^ v) (by omega) (by omega) rfl⟩
  refine ls_X2_spread_5 ?_
  generalize hr : L_X2_spread_5 k ((2 ^ v : Nat) : Int) (W : Int) _ n = r at kk ⊢
  unfold Lb_X2_spread_5
  have hs14 : s < 2 ^ 14 := by rw [hs]; exact lpZ_lt (by omega) hV.ends14 l
  refine ⟨rgK (by omega), fun c => ?_, fun c => ?_⟩
  · rw [hs, tgZ_of hv hV.ends (Or.inr (by omega))]
  · refine ⟨41, loopN (L := fun n (t : Nat) e => L_X2_spread_18 k ((2 ^ v : Nat) : Int) (W : Int) _ r n (t : Int) (l : Int) (s : Int) e I J) (fun e t => t = lapE σ W s e) (N := (σ 1).toNat) (fun n e t he ht k2 => ?_) 41 0 s (by omega) (by omega) rfl⟩
    refine ls_X2_spread_18 ?_
    generalize hr2 : L_X2_spread_18 k ((2 ^ v : Nat) : Int) (W : Int) _ r n = r2 at k2 ⊢
    have ht14 : t < 2 ^ 14 := by
      rw [ht]
      exact lapE_lt hs14 (fun f hf => hV.ends14 f (by omega))
    unfold Lb_X2_spread_18
    refine ⟨rgK (by omega), rgK (by omega), fun c2 => ⟨rgK (by omega), rgK (by omega), fun d => kk (by omega) _ ?_, fun d => ?_⟩, fun c2 => ?_⟩
    · rw [ht, hs, lpZ_succ, show e = (σ 1).toNat by omega]
    · have e1 : lpZ σ W (2 ^ v) (l + 1) = lpZ σ W (2 ^ v) l := by
        rw [lpZ_succ, ← hs, ← show e = (σ 1).toNat by omega, ← ht]; omega
      rw [← tgZ_of hv hV.ends (Or.inl e1), ← hs, ← d]
    · have he' : e < (σ 1).toNat := by omega
      have h1 := hV.a he'
      have h2 := hV.b he'
      have pa := pow14 (v := (σ (110 + e)).toNat) (by omega)
      have pb := pow14 (v := (σ (150 + e)).toNat) (by omega)
      have po := or14 pa pb
      have nx : ∀ t' : Nat, t' = stE σ W t e → r2 (t' : Int) (l : Int) (s : Int) ((e : Int) + 1) I J := fun t' h => k2 he' t' (by rw [h, ht]; rfl)
      refine endsOf_of hk hV hR rfl he' ?_
      have hst : stE σ W t e = if (W.testBit (σ (110 + e)).toNat = true ∧ W.testBit (σ (150 + e)).toNat = true) ∧ (t.testBit (σ (110 + e)).toNat = true ∨ t.testBit (σ (150 + e)).toNat = true) then t ||| (2 ^ (σ (110 + e)).toNat ||| 2 ^ (σ (150 + e)).toNat) else t := rfl
      generalize (σ (110 + e)).toNat = A at pa po hst
      generalize (σ (150 + e)).toNat = B at pb po hst
      have w1 : andZ ((2 ^ A ||| 2 ^ B : Nat) : Int) (xorZ (W : Int) (-1)) = 0 ↔ (W.testBit A = true ∧ W.testBit B = true) := by
        rw [andn_zero (by omega)]
        constructor
        · intro h
          exact ⟨h A (by simp [Nat.testBit_or, Nat.testBit_two_pow]), h B (by simp [Nat.testBit_or, Nat.testBit_two_pow])⟩
        · intro h i hi
          simp only [Nat.testBit_or, Nat.testBit_two_pow, Bool.or_eq_true, decide_eq_true_eq] at hi
          rcases hi with rfl | rfl
          · exact h.1
          · exact h.2
      have w2 : andZ ((2 ^ A ||| 2 ^ B : Nat) : Int) (t : Int) = 0 ↔ ¬ (t.testBit A = true ∨ t.testBit B = true) := by
        rw [and_zero (by omega)]
        constructor
        · intro h z
          have q1 := h A (by simp [Nat.testBit_or, Nat.testBit_two_pow])
          have q2 := h B (by simp [Nat.testBit_or, Nat.testBit_two_pow])
          rw [q1, q2] at z
          simp at z
        · intro h i hi
          simp only [Nat.testBit_or, Nat.testBit_two_pow, Bool.or_eq_true, decide_eq_true_eq] at hi
          cases c : t.testBit i
          · rfl
          · rcases hi with rfl | rfl
            · exact absurd (Or.inl c) h
            · exact absurd (Or.inr c) h
      refine ⟨fun d => nx t ?_, fun d => ⟨fun d2 => nx t ?_, fun d2 => ?_⟩⟩
      · rw [hst, if_neg (fun z => d (w1.mpr z.1))]
      · rw [hst, if_neg (fun z => (w2.mp d2) z.2)]
      · rw [orZ_nat (by omega) (by omega)]
        refine nx _ ?_
        rw [hst, if_pos ⟨w1.mp d, Classical.byContradiction (fun z => d2 (w2.mpr z))⟩]
end TG
