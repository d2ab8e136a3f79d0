/-! ===== parts and groups share all ===== -/
theorem sm_wOf {σ : Nat → Int} (hV : VS σ) : sm (fun q => wOf σ (q : Int)) (σ 2).toNat = allW σ := by
  unfold wOf allW
  rw [smx_swap (fun q v => if σ (21 + v) = (q : Int) then σ (7 + v) else 0)]
  refine sm_cong (fun v hv => ?_)
  have := hV.p (v := v) hv
  exact smx_one (by omega)
theorem sm_out {σ : Nat → Int} (hV : VS σ) : sm (fun q => outZ σ (inP σ (q : Int))) (σ 2).toNat = 2 * cutZ σ := by
  have e2 : 2 * cutZ σ = cutZ σ + cutZ σ := by omega
  rw [e2]
  unfold outZ cutZ
  rw [smx_swap (fun q e => if (inP σ (q : Int)).testBit (σ (110 + e)).toNat = (inP σ (q : Int)).testBit (σ (150 + e)).toNat then 0 else σ (190 + e)), ← sm_add]
  refine sm_cong (fun e he => ?_)
  have ha := hV.a he
  have hb := hV.b he
  have pa := hV.p (v := (σ (110 + e)).toNat) (by omega)
  have pb := hV.p (v := (σ (150 + e)).toNat) (by omega)
  have ee : ∀ q : Int, ((inP σ q).testBit (σ (110 + e)).toNat = (inP σ q).testBit (σ (150 + e)).toNat) ↔ (σ (21 + (σ (110 + e)).toNat) = q ↔ σ (21 + (σ (150 + e)).toNat) = q) := fun q => bool_eq (inP_bit q (by omega)) (inP_bit q (by omega))
  unfold cutE
  generalize σ (21 + (σ (110 + e)).toNat) = A at *
  generalize σ (21 + (σ (150 + e)).toNat) = B at *
  by_cases c : A = B
  · rw [if_neg (fun z => z c)]
    refine (sm_none (fun q _ => if_pos ((ee q).mpr (by rw [c])))).trans (by omega)
  · rw [if_pos c, sm_pick2 (x := A.toNat) (y := B.toNat) (by omega) (by omega) (by omega) (fun q _ q1 q2 => if_pos ((ee q).mpr ⟨fun z => by omega, fun z => by omega⟩))]
    rw [if_neg (fun z => ((ee _).mp z).mp (by omega) |> fun w => c (by omega)), if_neg (fun z => ((ee _).mp z).mpr (by omega) |> fun w => c (by omega))]
/-- the parts below q -/
def lowP (σ : Nat → Int) (q : Nat) : Nat := bset (fun v => decide (σ (21 + v) < (q : Int))) (σ 0).toNat
def lowG (σ : Nat → Int) (g : Nat) : Nat := bset (fun v => decide (gAt σ v < (g : Int))) (σ 0).toNat
theorem lowP_0 {σ : Nat → Int} (hV : VS σ) : lowP σ 0 = 0 := by
  apply Nat.eq_of_testBit_eq
  intro i
  unfold lowP
  rw [bset_bit, Nat.zero_testBit]
  by_cases hi : i < (σ 0).toNat
  · have := hV.p hi
    simp [hi]
    omega
  · simp [hi]
theorem lowP_s {σ : Nat → Int} (q : Nat) : lowP σ q ||| inP σ (q : Int) = lowP σ (q + 1) ∧ lowP σ q &&& inP σ (q : Int) = 0 := by
  constructor
  · apply Nat.eq_of_testBit_eq
    intro i
    unfold lowP inP
    rw [Nat.testBit_or, bset_bit, bset_bit, bset_bit, ← Bool.and_or_distrib_left]
    congr 1
    rw [← Bool.decide_or]
    exact decide_eq_decide.mpr (by omega)
  · apply Nat.eq_of_testBit_eq
    intro i
    unfold lowP inP
    rw [Nat.testBit_and, bset_bit, bset_bit, Nat.zero_testBit]
    by_cases c : σ (21 + i) < (q : Int)
    · have : ¬ σ (21 + i) = (q : Int) := by omega
      simp [this]
    · simp [c]
theorem lowP_e {σ : Nat → Int} (hV : VS σ) : lowP σ (σ 2).toNat = 2 ^ (σ 0).toNat - 1 := by
  apply Nat.eq_of_testBit_eq
  intro i
  unfold lowP
  rw [bset_bit, Nat.testBit_two_pow_sub_one]
  by_cases hi : i < (σ 0).toNat
  · have := hV.p hi
    simp [hi]
    omega
  · simp [hi]
theorem lowG_0 {σ : Nat → Int} (hV : VS σ) : lowG σ 0 = 0 := by
  apply Nat.eq_of_testBit_eq
  intro i
  unfold lowG
  rw [bset_bit, Nat.zero_testBit]
  by_cases hi : i < (σ 0).toNat
  · have := hV.g hi
    simp [hi]
    omega
  · simp [hi]
theorem lowG_s {σ : Nat → Int} (q : Nat) : lowG σ q ||| memG σ (q : Int) = lowG σ (q + 1) ∧ lowG σ q &&& memG σ (q : Int) = 0 := by
  constructor
  · apply Nat.eq_of_testBit_eq
    intro i
    unfold lowG memG
    rw [Nat.testBit_or, bset_bit, bset_bit, bset_bit, ← Bool.and_or_distrib_left]
    congr 1
    rw [← Bool.decide_or]
    exact decide_eq_decide.mpr (by omega)
  · apply Nat.eq_of_testBit_eq
    intro i
    unfold lowG memG
    rw [Nat.testBit_and, bset_bit, bset_bit, Nat.zero_testBit]
    by_cases c : gAt σ i < (q : Int)
    · have : ¬ gAt σ i = (q : Int) := by omega
      simp [this]
    · simp [c]
theorem lowG_e {σ : Nat → Int} (hV : VS σ) : lowG σ (grs σ).toNat = 2 ^ (σ 0).toNat - 1 := by
  apply Nat.eq_of_testBit_eq
  intro i
  unfold lowG
  rw [bset_bit, Nat.testBit_two_pow_sub_one]
  by_cases hi : i < (σ 0).toNat
  · have := hV.g hi
    simp [hi]
    omega
  · simp [hi]
/-- a group lies in its part -/
theorem mem_in {σ : Nat → Int} (hV : VS σ) (g : Int) : inP σ (gPt σ g) &&& memG σ g = memG σ g := by
  apply Nat.eq_of_testBit_eq
  intro i
  unfold inP memG
  rw [Nat.testBit_and, bset_bit, bset_bit]
  by_cases hi : i < (σ 0).toNat
  · by_cases c : gAt σ i = g
    · have : σ (21 + i) = gPt σ g := by rw [← c, hV.gp hi]
      simp [hi, c, this]
    · simp [c]
  · simp [hi]
