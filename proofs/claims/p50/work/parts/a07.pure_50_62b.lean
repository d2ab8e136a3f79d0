/-! ===== the reference's row: what holds of its numbers ===== -/
/-- the bounds of the numbers of the reference's row -/
def MS (σ : Nat → Int) : Prop := (0 ≤ σ 0 ∧ σ 0 ≤ 14) ∧ (0 ≤ σ 1 ∧ σ 1 ≤ 40) ∧ (2 ≤ σ 2 ∧ σ 2 ≤ 4) ∧ (0 ≤ σ 3 ∧ σ 3 ≤ 99) ∧ (0 ≤ σ 4 ∧ σ 4 ≤ 99) ∧ (0 ≤ σ 5 ∧ σ 5 ≤ 4) ∧ (0 ≤ σ 6 ∧ σ 6 ≤ 1000000000) ∧
  (∀ v, v < 14 → 0 ≤ σ (7 + v) ∧ σ (7 + v) ≤ 99) ∧ (∀ v, v < 14 → 0 ≤ σ (21 + v) ∧ σ (21 + v) ≤ 3) ∧ (∀ t, t < 70 → 0 ≤ σ (35 + t) ∧ σ (35 + t) ≤ 13) ∧ (∀ l, l < 5 → 0 ≤ σ (105 + l) ∧ σ (105 + l) ≤ 14) ∧
  (∀ e, e < 40 → 0 ≤ σ (110 + e) ∧ σ (110 + e) ≤ 13) ∧ (∀ e, e < 40 → 0 ≤ σ (150 + e) ∧ σ (150 + e) ≤ 13) ∧ (∀ e, e < 40 → 0 ≤ σ (190 + e) ∧ σ (190 + e) ≤ 99) ∧ (∀ k, k < 120 → 0 ≤ σ (230 + k) ∧ σ (230 + k) ≤ 1000000000)
section MSF
variable {σ : Nat → Int}
theorem ms_0 (h : MS σ) : 0 ≤ σ 0 ∧ σ 0 ≤ 14 := h.1
theorem ms_1 (h : MS σ) : 0 ≤ σ 1 ∧ σ 1 ≤ 40 := h.2.1
theorem ms_2 (h : MS σ) : 2 ≤ σ 2 ∧ σ 2 ≤ 4 := h.2.2.1
theorem ms_3 (h : MS σ) : 0 ≤ σ 3 ∧ σ 3 ≤ 99 := h.2.2.2.1
theorem ms_4 (h : MS σ) : 0 ≤ σ 4 ∧ σ 4 ≤ 99 := h.2.2.2.2.1
theorem ms_5 (h : MS σ) : 0 ≤ σ 5 ∧ σ 5 ≤ 4 := h.2.2.2.2.2.1
theorem ms_6 (h : MS σ) : 0 ≤ σ 6 ∧ σ 6 ≤ 1000000000 := h.2.2.2.2.2.2.1
theorem ms_w (h : MS σ) (v : Nat) (hv : v < 14) : 0 ≤ σ (7 + v) ∧ σ (7 + v) ≤ 99 := h.2.2.2.2.2.2.2.1 v hv
theorem ms_p (h : MS σ) (v : Nat) (hv : v < 14) : 0 ≤ σ (21 + v) ∧ σ (21 + v) ≤ 3 := h.2.2.2.2.2.2.2.2.1 v hv
theorem ms_g (h : MS σ) (t : Nat) (ht : t < 70) : 0 ≤ σ (35 + t) ∧ σ (35 + t) ≤ 13 := h.2.2.2.2.2.2.2.2.2.1 t ht
theorem ms_n (h : MS σ) (l : Nat) (hl : l < 5) : 0 ≤ σ (105 + l) ∧ σ (105 + l) ≤ 14 := h.2.2.2.2.2.2.2.2.2.2.1 l hl
theorem ms_a (h : MS σ) (e : Nat) (he : e < 40) : 0 ≤ σ (110 + e) ∧ σ (110 + e) ≤ 13 := h.2.2.2.2.2.2.2.2.2.2.2.1 e he
theorem ms_b (h : MS σ) (e : Nat) (he : e < 40) : 0 ≤ σ (150 + e) ∧ σ (150 + e) ≤ 13 := h.2.2.2.2.2.2.2.2.2.2.2.2.1 e he
theorem ms_h (h : MS σ) (e : Nat) (he : e < 40) : 0 ≤ σ (190 + e) ∧ σ (190 + e) ≤ 99 := h.2.2.2.2.2.2.2.2.2.2.2.2.2.1 e he
theorem ms_e (h : MS σ) (k : Nat) (hk : k < 120) : 0 ≤ σ (230 + k) ∧ σ (230 + k) ≤ 1000000000 := h.2.2.2.2.2.2.2.2.2.2.2.2.2.2 k hk
end MSF
/-- the sum of f 0 .. f (n - 1) -/
def sm (f : Nat → Int) : Nat → Int
  | 0 => 0
  | n + 1 => sm f n + f n
theorem sm_succ (f : Nat → Int) (n : Nat) : sm f (n + 1) = sm f n + f n := rfl
theorem sm_bound {f : Nat → Int} {c : Int} : ∀ {n : Nat}, (∀ k, k < n → 0 ≤ f k ∧ f k ≤ c) → 0 ≤ sm f n ∧ sm f n ≤ c * n
  | 0, _ => by simp [sm]
  | n + 1, h => by
    have h1 := sm_bound (n := n) (fun k hk => h k (by omega))
    have h2 := h n (by omega)
    have e : c * ((n + 1 : Nat) : Int) = c * (n : Int) + c := by rw [Int.natCast_succ, Int.mul_add, Int.mul_one]
    rw [sm_succ, e]
    omega
theorem sm_cong {f g : Nat → Int} : ∀ {n : Nat}, (∀ k, k < n → f k = g k) → sm f n = sm g n
  | 0, _ => rfl
  | n + 1, h => by rw [sm_succ, sm_succ, sm_cong (fun k hk => h k (by omega)), h n (by omega)]
/-- an edge's ends lie in different parts -/
abbrev cutE (σ : Nat → Int) (e : Nat) : Prop := σ (21 + (σ (110 + e)).toNat) ≠ σ (21 + (σ (150 + e)).toNat)
theorem tb_iff (n k : Nat) : ((n / 2 ^ k) &&& 1 : Nat) = 1 ↔ n.testBit k = true := by
  rw [Nat.testBit_eq_decide_div_mod_eq, decide_eq_true_eq, Nat.and_one_is_mod]
def cutZ (σ : Nat → Int) : Int := sm (fun e => if cutE σ e then σ (190 + e) else 0) (σ 1).toNat
def allW (σ : Nat → Int) : Int := sm (fun v => σ (7 + v)) (σ 0).toNat
def allE (σ : Nat → Int) : Int := sm (fun e => σ (190 + e)) (σ 1).toNat
theorem ms_g2 {σ : Nat → Int} (h : MS σ) (a b : Nat) (hab : a + b < 70) : 0 ≤ σ (35 + a + b) ∧ σ (35 + a + b) ≤ 13 := by rw [Nat.add_assoc]; exact ms_g h (a + b) hab
/-- a set of numbers below n, as bits -/
def bset (c : Nat → Bool) : Nat → Nat
  | 0 => 0
  | n + 1 => bset c n ||| (if c n then 1 else 0) * 2 ^ n
theorem bset_succ (c : Nat → Bool) (n : Nat) : bset c (n + 1) = bset c n ||| (if c n then 1 else 0) * 2 ^ n := rfl
theorem bset_lt (c : Nat → Bool) : ∀ n, bset c n < 2 ^ n
  | 0 => by simp [bset]
  | n + 1 => by
    have h := bset_lt c n
    rw [bset_succ]
    apply Nat.or_lt_two_pow
    · rw [Nat.pow_succ]; omega
    · split
      · rw [Nat.one_mul, Nat.pow_succ]; have := Nat.two_pow_pos n; omega
      · rw [Nat.zero_mul]; exact Nat.two_pow_pos _
theorem bset_lt14 (c : Nat → Bool) {n : Nat} (h : n ≤ 14) : bset c n < 16384 := Nat.lt_of_lt_of_le (bset_lt c n) (Nat.pow_le_pow_right (by decide) h)
theorem pow_le14 {n : Nat} (h : n ≤ 14) : 1 ≤ 2 ^ n ∧ 2 ^ n ≤ 16384 := ⟨Nat.two_pow_pos n, by have : 2 ^ n ≤ 2 ^ 14 := Nat.pow_le_pow_right (by decide) h; omega⟩
def gAt (σ : Nat → Int) (v : Nat) : Int := σ (35 + 14 * (σ 5).toNat + v)
def grs (σ : Nat → Int) : Int := σ (105 + (σ 5).toNat)
theorem gAt_b {σ : Nat → Int} (h : MS σ) {v : Nat} (hv : v < 14) : 0 ≤ gAt σ v ∧ gAt σ v ≤ 13 := ms_g2 h _ _ (by have := ms_5 h; omega)
theorem grs_b {σ : Nat → Int} (h : MS σ) : 0 ≤ grs σ ∧ grs σ ≤ 14 := ms_n h _ (by have := ms_5 h; omega)
def wOf (σ : Nat → Int) (p : Int) : Int := sm (fun v => if σ (21 + v) = p then σ (7 + v) else 0) (σ 0).toNat
def limZ (σ : Nat → Int) : Int := (allW σ + σ 2 - 1) / σ 2 + σ 3
def debtZ (σ : Nat → Int) (p : Int) : Int := if 0 < wOf σ p - limZ σ then wOf σ p - limZ σ else 0
def debtsZ (σ : Nat → Int) : Int := sm (fun p => debtZ σ (p : Int)) (σ 2).toNat
def edgeZ (σ : Nat → Int) (a b : Int) : Nat → Int
  | 0 => -1
  | e + 1 => if (σ (110 + e) = a ∧ σ (150 + e) = b) ∨ (σ (110 + e) = b ∧ σ (150 + e) = a) then (e : Int) else edgeZ σ a b e
def outZ (σ : Nat → Int) (s : Nat) : Int := sm (fun e => if s.testBit (σ (110 + e)).toNat = s.testBit (σ (150 + e)).toNat then 0 else σ (190 + e)) (σ 1).toNat
def inP (σ : Nat → Int) (p : Int) : Nat := bset (fun v => decide (σ (21 + v) = p)) (σ 0).toNat
def memG (σ : Nat → Int) (g : Int) : Nat := bset (fun v => decide (gAt σ v = g)) (σ 0).toNat
def gW (σ : Nat → Int) (g : Int) : Int := sm (fun v => if gAt σ v = g then σ (7 + v) else 0) (σ 0).toNat
def joinZ (σ : Nat → Int) (g h : Int) : Int := sm (fun e => if (gAt σ (σ (110 + e)).toNat = g ∧ gAt σ (σ (150 + e)).toNat = h) ∨ (gAt σ (σ (110 + e)).toNat = h ∧ gAt σ (σ (150 + e)).toNat = g) then σ (190 + e) else 0) (σ 1).toNat
def hvZ (σ : Nat → Int) : Nat → Nat
  | 0 => 0
  | p + 1 => if wOf σ (hvZ σ p : Int) < wOf σ ((p + 1 : Nat) : Int) then p + 1 else hvZ σ p
theorem hvZ_le (σ : Nat → Int) : ∀ p, hvZ σ p ≤ p
  | 0 => Nat.le_refl 0
  | p + 1 => by
    have h := hvZ_le σ p
    unfold hvZ
    split <;> omega
/-- the first vertex of a group -/
def fstV (σ : Nat → Int) (g : Int) : Nat := fa_first (fun v => decide (gAt σ v = g)) 14
def gP (σ : Nat → Int) (g : Int) : Int := σ (21 + fstV σ g)
theorem sm_le {f : Nat → Int} {m n : Nat} (h : m ≤ n) (h0 : ∀ k, k < n → 0 ≤ f k) : sm f m ≤ sm f n := by
  induction n with
  | zero => have : m = 0 := by omega
            subst this; exact Int.le_refl _
  | succ n ih =>
    rcases Nat.lt_or_ge m (n + 1) with q | q
    · have := ih (by omega) (fun k hk => h0 k (by omega))
      have := h0 n (by omega)
      rw [sm_succ]; omega
    · have : m = n + 1 := by omega
      subst this; exact Int.le_refl _
theorem allW_b {σ : Nat → Int} (h : MS σ) : 0 ≤ allW σ ∧ allW σ ≤ 1386 := by
  have b := ms_0 h
  have := sm_bound (f := fun v => σ (7 + v)) (c := 99) (n := (σ 0).toNat) (fun k hk => ms_w h k (by omega))
  unfold allW; omega
theorem allE_b {σ : Nat → Int} (h : MS σ) : 0 ≤ allE σ ∧ allE σ ≤ 3960 := by
  have b := ms_1 h
  have := sm_bound (f := fun e => σ (190 + e)) (c := 99) (n := (σ 1).toNat) (fun k hk => ms_h h k (by omega))
  unfold allE; omega
theorem cutZ_b {σ : Nat → Int} (h : MS σ) : 0 ≤ cutZ σ ∧ cutZ σ ≤ 3960 := by
  have b := ms_1 h
  have := sm_bound (f := fun e => if cutE σ e then σ (190 + e) else 0) (c := 99) (n := (σ 1).toNat) (fun k hk => by have := ms_h h k (by omega); split <;> omega)
  unfold cutZ; omega
theorem wOf_b {σ : Nat → Int} (h : MS σ) (p : Int) : 0 ≤ wOf σ p ∧ wOf σ p ≤ 1386 := by
  have b := ms_0 h
  have := sm_bound (f := fun v => if σ (21 + v) = p then σ (7 + v) else 0) (c := 99) (n := (σ 0).toNat) (fun k hk => by have := ms_w h k (by omega); split <;> omega)
  unfold wOf; omega
theorem gW_b {σ : Nat → Int} (h : MS σ) (g : Int) : 0 ≤ gW σ g ∧ gW σ g ≤ 1386 := by
  have b := ms_0 h
  have := sm_bound (f := fun v => if gAt σ v = g then σ (7 + v) else 0) (c := 99) (n := (σ 0).toNat) (fun k hk => by have := ms_w h k (by omega); split <;> omega)
  unfold gW; omega
theorem outZ_b {σ : Nat → Int} (h : MS σ) (s : Nat) : 0 ≤ outZ σ s ∧ outZ σ s ≤ 3960 := by
  have b := ms_1 h
  have := sm_bound (f := fun e => if s.testBit (σ (110 + e)).toNat = s.testBit (σ (150 + e)).toNat then 0 else σ (190 + e)) (c := 99) (n := (σ 1).toNat) (fun k hk => by have := ms_h h k (by omega); split <;> omega)
  unfold outZ; omega
theorem joinZ_b {σ : Nat → Int} (h : MS σ) (g k : Int) : 0 ≤ joinZ σ g k ∧ joinZ σ g k ≤ 3960 := by
  have b := ms_1 h
  have := sm_bound (f := fun e => if (gAt σ (σ (110 + e)).toNat = g ∧ gAt σ (σ (150 + e)).toNat = k) ∨ (gAt σ (σ (110 + e)).toNat = k ∧ gAt σ (σ (150 + e)).toNat = g) then σ (190 + e) else 0) (c := 99) (n := (σ 1).toNat) (fun k hk => by have := ms_h h k (by omega); split <;> omega)
  unfold joinZ; omega
theorem limZ_b {σ : Nat → Int} (h : MS σ) : 0 ≤ limZ σ ∧ limZ σ ≤ 2000 := by
  have h1 := allW_b h
  have h2 := ms_2 h
  have h3 := ms_3 h
  unfold limZ
  have : σ 2 = 2 ∨ σ 2 = 3 ∨ σ 2 = 4 := by omega
  rcases this with q | q | q <;> (rw [q]; omega)
theorem debtZ_b {σ : Nat → Int} (h : MS σ) (p : Int) : 0 ≤ debtZ σ p ∧ debtZ σ p ≤ 1386 := by
  have h1 := wOf_b h p
  have h2 := limZ_b h
  unfold debtZ; split <;> omega
theorem debtsZ_b {σ : Nat → Int} (h : MS σ) : 0 ≤ debtsZ σ ∧ debtsZ σ ≤ 5544 := by
  have b := ms_2 h
  have := sm_bound (f := fun p => debtZ σ (p : Int)) (c := 1386) (n := (σ 2).toNat) (fun k hk => debtZ_b h _)
  unfold debtsZ; omega
theorem edgeZ_b (σ : Nat → Int) (a b : Int) : ∀ n, -1 ≤ edgeZ σ a b n ∧ edgeZ σ a b n < n
  | 0 => by simp [edgeZ]
  | n + 1 => by
    have := edgeZ_b σ a b n
    unfold edgeZ
    split <;> omega
theorem inP_b {σ : Nat → Int} (h : MS σ) (p : Int) : inP σ p < 16384 := bset_lt14 _ (by have := ms_0 h; omega)
theorem memG_b {σ : Nat → Int} (h : MS σ) (g : Int) : memG σ g < 16384 := bset_lt14 _ (by have := ms_0 h; omega)

/-! ===== the reference's methods that change nothing: what they answer ===== -/
/-- a loop that counts up to N -/
theorem loopN {α : Type} {L : Nat → α → Int → Prop} (Inv : Nat → α → Prop) {N : Nat} (step : ∀ (n v : Nat) (a : α), v ≤ N → Inv v a → (v < N → ∀ a', Inv (v + 1) a' → L n a' ((v : Int) + 1)) → L (n + 1) a (v : Int)) : ∀ (n v : Nat) (a : α), v ≤ N → N + 1 ≤ v + n → Inv v a → L n a (v : Int) := by
  intro n
  induction n with
  | zero => intro v a h1 h2; omega
  | succ n ih =>
    intro v a h1 h2 h3
    refine step n v a h1 h3 (fun hv a' h => ?_)
    have h' := ih (v + 1) a' (by omega) (by omega) h
    rwa [show (((v + 1 : Nat)) : Int) = (v : Int) + 1 by omega] at h'
theorem lZ_rg {a : Int} (h : rg a) : (lZ a).toInt = a := lZ_toInt (by have := h.1; have := h.2; omega)
theorem rgK {z : Int} (h : -1000000000 ≤ z ∧ z ≤ 2000000000) : rg z := rgI (by omega) (by omega)
/-! ===== sets of vertices ===== -/
theorem bset_bit (c : Nat → Bool) : ∀ (n i : Nat), (bset c n).testBit i = (decide (i < n) && c i)
  | 0, i => by simp [bset]
  | n + 1, i => by
    rw [bset_succ, Nat.testBit_or, bset_bit c n i]
    by_cases hc : c n = true
    · rw [if_pos hc, Nat.one_mul, Nat.testBit_two_pow]
      by_cases h1 : i < n
      · have h2 : ¬ n = i := by omega
        simp [h1, h2]
        intro _; omega
      · by_cases h2 : i = n
        · subst h2
          simp [hc]
        · have h3 : ¬ n = i := by omega
          have h4 : ¬ i < n + 1 := by omega
          simp [h1, h3, h4]
    · rw [if_neg hc, Nat.zero_mul, Nat.zero_testBit]
      by_cases h1 : i < n
      · have h4 : i < n + 1 := by omega
        simp [h1, h4]
      · by_cases h2 : i = n
        · subst h2
          simp [hc]
        · have h4 : ¬ i < n + 1 := by omega
          simp [h1, h4]
/-- a number's bits, counted -/
def cntB (s n : Nat) : Int := sm (fun i => if s.testBit i then 1 else 0) n
theorem bset_cong {c d : Nat → Bool} : ∀ {n : Nat}, (∀ i, i < n → c i = d i) → bset c n = bset d n
  | 0, _ => rfl
  | n + 1, h => by rw [bset_succ, bset_succ, bset_cong (fun i hi => h i (by omega)), h n (by omega)]
theorem shlT {z : Int} {b : Bool} {v : Nat} (hz : z = if b then 1 else 0) (hv : v < 31) : shlZ z (v : Int) = (((if b then 1 else 0) * 2 ^ v : Nat) : Int) := by
  have h : 2 ^ v < 2147483648 := by
    have : 2 ^ v ≤ 2 ^ 30 := Nat.pow_le_pow_right (by decide) (by omega)
    omega
  subst hz
  cases b
  · have := shlZ_nat (a := 0) (k := v) (by omega) (by omega)
    exact this
  · have := shlZ_nat (a := 1) (k := v) (by omega) (by omega)
    exact this
theorem bset_next {c : Nat → Bool} {v : Nat} (hv : v < 14) {z : Int} (hz : z = if c v then 1 else 0) : orZ ((bset c v : Nat) : Int) (shlZ z (v : Int)) = ((bset c (v + 1) : Nat) : Int) := by
  have h1 := bset_lt14 c (n := v) (by omega)
  have h2 : 2 ^ v ≤ 2 ^ 14 := Nat.pow_le_pow_right (by decide) (by omega)
  rw [shlT hz (by omega), orZ_nat (by omega) (by split <;> omega)]
  rfl
section RV2
variable {I : Ii} {J : Jj}
/-- the ends of the cut edges below e -/
def bordZ (σ : Nat → Int) : Nat → Nat
  | 0 => 0
  | e + 1 => if cutE σ e then bordZ σ e ||| (2 ^ (σ (110 + e)).toNat ||| 2 ^ (σ (150 + e)).toNat) else bordZ σ e
theorem bordZ_succ (σ : Nat → Int) (e : Nat) : bordZ σ (e + 1) = if cutE σ e then bordZ σ e ||| (2 ^ (σ (110 + e)).toNat ||| 2 ^ (σ (150 + e)).toNat) else bordZ σ e := rfl
theorem bordZ_lt {σ : Nat → Int} (hM : MS σ) : ∀ e, e ≤ 40 → bordZ σ e < 2 ^ 14
  | 0, _ => by simp [bordZ]
  | e + 1, h => by
    have ih := bordZ_lt hM e (by omega)
    have h1 := ms_a hM e (by omega)
    have h2 := ms_b hM e (by omega)
    unfold bordZ
    split
    · refine Nat.or_lt_two_pow ih (Nat.or_lt_two_pow ?_ ?_) <;> exact Nat.pow_lt_pow_right (by decide) (by omega)
    · exact ih
/-- a group has a vertex -/
def hasV (σ : Nat → Int) (g : Int) : Prop := ∃ v, v < 14 ∧ gAt σ v = g
end RV2
/-! ===== the first vertex of a group, its part ===== -/
/-- the first number below n with c, n without one -/
def fv (c : Nat → Bool) : Nat → Nat
  | 0 => 0
  | n + 1 => if fv c n < n then fv c n else if c n then n else n + 1
theorem fv_le (c : Nat → Bool) : ∀ n, fv c n ≤ n
  | 0 => Nat.le_refl 0
  | n + 1 => by
    have := fv_le c n
    unfold fv
    split
    · omega
    · split <;> omega
theorem fv_lt {c : Nat → Bool} : ∀ {n : Nat}, fv c n < n → c (fv c n) = true
  | 0, h => by unfold fv at h; omega
  | n + 1, h => by
    unfold fv at h ⊢
    by_cases h1 : fv c n < n
    · rw [if_pos h1]; exact fv_lt h1
    · rw [if_neg h1] at h ⊢
      by_cases h2 : c n = true
      · rw [if_pos h2]; exact h2
      · rw [if_neg h2] at h; omega
theorem fv_min {c : Nat → Bool} : ∀ {n u : Nat}, u < fv c n → c u = false
  | 0, u, h => by unfold fv at h; omega
  | n + 1, u, h => by
    unfold fv at h
    have hl := fv_le c n
    by_cases h1 : fv c n < n
    · rw [if_pos h1] at h; exact fv_min h
    · rw [if_neg h1] at h
      have e : fv c n = n := by omega
      by_cases h2 : c n = true
      · rw [if_pos h2] at h; exact fv_min (n := n) (by omega)
      · rw [if_neg h2] at h
        by_cases h3 : u = n
        · subst h3; cases hc : c u
          · rfl
          · exact absurd hc h2
        · exact fv_min (n := n) (by omega)
theorem fv_eq {c : Nat → Bool} {n v : Nat} (hv : v < n) (hc : c v = true) (hm : ∀ u, u < v → c u = false) : fv c n = v := by
  have h1 : ¬ v < fv c n := fun z => by
    have := fv_min z
    rw [hc] at this; cases this
  have h2 : ¬ fv c n < v := fun z => by
    have h3 := fv_lt (c := c) (n := n) (by omega)
    rw [hm _ z] at h3; cases h3
  omega
/-- a group's part -/
def gPt (σ : Nat → Int) (g : Int) : Int := σ (21 + fv (fun v => decide (gAt σ v = g)) 14)
/-- each group has a vertex -/
def GV (σ : Nat → Int) : Prop := ∀ g : Int, 0 ≤ g → g < grs σ → ∃ v, v < (σ 0).toNat ∧ gAt σ v = g
theorem GV.has {σ : Nat → Int} (h : GV σ) (hM : MS σ) {g : Int} (h0 : 0 ≤ g) (h1 : g < grs σ) : hasV σ g := by
  obtain ⟨v, hv, e⟩ := h g h0 h1
  have := ms_0 hM
  exact ⟨v, by omega, e⟩
theorem gPt_b {σ : Nat → Int} (hM : MS σ) {g : Int} (hv : hasV σ g) : 0 ≤ gPt σ g ∧ gPt σ g ≤ 3 := by
  obtain ⟨v, h1, h2⟩ := hv
  have hl : ¬ v < fv (fun v => decide (gAt σ v = g)) 14 := fun z => by
    have := fv_min z
    simp [h2] at this
  exact ms_p hM _ (by omega)
/-- more than nothing -/
def pos (z : Int) : Int := if 0 < z then z else 0
theorem pos_b {z c : Int} (h : z ≤ c) (hc : 0 ≤ c) : 0 ≤ pos z ∧ pos z ≤ c := by unfold pos; split <;> omega
/-- what a move of g to p is worth at edge e -/
def gainE (σ : Nat → Int) (g p : Int) (e : Nat) : Int :=
  if (gAt σ (σ (110 + e)).toNat = g ↔ gAt σ (σ (150 + e)).toNat = g) then 0
  else if (if gAt σ (σ (110 + e)).toNat = g then σ (21 + (σ (150 + e)).toNat) else σ (21 + (σ (110 + e)).toNat)) = p then σ (190 + e)
  else if (if gAt σ (σ (110 + e)).toNat = g then σ (21 + (σ (150 + e)).toNat) else σ (21 + (σ (110 + e)).toNat)) = gPt σ g then -σ (190 + e) else 0
def gainZ (σ : Nat → Int) (g p : Int) : Int := if gPt σ g = p then 0 else sm (gainE σ g p) (σ 1).toNat
def dwQ (σ : Nat → Int) (g p : Int) (q : Nat) : Int := pos (wOf σ (q : Int) - (if (q : Int) = gPt σ g then 1 else 0) * gW σ g + (if (q : Int) = p then 1 else 0) * gW σ g - limZ σ)
def dwZ (σ : Nat → Int) (g p : Int) : Int := sm (dwQ σ g p) (σ 2).toNat
def wmZ (σ : Nat → Int) (g p : Int) : Int := if gPt σ g = p then 1 else if σ 4 < dwZ σ g p ∧ debtsZ σ < dwZ σ g p then 2 else 0
theorem gainE_b {σ : Nat → Int} (h : MS σ) (g p : Int) {e : Nat} (he : e < 40) : -99 ≤ gainE σ g p e ∧ gainE σ g p e ≤ 99 := by
  have := ms_h h e he
  unfold gainE
  split
  · omega
  · split
    · omega
    · split <;> omega
theorem sm_bound2 {f : Nat → Int} {c : Int} : ∀ {n : Nat}, (∀ k, k < n → -c ≤ f k ∧ f k ≤ c) → -(c * n) ≤ sm f n ∧ sm f n ≤ c * n
  | 0, _ => by simp [sm]
  | n + 1, h => by
    have h1 := sm_bound2 (n := n) (fun k hk => h k (by omega))
    have h2 := h n (by omega)
    have e : c * ((n + 1 : Nat) : Int) = c * (n : Int) + c := by rw [Int.natCast_succ, Int.mul_add, Int.mul_one]
    rw [sm_succ, e]
    omega
theorem gainZ_b {σ : Nat → Int} (h : MS σ) (g p : Int) : -3960 ≤ gainZ σ g p ∧ gainZ σ g p ≤ 3960 := by
  have b := ms_1 h
  have := sm_bound2 (f := gainE σ g p) (c := 99) (n := (σ 1).toNat) (fun k hk => gainE_b h g p (by omega))
  unfold gainZ
  split <;> omega
theorem dwQ_b {σ : Nat → Int} (h : MS σ) (g p : Int) (q : Nat) : 0 ≤ dwQ σ g p q ∧ dwQ σ g p q ≤ 2772 := by
  have h1 := wOf_b h (q : Int)
  have h2 := limZ_b h
  have h3 := gW_b h g
  unfold dwQ
  refine pos_b ?_ (by omega)
  split <;> split <;> omega
theorem dwZ_b {σ : Nat → Int} (h : MS σ) (g p : Int) : 0 ≤ dwZ σ g p ∧ dwZ σ g p ≤ 11088 := by
  have b := ms_2 h
  have := sm_bound (f := dwQ σ g p) (c := 2772) (n := (σ 2).toNat) (fun k _ => dwQ_b h g p k)
  unfold dwZ
  omega
theorem wmZ_b (σ : Nat → Int) (g p : Int) : 0 ≤ wmZ σ g p ∧ wmZ σ g p ≤ 2 := by
  unfold wmZ
  split
  · omega
  · split <;> omega
/-- the best of the moves: (10 times the group plus the part, its gain, the debts with it); one move more is looked at -/
def bmS (σ : Nat → Int) (lw : Bool) (g p : Nat) (a : Int × Int × Int) : Int × Int × Int :=
  if 0 < wmZ σ g p ∨ (lw = true ∧ debtsZ σ ≤ dwZ σ g p) ∨ (lw = false ∧ gainZ σ g p ≤ 0) then a
  else if a.1 ≠ -1 ∧ (gainZ σ g p < a.2.1 ∨ (gainZ σ g p = a.2.1 ∧ a.2.2 ≤ dwZ σ g p)) then a
  else (10 * (g : Int) + (p : Int), gainZ σ g p, dwZ σ g p)
def bmR (σ : Nat → Int) (lw : Bool) (g : Nat) : Nat → Int × Int × Int → Int × Int × Int
  | 0, a => a
  | p + 1, a => bmS σ lw g p (bmR σ lw g p a)
def bmZ (σ : Nat → Int) (lw : Bool) : Nat → Int × Int × Int
  | 0 => (-1, 0, 0)
  | g + 1 => bmR σ lw g (σ 2).toNat (bmZ σ lw g)
def nxZ (σ : Nat → Int) : Int :=
  if 0 < debtsZ σ then (if (bmZ σ true (grs σ).toNat).1 = -1 then (bmZ σ false (grs σ).toNat).1 else (bmZ σ true (grs σ).toNat).1) else (bmZ σ false (grs σ).toNat).1
/-- a triple within bounds -/
def bmB (a : Int × Int × Int) : Prop := (-1 ≤ a.1 ∧ a.1 ≤ 133) ∧ (-4000 ≤ a.2.1 ∧ a.2.1 ≤ 4000) ∧ (0 ≤ a.2.2 ∧ a.2.2 ≤ 12000)
theorem bmS_b {σ : Nat → Int} (hM : MS σ) (lw : Bool) {g p : Nat} (hg : g < 14) (hp : p < 4) {a : Int × Int × Int} (ha : bmB a) : bmB (bmS σ lw g p a) := by
  have h1 := gainZ_b hM g p
  have h2 := dwZ_b hM g p
  unfold bmS
  split
  · exact ha
  · split
    · exact ha
    · show (-1 ≤ 10 * (g : Int) + (p : Int) ∧ 10 * (g : Int) + (p : Int) ≤ 133) ∧ (-4000 ≤ gainZ σ g p ∧ gainZ σ g p ≤ 4000) ∧ (0 ≤ dwZ σ g p ∧ dwZ σ g p ≤ 12000)
      omega
theorem bmR_b {σ : Nat → Int} (hM : MS σ) (lw : Bool) {g : Nat} (hg : g < 14) : ∀ {p : Nat} {a : Int × Int × Int}, p ≤ 4 → bmB a → bmB (bmR σ lw g p a)
  | 0, a, _, ha => ha
  | p + 1, a, hp, ha => bmS_b hM lw hg (by omega) (bmR_b hM lw hg (by omega) ha)
theorem bmZ_b {σ : Nat → Int} (hM : MS σ) (lw : Bool) : ∀ {g : Nat}, g ≤ 14 → bmB (bmZ σ lw g)
  | 0, _ => by
    show (-1 ≤ (-1 : Int) ∧ (-1 : Int) ≤ 133) ∧ (-4000 ≤ (0 : Int) ∧ (0 : Int) ≤ 4000) ∧ (0 ≤ (0 : Int) ∧ (0 : Int) ≤ 12000)
    omega
  | g + 1, hg => by
    have b2 := ms_2 hM
    exact bmR_b hM lw (by omega) (by omega) (bmZ_b hM lw (by omega))
theorem nxZ_b {σ : Nat → Int} (hM : MS σ) : -1 ≤ nxZ σ ∧ nxZ σ ≤ 133 := by
  have b := grs_b hM
  have h1 := (bmZ_b hM true (g := (grs σ).toNat) (by omega)).1
  have h2 := (bmZ_b hM false (g := (grs σ).toNat) (by omega)).1
  unfold nxZ
  split
  · split <;> omega
  · omega
/-! ===== rows that are copied ===== -/
/-- nothing stands behind a row's end -/
def Tl (n : Nat) (f : Nat → Int) : Prop := ∀ i, n ≤ i → f i = 0
def TlJ (n : Nat) (f : Nat → Int64) : Prop := ∀ i, n ≤ i → f i = 0
/-- the first v of f over g -/
def cpP {α : Type} (f g : Nat → α) (v : Nat) : Nat → α := fun i => if i < v then f i else g i
theorem cpP_succ {α : Type} (f g : Nat → α) (v : Nat) : cpP f g (v + 1) = updr (cpP f g v) v (f v) := by
  funext i
  show (if i < v + 1 then f i else g i) = if i = v then f v else (if i < v then f i else g i)
  by_cases h : i = v
  · subst h; rw [if_pos (by omega), if_pos rfl]
  · rw [if_neg h]
    by_cases h2 : i < v
    · rw [if_pos (by omega), if_pos h2]
    · rw [if_neg (by omega), if_neg h2]
theorem cpP_zero {α : Type} (f g : Nat → α) : cpP f g 0 = g := by funext i; unfold cpP; rw [if_neg (by omega)]
theorem cpP_all {f g : Nat → Int} {n : Nat} (hf : Tl n f) (hg : Tl n g) : cpP f g n = f := by
  funext i
  unfold cpP
  by_cases h : i < n
  · rw [if_pos h]
  · rw [if_neg h, hf i (by omega), hg i (by omega)]
theorem cpP_allJ {f g : Nat → Int64} {n : Nat} (hf : TlJ n f) (hg : TlJ n g) : cpP f g n = f := by
  funext i
  unfold cpP
  by_cases h : i < n
  · rw [if_pos h]
  · rw [if_neg h, hf i (by omega), hg i (by omega)]
/-- row i of the rows that lie one behind the other -/
def seg (f : Nat → Int) (i : Nat) : Nat → Int := fun j => if j < 350 then f (350 * i + j) else 0
theorem seg_Tl (f : Nat → Int) (i : Nat) : Tl 350 (seg f i) := fun j h => by unfold seg; rw [if_neg (by omega)]
/-! ===== moves ===== -/
/-- the row with the vertices below v of a group in another part -/
def mvR (σ : Nat → Int) (g p : Int) (v : Nat) : Nat → Int := fun i => if (21 ≤ i ∧ i < 21 + v) ∧ gAt σ (i - 21) = g then p else σ i
/-- the row with one more event -/
def evK (τ : Nat → Int) : Nat := 230 + 4 * (τ 6 % 30).toNat
def evR (τ : Nat → Int) (g was p : Int) : Nat → Int := updr (updr (updr (updr (updr τ (evK τ) g) (evK τ + 1) was) (evK τ + 2) p) (evK τ + 3) (cutZ τ)) 6 (τ 6 + 1)
/-- the row behind a move -/
def comesZ (σ : Nat → Int) (g p : Int) : Nat → Int := if gPt σ g = p then σ else evR (mvR σ g p (σ 0).toNat) g (gPt σ g) p
theorem evK_b {τ : Nat → Int} : 230 ≤ evK τ ∧ evK τ + 3 < 350 := by unfold evK; omega
theorem mvR_o {σ : Nat → Int} {g p : Int} {v i : Nat} (h : i < 21 ∨ 21 + v ≤ i) : mvR σ g p v i = σ i := by unfold mvR; rw [if_neg (by omega)]
theorem mvR_v {σ : Nat → Int} {g p : Int} {v u : Nat} (h : u < v) : mvR σ g p v (21 + u) = if gAt σ u = g then p else σ (21 + u) := by
  unfold mvR
  rw [show 21 + u - 21 = u by omega]
  by_cases q : gAt σ u = g
  · rw [if_pos ⟨by omega, q⟩, if_pos q]
  · rw [if_neg (fun z => q z.2), if_neg q]
theorem mvR_succ (σ : Nat → Int) (g p : Int) (v : Nat) : mvR σ g p (v + 1) = if gAt σ v = g then updr (mvR σ g p v) (21 + v) p else mvR σ g p v := by
  funext i
  by_cases hi : i = 21 + v
  · subst hi
    rw [mvR_v (by omega)]
    by_cases q : gAt σ v = g
    · rw [if_pos q, if_pos q, updr_self]
    · rw [if_neg q, if_neg q, mvR_o (by omega)]
  · have e : mvR σ g p (v + 1) i = mvR σ g p v i := by
      unfold mvR
      by_cases c : (21 ≤ i ∧ i < 21 + v) ∧ gAt σ (i - 21) = g
      · rw [if_pos c, if_pos ⟨by omega, c.2⟩]
      · rw [if_neg c, if_neg (fun z => c ⟨by omega, z.2⟩)]
    rw [e]
    split
    · rw [updr_ne hi]
    · rfl
theorem evR_o {τ : Nat → Int} {g was p : Int} {i : Nat} (h : i < 6 ∨ (6 < i ∧ i < 230) ∨ 350 ≤ i) : evR τ g was p i = τ i := by
  have b := evK_b (τ := τ)
  unfold evR
  rw [updr_ne (by omega), updr_ne (by omega), updr_ne (by omega), updr_ne (by omega), updr_ne (by omega)]
theorem comesZ_o {σ : Nat → Int} {g p : Int} {i : Nat} (hn : (σ 0).toNat ≤ 14) (h : i < 6 ∨ (6 < i ∧ i < 21) ∨ (35 ≤ i ∧ i < 230) ∨ 350 ≤ i) : comesZ σ g p i = σ i := by
  unfold comesZ
  split
  · rfl
  · rw [evR_o (by omega), mvR_o (by omega)]
theorem comesZ_p {σ : Nat → Int} {g p : Int} (hM : MS σ) {u : Nat} (hu : u < (σ 0).toNat) (hun : ∀ w, w < (σ 0).toNat → gAt σ w = g → σ (21 + w) = gPt σ g) : comesZ σ g p (21 + u) = if gAt σ u = g then p else σ (21 + u) := by
  have b := ms_0 hM
  unfold comesZ
  split
  · rename_i h
    split
    · rename_i h2; rw [hun u hu h2, h]
    · rfl
  · rw [evR_o (by omega), mvR_v hu]
theorem gAt_congr {σ τ : Nat → Int} (h5 : τ 5 = σ 5) (h : ∀ i, 35 ≤ i → i < 105 → τ i = σ i) (hM : MS σ) {v : Nat} (hv : v < 14) : gAt τ v = gAt σ v := by
  have b := ms_5 hM
  unfold gAt
  rw [h5]
  exact h _ (by omega) (by omega)
theorem comesZ_gAt {σ : Nat → Int} {g p : Int} (hM : MS σ) {v : Nat} (hv : v < 14) : gAt (comesZ σ g p) v = gAt σ v := by
  have b := ms_0 hM
  exact gAt_congr (comesZ_o (by omega) (by omega)) (fun i h1 h2 => comesZ_o (by omega) (by omega)) hM hv
theorem comesZ_grs {σ : Nat → Int} {g p : Int} (hM : MS σ) : grs (comesZ σ g p) = grs σ := by
  have b := ms_0 hM
  have b5 := ms_5 hM
  unfold grs
  rw [comesZ_o (i := 5) (by omega) (by omega), comesZ_o (by omega) (by omega)]
theorem comesZ_6 {σ : Nat → Int} {g p : Int} (hM : MS σ) : comesZ σ g p 6 = if gPt σ g = p then σ 6 else σ 6 + 1 := by
  unfold comesZ
  split
  · rfl
  · unfold evR
    rw [updr_self, mvR_o (by omega)]
theorem cutZ_congr {σ τ : Nat → Int} (h1 : τ 1 = σ 1) (hp : ∀ v, v < 14 → τ (21 + v) = σ (21 + v)) (h : ∀ i, 110 ≤ i → i < 230 → τ i = σ i) (hM : MS σ) : cutZ τ = cutZ σ := by
  have b := ms_1 hM
  unfold cutZ
  rw [h1]
  refine sm_cong (fun e he => ?_)
  have ha := ms_a hM e (by omega)
  have hb := ms_b hM e (by omega)
  unfold cutE
  rw [h (110 + e) (by omega) (by omega), h (150 + e) (by omega) (by omega), h (190 + e) (by omega) (by omega), hp _ (by omega), hp _ (by omega)]
theorem mvR_MS {σ : Nat → Int} {g p : Int} (hM : MS σ) (hp : 0 ≤ p ∧ p ≤ 3) {v : Nat} (hv : v ≤ 14) : MS (mvR σ g p v) := by
  have o : ∀ i, i < 21 ∨ 35 ≤ i → mvR σ g p v i = σ i := fun i hi => mvR_o (by omega)
  refine ⟨?_, ?_, ?_, ?_, ?_, ?_, ?_, fun w hw => ?_, fun w hw => ?_, fun w hw => ?_, fun w hw => ?_, fun w hw => ?_, fun w hw => ?_, fun w hw => ?_, fun w hw => ?_⟩
  · rw [o 0 (by omega)]; exact ms_0 hM
  · rw [o 1 (by omega)]; exact ms_1 hM
  · rw [o 2 (by omega)]; exact ms_2 hM
  · rw [o 3 (by omega)]; exact ms_3 hM
  · rw [o 4 (by omega)]; exact ms_4 hM
  · rw [o 5 (by omega)]; exact ms_5 hM
  · rw [o 6 (by omega)]; exact ms_6 hM
  · rw [o _ (by omega)]; exact ms_w hM w hw
  · have := ms_p hM w hw
    unfold mvR
    split <;> omega
  · rw [o _ (by omega)]; exact ms_g hM w hw
  · rw [o _ (by omega)]; exact ms_n hM w hw
  · rw [o _ (by omega)]; exact ms_a hM w hw
  · rw [o _ (by omega)]; exact ms_b hM w hw
  · rw [o _ (by omega)]; exact ms_h hM w hw
  · rw [o _ (by omega)]; exact ms_e hM w hw
theorem updr_MS {σ : Nat → Int} (hM : MS σ) {i : Nat} {x : Int} (hi : 230 ≤ i) (hx : 0 ≤ x ∧ x ≤ 1000000000) : MS (updr σ i x) := by
  have o : ∀ j, j < 230 → updr σ i x j = σ j := fun j hj => updr_ne (by omega)
  refine ⟨?_, ?_, ?_, ?_, ?_, ?_, ?_, fun w hw => ?_, fun w hw => ?_, fun w hw => ?_, fun w hw => ?_, fun w hw => ?_, fun w hw => ?_, fun w hw => ?_, fun w hw => ?_⟩
  · rw [o 0 (by omega)]; exact ms_0 hM
  · rw [o 1 (by omega)]; exact ms_1 hM
  · rw [o 2 (by omega)]; exact ms_2 hM
  · rw [o 3 (by omega)]; exact ms_3 hM
  · rw [o 4 (by omega)]; exact ms_4 hM
  · rw [o 5 (by omega)]; exact ms_5 hM
  · rw [o 6 (by omega)]; exact ms_6 hM
  · rw [o _ (by omega)]; exact ms_w hM w hw
  · rw [o _ (by omega)]; exact ms_p hM w hw
  · rw [o _ (by omega)]; exact ms_g hM w hw
  · rw [o _ (by omega)]; exact ms_n hM w hw
  · rw [o _ (by omega)]; exact ms_a hM w hw
  · rw [o _ (by omega)]; exact ms_b hM w hw
  · rw [o _ (by omega)]; exact ms_h hM w hw
  · have := ms_e hM w hw
    by_cases q : 230 + w = i
    · rw [q, updr_self]; exact hx
    · rw [updr_ne q]; exact this
theorem updr6_MS {σ : Nat → Int} (hM : MS σ) {x : Int} (hx : 0 ≤ x ∧ x ≤ 1000000000) : MS (updr σ 6 x) := by
  have o : ∀ j, j ≠ 6 → updr σ 6 x j = σ j := fun j hj => updr_ne hj
  refine ⟨?_, ?_, ?_, ?_, ?_, ?_, ?_, fun w hw => ?_, fun w hw => ?_, fun w hw => ?_, fun w hw => ?_, fun w hw => ?_, fun w hw => ?_, fun w hw => ?_, fun w hw => ?_⟩
  · rw [o 0 (by omega)]; exact ms_0 hM
  · rw [o 1 (by omega)]; exact ms_1 hM
  · rw [o 2 (by omega)]; exact ms_2 hM
  · rw [o 3 (by omega)]; exact ms_3 hM
  · rw [o 4 (by omega)]; exact ms_4 hM
  · rw [o 5 (by omega)]; exact ms_5 hM
  · rw [updr_self]; exact hx
  · rw [o _ (by omega)]; exact ms_w hM w hw
  · rw [o _ (by omega)]; exact ms_p hM w hw
  · rw [o _ (by omega)]; exact ms_g hM w hw
  · rw [o _ (by omega)]; exact ms_n hM w hw
  · rw [o _ (by omega)]; exact ms_a hM w hw
  · rw [o _ (by omega)]; exact ms_b hM w hw
  · rw [o _ (by omega)]; exact ms_h hM w hw
  · rw [o _ (by omega)]; exact ms_e hM w hw
theorem comesZ_MS {σ : Nat → Int} {g p : Int} (hM : MS σ) (hg : 0 ≤ g ∧ g ≤ 13) (hp : 0 ≤ p ∧ p ≤ 3) (hv : hasV σ g) (h6 : σ 6 < 1000000000) : MS (comesZ σ g p) := by
  have b0 := ms_0 hM
  have b6 := ms_6 hM
  have bg := gPt_b hM hv
  unfold comesZ
  split
  · exact hM
  · have m1 : MS (mvR σ g p (σ 0).toNat) := mvR_MS hM hp (by omega)
    have c1 := cutZ_b m1
    have k := evK_b (τ := mvR σ g p (σ 0).toNat)
    have e6 : mvR σ g p (σ 0).toNat 6 = σ 6 := mvR_o (by omega)
    unfold evR
    exact updr6_MS (updr_MS (updr_MS (updr_MS (updr_MS m1 (by omega) (by omega)) (by omega) (by omega)) (by omega) (by omega)) (by omega) (by omega)) (by rw [e6]; omega)
theorem comesZ_GV {σ : Nat → Int} {g p : Int} (hM : MS σ) (h : GV σ) : GV (comesZ σ g p) := by
  have b0 := ms_0 hM
  intro q h0 h1
  rw [comesZ_grs hM] at h1
  obtain ⟨v, hv, e⟩ := h q h0 h1
  refine ⟨v, ?_, ?_⟩
  · rw [comesZ_o (by omega) (by omega)]; exact hv
  · rw [comesZ_gAt hM (by omega)]; exact e
theorem comesZ_Tl {σ : Nat → Int} {g p : Int} (hM : MS σ) (h : Tl 350 σ) : Tl 350 (comesZ σ g p) := fun i hi => by
  have b0 := ms_0 hM
  rw [comesZ_o (by omega) (by omega)]
  exact h i hi
/-- steps: how many, and the row behind them -/
def stpZ : Nat → (Nat → Int) → Nat × (Nat → Int)
  | 0, σ => (0, σ)
  | k + 1, σ => if nxZ σ = -1 then (0, σ) else ((stpZ k (comesZ σ (nxZ σ / 10) (nxZ σ % 10))).1 + 1, (stpZ k (comesZ σ (nxZ σ / 10) (nxZ σ % 10))).2)
/-- what a move that is chosen is -/
theorem bmR_in {σ : Nat → Int} (lw : Bool) (g : Nat) {B : Nat} : ∀ {p : Nat} {a : Int × Int × Int}, p ≤ B → (a.1 = -1 ∨ ∃ g' p' : Nat, g' ≤ g ∧ p' < B ∧ a.1 = 10 * (g' : Int) + (p' : Int)) → ((bmR σ lw g p a).1 = -1 ∨ ∃ g' p' : Nat, g' ≤ g ∧ p' < B ∧ (bmR σ lw g p a).1 = 10 * (g' : Int) + (p' : Int))
  | 0, a, _, h => h
  | p + 1, a, hp, h => by
    have ih := bmR_in (σ := σ) lw g (B := B) (p := p) (a := a) (by omega) h
    rw [show bmR σ lw g (p + 1) a = bmS σ lw g p (bmR σ lw g p a) from rfl]
    unfold bmS
    split
    · exact ih
    · split
      · exact ih
      · exact Or.inr ⟨g, p, by omega, by omega, rfl⟩
theorem bmZ_in {σ : Nat → Int} (lw : Bool) : ∀ (g : Nat), (bmZ σ lw g).1 = -1 ∨ ∃ g' p' : Nat, g' < g ∧ p' < (σ 2).toNat ∧ (bmZ σ lw g).1 = 10 * (g' : Int) + (p' : Int)
  | 0 => Or.inl rfl
  | g + 1 => by
    have ih := bmZ_in (σ := σ) lw g
    have := bmR_in (σ := σ) lw g (B := (σ 2).toNat) (p := (σ 2).toNat) (a := bmZ σ lw g) (Nat.le_refl _) (by
      rcases ih with h | ⟨g', p', h1, h2, h3⟩
      · exact Or.inl h
      · exact Or.inr ⟨g', p', by omega, h2, h3⟩)
    rcases this with h | ⟨g', p', h1, h2, h3⟩
    · exact Or.inl h
    · exact Or.inr ⟨g', p', by omega, h2, h3⟩
theorem nxZ_in {σ : Nat → Int} (hM : MS σ) (h : nxZ σ ≠ -1) : (0 ≤ nxZ σ / 10 ∧ nxZ σ / 10 < grs σ) ∧ (0 ≤ nxZ σ % 10 ∧ nxZ σ % 10 < σ 2) := by
  have b2 := ms_2 hM
  have bG := grs_b hM
  have key : ∀ x : Int, x ≠ -1 → (x = -1 ∨ ∃ g' p' : Nat, g' < (grs σ).toNat ∧ p' < (σ 2).toNat ∧ x = 10 * (g' : Int) + (p' : Int)) → (0 ≤ x / 10 ∧ x / 10 < grs σ) ∧ (0 ≤ x % 10 ∧ x % 10 < σ 2) := by
    intro x hx hh
    rcases hh with hh | ⟨g', p', h1, h2, h3⟩
    · exact absurd hh hx
    · omega
  refine key _ h ?_
  unfold nxZ
  split
  · split
    · exact bmZ_in _ _
    · exact bmZ_in _ _
  · exact bmZ_in _ _
section RV5
variable {I : Ii} {J : Jj}
/-- what steps keep -/
theorem step_keeps {σ : Nat → Int} (hM : MS σ) (hG : GV σ) (h6 : σ 6 < 1000000000) (h : nxZ σ ≠ -1) : MS (comesZ σ (nxZ σ / 10) (nxZ σ % 10)) ∧ GV (comesZ σ (nxZ σ / 10) (nxZ σ % 10)) ∧ comesZ σ (nxZ σ / 10) (nxZ σ % 10) 6 ≤ σ 6 + 1 := by
  have hin := nxZ_in hM h
  have bG := grs_b hM
  have b2 := ms_2 hM
  refine ⟨comesZ_MS hM (by omega) (by omega) (hG.has hM hin.1.1 hin.1.2) h6, comesZ_GV hM hG, ?_⟩
  rw [comesZ_6 hM]
  split <;> omega
theorem stpZ_keeps : ∀ (k : Nat) {σ : Nat → Int}, MS σ → GV σ → σ 6 + (k : Int) ≤ 1000000000 → MS (stpZ k σ).2 ∧ GV (stpZ k σ).2 ∧ (stpZ k σ).2 6 ≤ σ 6 + (k : Int) ∧ (stpZ k σ).1 ≤ k
  | 0, σ, hM, hG, h6 => ⟨hM, hG, (by show σ 6 ≤ σ 6 + ((0 : Nat) : Int); omega), Nat.le_refl _⟩
  | k + 1, σ, hM, hG, h6 => by
    unfold stpZ
    split
    · exact ⟨hM, hG, by dsimp only; omega, by dsimp only; omega⟩
    · rename_i h
      have h1 := step_keeps hM hG (by omega) h
      have ih := stpZ_keeps k h1.1 h1.2.1 (by omega)
      exact ⟨ih.1, ih.2.1, by have := ih.2.2.1; dsimp only; omega, by have := ih.2.2.2; dsimp only; omega⟩
end RV5
/-! ===== the class's small methods on rows ===== -/
theorem rlen_of {k n : Nat} (h : shR k = some (0, n)) : rlen k = n := by unfold rlen; rw [h]; rfl
theorem isRow_of {k n : Nat} (h : shR k = some (0, n)) : isRow k := by unfold isRow; rw [rlen_of h]; exact h
section CB
variable {I : Ii} {J : Jj}
theorem at_of {k n : Nat} (hs : shR k = some (0, n)) {x : Int} {i : Nat} (hx : x = (i : Int)) (hi : i < n) {Q : Int → Ii → Jj → Prop} (h : Q (I k i) I J) : wp_X11_at k x I J Q := by
  have hl := rlen_le k
  have e := rlen_of hs
  subst hx
  exact ⟨isRow_of hs, rgI (by omega) (by omega), fun c => by omega, fun c => ⟨fun c2 => by omega, fun c2 => ⟨by omega, h⟩⟩⟩
theorem put_of {k n : Nat} (hs : shR k = some (0, n)) {x v : Int} {i : Nat} (hx : x = (i : Int)) (hi : i < n) {Q : Ii → Jj → Prop} (h : ∀ I' : Ii, I' = up2 I k i v → Q I' J) : wp_X11_put k x v I J Q := by
  have hl := rlen_le k
  have e := rlen_of hs
  subst hx
  exact ⟨isRow_of hs, rgI (by omega) (by omega), fun c => by omega, fun c => ⟨fun c2 => by omega, fun c2 => ⟨by omega, fun I' e' => h I' e'⟩⟩⟩
theorem add_of {k n : Nat} (hs : shR k = some (0, n)) {x v : Int} {i : Nat} (hx : x = (i : Int)) (hi : i < n) {Q : Ii → Jj → Prop} (h : ∀ I' : Ii, I' = up2 I k i (I k i + v) → Q I' J) : wp_X11_add k x v I J Q := by
  have hl := rlen_le k
  have e := rlen_of hs
  subst hx
  exact ⟨isRow_of hs, rgI (by omega) (by omega), fun c => by omega, fun c => ⟨fun c2 => by omega, fun c2 => ⟨by omega, by omega, fun I' e' => h I' e'⟩⟩⟩
theorem isIn_of {x y : Int} {s k : Nat} (hx : x = (s : Int)) (hy : y = (k : Int)) (hs : s < 2147483648) (hk : k < 32) {Q : Int → Ii → Jj → Prop} (h1 : s.testBit k = true → Q 1 I J) (h0 : s.testBit k = false → Q 0 I J) : wp_X11_isIn x y I J Q := by
  subst hx hy
  unfold wp_X11_isIn
  have e : andZ (ushrZ (s : Int) (k : Int)) 1 = if s.testBit k = true then 1 else 0 := by
    rw [ushrZ_nat hk hs]
    show andZ _ ((1 : Nat) : Int) = _
    rw [andZ_nat' (by decide), bit_one]
    split <;> rfl
  rw [e]
  cases h : s.testBit k
  · rw [if_neg (by decide)]
    exact ⟨fun _ => h0 h, fun c => absurd rfl c⟩
  · rw [if_pos rfl]
    exact ⟨fun c => absurd c (by decide), fun _ => h1 h⟩
theorem min_of {a b : Int} (ha : rg a) (hb : rg b) {Q : Int → Ii → Jj → Prop} (h1 : b < a → Q b I J) (h2 : ¬ b < a → Q a I J) : wp_J9_min_7cf53 a b I J Q := ⟨ha, hb, h1, h2⟩
theorem max_of {a b : Int} (ha : rg a) (hb : rg b) {Q : Int → Ii → Jj → Prop} (h1 : a < b → Q b I J) (h2 : ¬ a < b → Q a I J) : wp_J9_max_7cf53 a b I J Q := ⟨ha, hb, h1, h2⟩
/-- a row filled with v -/
def filR (n : Nat) (v : Int) (f : Nat → Int) : Nat → Int := fun i => if i < n then v else f i
theorem filR_lt {n : Nat} {v : Int} {f : Nat → Int} {i : Nat} (h : i < n) : filR n v f i = v := if_pos h
theorem filR_zero (v : Int) (f : Nat → Int) : filR 0 v f = f := by funext i; unfold filR; rw [if_neg (by omega)]
theorem filR_succ (n : Nat) (v : Int) (f : Nat → Int) : filR (n + 1) v f = updr (filR n v f) n v := by
  funext i
  show (if i < n + 1 then v else f i) = if i = n then v else (if i < n then v else f i)
  by_cases h : i = n
  · rw [if_pos (by omega), if_pos h]
  · rw [if_neg h]
    by_cases h2 : i < n
    · rw [if_pos (by omega), if_pos h2]
    · rw [if_neg (by omega), if_neg h2]
theorem upr_id {α : Type} (f : Nat → Nat → α) (k : Nat) : upr f k (f k) = f := by
  funext k'
  unfold upr
  split
  · rename_i h; rw [h]
  · rfl
theorem up2_upr {α : Type} (f : Nat → Nat → α) (k i : Nat) (r : Nat → α) (v : α) : up2 (upr f k r) k i v = upr f k (updr r i v) := by
  funext k' i'
  unfold up2 upr updr
  by_cases h : k' = k
  · subst h
    by_cases h2 : i' = i
    · rw [if_pos ⟨rfl, h2⟩, if_pos rfl, if_pos h2]
    · rw [if_neg (fun z => h2 z.2), if_pos rfl, if_pos rfl, if_neg h2]
  · rw [if_neg (fun z => h z.1), if_neg h, if_neg h]
theorem fill_of {k n : Nat} (hs : shR k = some (0, n)) {v : Int} {Q : Ii → Jj → Prop} (h : ∀ I' : Ii, I' = upr I k (filR n v (I k)) → Q I' J) : wp_J7_fill_53178 k v I J Q := by
  have hl := rlen_le k
  have e := rlen_of hs
  refine ⟨isRow_of hs, n + 1, ?_⟩
  rw [e]
  refine loopN (L := fun m (a : Ii) w => L_J7_fill_53178_5 k v Q m w (n : Int) a J) (fun w a => a = upr I k (filR w v (I k))) (N := n) (fun m w a hw ha kk => ?_) (n + 1) 0 I (by omega) (by omega) (by rw [filR_zero, upr_id])
  refine ls_J7_fill_53178_5 ?_
  unfold Lb_J7_fill_53178_5
  refine ⟨rgI (by omega) (by omega), rgI (by omega) (by omega), fun c => ?_, fun c => ⟨by omega, fun I1 e1 => kk (by omega) _ ?_⟩⟩
  · have hwn : w = n := by omega
    subst hwn
    exact h a ha
  · rw [e1, ha]
    show up2 _ k w v = _
    rw [up2_upr, filR_succ]
theorem va_cpy0 {α : Type} (f g : Nat → α) (n : Nat) : va_cpy f g 0 0 n = cpP f g n := by
  funext i
  unfold va_cpy cpP
  by_cases h : i < n
  · rw [if_pos (by omega), if_pos h, Nat.zero_add, Nat.sub_zero]
  · rw [if_neg (by omega), if_neg h]
theorem copy_of {k0 k1 n : Nat} (h0 : shR k0 = some (0, n)) (h1 : shR k1 = some (0, n)) {Q : Ii → Jj → Prop} (h : ∀ I' : Ii, I' = upr I k1 (cpP (I k0) (I k1) n) → Q I' J) : wp_X11_copy k0 k1 I J Q := by
  have hl := rlen_le k0
  have e0 := rlen_of h0
  have e1 := rlen_of h1
  refine ⟨isRow_of h0, isRow_of h1, ?_⟩
  rw [e0, e1]
  rw [e0] at hl
  refine min_of (rgI (by omega) (by omega)) (rgI (by omega) (by omega)) (fun c => absurd c (by omega)) (fun c => ⟨by omega, fun I3 e3 => h I3 ?_⟩)
  rw [e3]
  show upr I k1 (va_cpy (I k0) (I k1) 0 0 n) = _
  rw [va_cpy0]
end CB
/-! ===== the class's graph and sharing, by the reference's row ===== -/
/-- the graph at key k tells what the row and the names tell -/
def RG (k : Nat) (I : Ii) (J : Jj) (σ : Nat → Int) (nm : Nat → Int64) : Prop :=
  I k 0 = σ 0 ∧ I k 1 = σ 1 ∧ I k 2 = σ 2 ∧ I k 3 = σ 3 ∧ I k 5 = allW σ ∧ I k 6 = allE σ ∧
  (∀ v, v < (σ 0).toNat → I (k + 2) v = σ (7 + v)) ∧ (∀ v, v < (σ 0).toNat → J (k + 1) v = nm v) ∧
  (∀ e, e < (σ 1).toNat → I (k + 3) e = σ (110 + e)) ∧ (∀ e, e < (σ 1).toNat → I (k + 4) e = σ (150 + e)) ∧ (∀ e, e < (σ 1).toNat → I (k + 5) e = σ (190 + e))
/-- the group of a vertex at a level -/
def gL (σ : Nat → Int) (l v : Nat) : Int := σ (35 + 14 * l + v)
/-- how many events are kept -/
def kev (σ : Nat → Int) : Int := if σ 6 < 30 then σ 6 else 30
/-- the sharing at key k tells what the row tells -/
def RS (k : Nat) (I : Ii) (σ : Nat → Int) : Prop :=
  I k 0 = σ 5 ∧ I k 1 = σ 4 ∧ I k 2 = kev σ ∧ (∀ v, v < (σ 0).toNat → I (k + 1) v = σ (21 + v)) ∧
  (∀ l, l ≤ (σ 5).toNat → I (k + 2) l = σ (105 + l)) ∧ (∀ l v, l ≤ (σ 5).toNat → v < (σ 0).toNat → I (k + 3) (14 * l + v) = gL σ l v) ∧
  (∀ i w, i < (kev σ).toNat → w < 4 → I (k + 4) (4 * i + w) = σ (230 + 4 * ((σ 6 - 1 - (i : Int)) % 30).toNat + w))
/-- what holds of a row besides its bounds -/
def VE (σ : Nat → Int) : Prop := (∀ e, e < (σ 1).toNat → σ (110 + e) < σ 0 ∧ σ (150 + e) < σ 0 ∧ σ (110 + e) ≠ σ (150 + e)) ∧
  (∀ e f, e < (σ 1).toNat → f < (σ 1).toNat → (σ (110 + e) = σ (110 + f) ∧ σ (150 + e) = σ (150 + f)) ∨ (σ (110 + e) = σ (150 + f) ∧ σ (150 + e) = σ (110 + f)) → e = f)
def VL (σ : Nat → Int) (l : Nat) : Prop := (∀ v, v < (σ 0).toNat → gL σ l v < σ (105 + l)) ∧ ∀ g : Int, 0 ≤ g → g < σ (105 + l) → ∃ v, v < (σ 0).toNat ∧ gL σ l v = g
def VS (σ : Nat → Int) : Prop := MS σ ∧ VE σ ∧ (∀ v, v < (σ 0).toNat → σ (21 + v) < σ 2) ∧ (∀ v, v < (σ 0).toNat → gL σ 0 v = (v : Int)) ∧ σ 105 = σ 0 ∧
  (∀ l, l ≤ (σ 5).toNat → VL σ l) ∧ (∀ l u v, l < (σ 5).toNat → u < (σ 0).toNat → v < (σ 0).toNat → gL σ l u = gL σ l v → gL σ (l + 1) u = gL σ (l + 1) v) ∧
  (∀ u v, u < (σ 0).toNat → v < (σ 0).toNat → gAt σ u = gAt σ v → σ (21 + u) = σ (21 + v))
section VSF
variable {σ : Nat → Int}
theorem VS.M (h : VS σ) : MS σ := h.1
theorem VS.E (h : VS σ) : VE σ := h.2.1
theorem VS.p (h : VS σ) {v : Nat} (hv : v < (σ 0).toNat) : 0 ≤ σ (21 + v) ∧ σ (21 + v) < σ 2 := ⟨(ms_p h.1 v (by have := ms_0 h.1; omega)).1, h.2.2.1 v hv⟩
theorem VS.g0 (h : VS σ) {v : Nat} (hv : v < (σ 0).toNat) : gL σ 0 v = (v : Int) := h.2.2.2.1 v hv
theorem VS.n0 (h : VS σ) : σ 105 = σ 0 := h.2.2.2.2.1
theorem VS.L (h : VS σ) {l : Nat} (hl : l ≤ (σ 5).toNat) : VL σ l := h.2.2.2.2.2.1 l hl
theorem VS.nest (h : VS σ) {l u v : Nat} (hl : l < (σ 5).toNat) (hu : u < (σ 0).toNat) (hv : v < (σ 0).toNat) (e : gL σ l u = gL σ l v) : gL σ (l + 1) u = gL σ (l + 1) v := h.2.2.2.2.2.2.1 l u v hl hu hv e
theorem VS.one (h : VS σ) {u v : Nat} (hu : u < (σ 0).toNat) (hv : v < (σ 0).toNat) (e : gAt σ u = gAt σ v) : σ (21 + u) = σ (21 + v) := h.2.2.2.2.2.2.2 u v hu hv e
theorem VS.a (h : VS σ) {e : Nat} (he : e < (σ 1).toNat) : 0 ≤ σ (110 + e) ∧ σ (110 + e) < σ 0 := ⟨(ms_a h.1 e (by have := ms_1 h.1; omega)).1, (h.2.1.1 e he).1⟩
theorem VS.b (h : VS σ) {e : Nat} (he : e < (σ 1).toNat) : 0 ≤ σ (150 + e) ∧ σ (150 + e) < σ 0 := ⟨(ms_b h.1 e (by have := ms_1 h.1; omega)).1, (h.2.1.1 e he).2.1⟩
theorem VS.ab (h : VS σ) {e : Nat} (he : e < (σ 1).toNat) : σ (110 + e) ≠ σ (150 + e) := (h.2.1.1 e he).2.2
theorem VS.w (h : VS σ) {e : Nat} (he : e < (σ 1).toNat) : 0 ≤ σ (190 + e) ∧ σ (190 + e) ≤ 99 := ms_h h.1 e (by have := ms_1 h.1; omega)
theorem VS.g (h : VS σ) {v : Nat} (hv : v < (σ 0).toNat) : 0 ≤ gAt σ v ∧ gAt σ v < grs σ := ⟨(gAt_b h.1 (by have := ms_0 h.1; omega)).1, (h.L (Nat.le_refl _)).1 v hv⟩
theorem VS.GV (h : VS σ) : GV σ := (h.L (Nat.le_refl _)).2
theorem VS.gl (h : VS σ) {l v : Nat} (hl : l ≤ (σ 5).toNat) (hv : v < (σ 0).toNat) : 0 ≤ gL σ l v ∧ gL σ l v < σ (105 + l) := by
  have b0 := ms_0 h.1
  have b5 := ms_5 h.1
  exact ⟨(ms_g2 h.1 (14 * l) v (by omega)).1, (h.L hl).1 v hv⟩
/-- a group's part is that of each of its vertices -/
theorem VS.gp (h : VS σ) {v : Nat} (hv : v < (σ 0).toNat) : gPt σ (gAt σ v) = σ (21 + v) := by
  have b0 := ms_0 h.1
  have hl : ¬ v < fv (fun u => decide (gAt σ u = gAt σ v)) 14 := fun z => by
    have := fv_min z
    simp at this
  have h1 := fv_lt (c := fun u => decide (gAt σ u = gAt σ v)) (n := 14) (by omega)
  unfold gPt
  exact h.one (by omega) hv (of_decide_eq_true h1)
theorem VS.gpb (h : VS σ) {g : Int} (h0 : 0 ≤ g) (h1 : g < grs σ) : 0 ≤ gPt σ g ∧ gPt σ g < σ 2 := by
  obtain ⟨v, hv, e⟩ := h.GV g h0 h1
  rw [← e, h.gp hv]
  exact h.p hv
end VSF
section RGF
variable {k : Nat} {I : Ii} {J : Jj} {σ : Nat → Int} {nm : Nat → Int64}
theorem RG.n (h : RG k I J σ nm) : I k 0 = σ 0 := h.1
theorem RG.m (h : RG k I J σ nm) : I k 1 = σ 1 := h.2.1
theorem RG.q (h : RG k I J σ nm) : I k 2 = σ 2 := h.2.2.1
theorem RG.s (h : RG k I J σ nm) : I k 3 = σ 3 := h.2.2.2.1
theorem RG.aw (h : RG k I J σ nm) : I k 5 = allW σ := h.2.2.2.2.1
theorem RG.ae (h : RG k I J σ nm) : I k 6 = allE σ := h.2.2.2.2.2.1
theorem RG.w (h : RG k I J σ nm) {v : Nat} (hv : v < (σ 0).toNat) : I (k + 2) v = σ (7 + v) := h.2.2.2.2.2.2.1 v hv
theorem RG.z (h : RG k I J σ nm) {v : Nat} (hv : v < (σ 0).toNat) : J (k + 1) v = nm v := h.2.2.2.2.2.2.2.1 v hv
theorem RG.a (h : RG k I J σ nm) {e : Nat} (he : e < (σ 1).toNat) : I (k + 3) e = σ (110 + e) := h.2.2.2.2.2.2.2.2.1 e he
theorem RG.b (h : RG k I J σ nm) {e : Nat} (he : e < (σ 1).toNat) : I (k + 4) e = σ (150 + e) := h.2.2.2.2.2.2.2.2.2.1 e he
theorem RG.h (h : RG k I J σ nm) {e : Nat} (he : e < (σ 1).toNat) : I (k + 5) e = σ (190 + e) := h.2.2.2.2.2.2.2.2.2.2 e he
theorem RG.cong {I' : Ii} {J' : Jj} (h : RG k I J σ nm) (e0 : I' k = I k) (e1 : J' (k + 1) = J (k + 1)) (e2 : I' (k + 2) = I (k + 2)) (e3 : I' (k + 3) = I (k + 3)) (e4 : I' (k + 4) = I (k + 4)) (e5 : I' (k + 5) = I (k + 5)) : RG k I' J' σ nm := by
  unfold RG
  rw [e0, e1, e2, e3, e4, e5]
  exact h
theorem RS.l (h : RS k I σ) : I k 0 = σ 5 := h.1
theorem RS.c (h : RS k I σ) : I k 1 = σ 4 := h.2.1
theorem RS.e (h : RS k I σ) : I k 2 = kev σ := h.2.2.1
theorem RS.p (h : RS k I σ) {v : Nat} (hv : v < (σ 0).toNat) : I (k + 1) v = σ (21 + v) := h.2.2.2.1 v hv
theorem RS.n (h : RS k I σ) {l : Nat} (hl : l ≤ (σ 5).toNat) : I (k + 2) l = σ (105 + l) := h.2.2.2.2.1 l hl
theorem RS.g (h : RS k I σ) {l v : Nat} (hl : l ≤ (σ 5).toNat) (hv : v < (σ 0).toNat) : I (k + 3) (14 * l + v) = gL σ l v := h.2.2.2.2.2.1 l v hl hv
theorem RS.gA (h : RS k I σ) {v : Nat} (hv : v < (σ 0).toNat) : I (k + 3) (14 * (σ 5).toNat + v) = gAt σ v := h.g (Nat.le_refl _) hv
theorem RS.ev (h : RS k I σ) {i w : Nat} (hi : i < (kev σ).toNat) (hw : w < 4) : I (k + 4) (4 * i + w) = σ (230 + 4 * ((σ 6 - 1 - (i : Int)) % 30).toNat + w) := h.2.2.2.2.2.2 i w hi hw
theorem RS.cong {I' : Ii} (h : RS k I σ) (e0 : I' k = I k) (e1 : I' (k + 1) = I (k + 1)) (e2 : I' (k + 2) = I (k + 2)) (e3 : I' (k + 3) = I (k + 3)) (e4 : I' (k + 4) = I (k + 4)) : RS k I' σ := by
  unfold RS
  rw [e0, e1, e2, e3, e4]
  exact h
end RGF
theorem kev_b {σ : Nat → Int} (h : MS σ) : 0 ≤ kev σ ∧ kev σ ≤ 30 := by
  have := ms_6 h
  unfold kev
  split <;> omega
/-- the number of a name below n; -1 without one -/
def nmZ (f : Nat → Int64) (w : Int64) : Nat → Int
  | 0 => -1
  | n + 1 => if f n = w then (n : Int) else nmZ f w n
theorem nmZ_b (f : Nat → Int64) (w : Int64) : ∀ n, -1 ≤ nmZ f w n ∧ nmZ f w n < n
  | 0 => by simp [nmZ]
  | n + 1 => by
    have := nmZ_b f w n
    unfold nmZ
    split <;> omega
theorem nmZ_none {f : Nat → Int64} {w : Int64} : ∀ {n : Nat}, (∀ u, u < n → f u ≠ w) → nmZ f w n = -1
  | 0, _ => rfl
  | n + 1, h => by unfold nmZ; rw [if_neg (h n (by omega))]; exact nmZ_none (fun u hu => h u (by omega))
theorem nmZ_eq {f : Nat → Int64} {w : Int64} {v : Nat} : ∀ {n : Nat}, v < n → f v = w → (∀ u, u < n → f u = w → u = v) → nmZ f w n = (v : Int)
  | 0, h, _, _ => by omega
  | n + 1, h, e, hd => by
    unfold nmZ
    by_cases c : f n = w
    · rw [if_pos c, hd n (by omega) c]
    · rw [if_neg c]
      exact nmZ_eq (by by_cases q : v = n; · subst q; exact absurd e c
                       · omega) e (fun u hu => hd u (by omega))
theorem nmZ_at {f : Nat → Int64} {w : Int64} : ∀ {n : Nat}, nmZ f w n ≠ -1 → f (nmZ f w n).toNat = w
  | 0, h => absurd rfl h
  | n + 1, h => by
    unfold nmZ at h ⊢
    by_cases c : f n = w
    · rw [if_pos c]; exact c
    · rw [if_neg c] at h ⊢; exact nmZ_at h
theorem nmZ_cong {f g : Nat → Int64} {w : Int64} : ∀ {n : Nat}, (∀ u, u < n → f u = g u) → nmZ f w n = nmZ g w n
  | 0, _ => rfl
  | n + 1, h => by unfold nmZ; rw [h n (by omega), nmZ_cong (fun u hu => h u (by omega))]
/-- names differ -/
def ND (nm : Nat → Int64) (n : Nat) : Prop := ∀ u v, u < n → v < n → nm u = nm v → u = v
theorem two_bits {a b c d : Nat} (h : 2 ^ a ||| 2 ^ b = 2 ^ c ||| 2 ^ d) (hab : a ≠ b) : (a = c ∧ b = d) ∨ (a = d ∧ b = c) := by
  have key : ∀ i, (i = a ∨ i = b) ↔ (i = c ∨ i = d) := fun i => by
    have := congrArg (fun x => x.testBit i) h
    simp only [Nat.testBit_or, Nat.testBit_two_pow] at this
    constructor
    · intro q
      have h1 : (decide (a = i) || decide (b = i)) = true := by rcases q with rfl | rfl <;> simp
      rw [h1] at this
      simp at this
      omega
    · intro q
      have h1 : (decide (c = i) || decide (d = i)) = true := by rcases q with rfl | rfl <;> simp
      rw [h1] at this
      simp at this
      omega
  have h1 := (key a).mp (Or.inl rfl)
  have h2 := (key b).mp (Or.inr rfl)
  omega
theorem edgeZ_none {σ : Nat → Int} {a b : Int} : ∀ {n : Nat}, (∀ e, e < n → ¬ ((σ (110 + e) = a ∧ σ (150 + e) = b) ∨ (σ (110 + e) = b ∧ σ (150 + e) = a))) → edgeZ σ a b n = -1
  | 0, _ => rfl
  | n + 1, h => by unfold edgeZ; rw [if_neg (h n (by omega))]; exact edgeZ_none (fun u hu => h u (by omega))
theorem edgeZ_eq {σ : Nat → Int} {a b : Int} {v : Nat} : ∀ {n : Nat}, v < n → ((σ (110 + v) = a ∧ σ (150 + v) = b) ∨ (σ (110 + v) = b ∧ σ (150 + v) = a)) → (∀ u, u < n → ((σ (110 + u) = a ∧ σ (150 + u) = b) ∨ (σ (110 + u) = b ∧ σ (150 + u) = a)) → u = v) → edgeZ σ a b n = (v : Int)
  | 0, h, _, _ => by omega
  | n + 1, h, e, hd => by
    unfold edgeZ
    by_cases c : (σ (110 + n) = a ∧ σ (150 + n) = b) ∨ (σ (110 + n) = b ∧ σ (150 + n) = a)
    · rw [if_pos c, hd n (by omega) c]
    · rw [if_neg c]
      exact edgeZ_eq (by by_cases q : v = n; · subst q; exact absurd e c
                         · omega) e (fun u hu => hd u (by omega))
theorem shlT1 {v : Nat} (hv : v < 14) : shlZ 1 (v : Int) = ((2 ^ v : Nat) : Int) := shl1Z (by omega)
theorem pow14 {v : Nat} (hv : v < 14) : 2 ^ v < 16384 := by
  have : 2 ^ v < 2 ^ 14 := Nat.pow_lt_pow_right (by decide) hv
  omega
theorem or14 {a b : Nat} (ha : a < 16384) (hb : b < 16384) : a ||| b < 16384 := Nat.or_lt_two_pow (n := 14) ha hb
section CG
variable {k : Nat} {I : Ii} {J : Jj} {σ : Nat → Int} {nm : Nat → Int64}
theorem nameOf_of (hk : gK k) {x : Int} {v : Nat} (hx : x = (v : Int)) (hv : v < 14) {Q : Int64 → Ii → Jj → Prop} (h : Q (J (k + 1) v) I J) : wp_X2_nameOf k x I J Q := by
  subst hx
  exact ⟨hk, rgK (by omega), fun c => by omega, fun c => ⟨fun c2 => by omega, fun c2 => ⟨by omega, h⟩⟩⟩
theorem c_vertexNamed (hk : gK k) {w : Int64} (hM : MS σ) (hR : RG k I J σ nm) (hd : ND nm (σ 0).toNat) : wp_X2_vertexNamed k w I J (fun r _ _ => r = nmZ nm w (σ 0).toNat) := by
  have b := ms_0 hM
  have hn := hR.n
  refine ⟨hk, 15, loopN (L := fun m (_ : Unit) v => L_X2_vertexNamed_2 k w _ m v I J) (fun v _ => ∀ u, u < v → nm u ≠ w) (N := (σ 0).toNat) (fun m v _ hv hi kk => ?_) 15 0 () (by omega) (by omega) (fun u hu => by omega)⟩
  refine ls_X2_vertexNamed_2 ?_
  unfold Lb_X2_vertexNamed_2
  refine ⟨rgK (by omega), rgK (by omega), fun c => ?_, fun c => ?_⟩
  · rw [nmZ_none (fun u hu => hi u (by omega))]
  · refine nameOf_of hk rfl (by omega) ⟨fun d => kk (by omega) () (fun u hu => ?_), fun d => ?_⟩
    · rw [cmpL_eq, hR.z (by omega)] at d
      by_cases q : u = v
      · rw [q]; exact d
      · exact hi u (by omega)
    · rw [cmpL_eq, hR.z (by omega)] at d
      rw [nmZ_eq (v := v) (by omega) d (fun u hu e => hd u v hu (by omega) (by rw [e, d]))]
theorem c_limit (hk : gK k) (hM : MS σ) (hR : RG k I J σ nm) : wp_X2_limit k I J (fun r _ _ => r = limZ σ) := by
  have b := ms_2 hM
  have b2 := allW_b hM
  have h2 := hR.q
  have h5 := hR.aw
  refine ⟨hk, rgK (by omega), fun c => ⟨by omega, ?_⟩, fun c => by omega⟩
  rw [h2, h5, hR.s]
  rfl
theorem endsOf_of (hk : gK k) (hV : VS σ) (hR : RG k I J σ nm) {x : Int} {e : Nat} (hx : x = (e : Int)) (he : e < (σ 1).toNat) {Q : Int → Ii → Jj → Prop} (h : Q ((2 ^ (σ (110 + e)).toNat ||| 2 ^ (σ (150 + e)).toNat : Nat) : Int) I J) : wp_X2_endsOf k x I J Q := by
  have b := ms_1 hV.M
  have b0 := ms_0 hV.M
  have ha := hV.a he
  have hb := hV.b he
  refine ⟨hk, at_of (srX2_3 hk) hx (by omega) (at_of (srX2_4 hk) hx (by omega) ?_)⟩
  rw [hR.a he, hR.b he]
  have e1 : shlZ 1 (σ (110 + e)) = ((2 ^ (σ (110 + e)).toNat : Nat) : Int) := by
    have := shlT1 (v := (σ (110 + e)).toNat) (by omega)
    rwa [Int.toNat_of_nonneg ha.1] at this
  have e2 : shlZ 1 (σ (150 + e)) = ((2 ^ (σ (150 + e)).toNat : Nat) : Int) := by
    have := shlT1 (v := (σ (150 + e)).toNat) (by omega)
    rwa [Int.toNat_of_nonneg hb.1] at this
  have p1 := pow14 (v := (σ (110 + e)).toNat) (by omega)
  have p2 := pow14 (v := (σ (150 + e)).toNat) (by omega)
  rw [e1, e2, orZ_nat (by omega) (by omega)]
  exact h
theorem c_edgeOf (hk : gK k) (hV : VS σ) (hR : RG k I J σ nm) {x y : Int} (hx : 0 ≤ x ∧ x < σ 0) (hy : 0 ≤ y ∧ y < σ 0) : wp_X2_edgeOf k x y I J (fun r _ _ => r = edgeZ σ x y (σ 1).toNat) := by
  have b := ms_1 hV.M
  have b0 := ms_0 hV.M
  have hm := hR.m
  refine ⟨hk, rgK (by omega), rgK (by omega), fun c => ?_, fun c => ?_⟩
  · have e1 : shlZ 1 x = ((2 ^ x.toNat : Nat) : Int) := by
      have := shlT1 (v := x.toNat) (by omega)
      rwa [Int.toNat_of_nonneg hx.1] at this
    have e2 : shlZ 1 y = ((2 ^ y.toNat : Nat) : Int) := by
      have := shlT1 (v := y.toNat) (by omega)
      rwa [Int.toNat_of_nonneg hy.1] at this
    have p1 := pow14 (v := x.toNat) (by omega)
    have p2 := pow14 (v := y.toNat) (by omega)
    have p3 := or14 p1 p2
    rw [e1, e2, orZ_nat (by omega) (by omega)]
    refine ⟨41, loopN (L := fun m (_ : Unit) v => L_X2_edgeOf_18 k x y _ m ((2 ^ x.toNat ||| 2 ^ y.toNat : Nat) : Int) v I J) (fun v _ => ∀ e, e < v → ¬ ((σ (110 + e) = x ∧ σ (150 + e) = y) ∨ (σ (110 + e) = y ∧ σ (150 + e) = x))) (N := (σ 1).toNat) (fun m v _ hv hi kk => ?_) 41 0 () (by omega) (by omega) (fun u hu => by omega)⟩
    refine ls_X2_edgeOf_18 ?_
    unfold Lb_X2_edgeOf_18
    refine ⟨rgK (by omega), rgK (by omega), fun c2 => ?_, fun c2 => ?_⟩
    · rw [edgeZ_none (fun e he => hi e (by omega))]
    · have hv' : v < (σ 1).toNat := by omega
      have ha := hV.a hv'
      have hb := hV.b hv'
      have q1 := pow14 (v := (σ (110 + v)).toNat) (by omega)
      have q2 := pow14 (v := (σ (150 + v)).toNat) (by omega)
      have q3 := or14 q1 q2
      have hiff : 2 ^ (σ (110 + v)).toNat ||| 2 ^ (σ (150 + v)).toNat = 2 ^ x.toNat ||| 2 ^ y.toNat ↔ ((σ (110 + v) = x ∧ σ (150 + v) = y) ∨ (σ (110 + v) = y ∧ σ (150 + v) = x)) := by
        constructor
        · intro z
          have := two_bits z (by have := hV.ab hv'; omega)
          omega
        · rintro (⟨z1, z2⟩ | ⟨z1, z2⟩)
          · rw [z1, z2]
          · rw [z1, z2, Nat.or_comm]
      refine endsOf_of hk hV hR rfl hv' ⟨rgK (by omega), rgK (by omega), fun d => kk (by omega) () (fun e he => ?_), fun d => ?_⟩
      · by_cases q : e = v
        · subst q
          exact fun z => d (by rw [hiff.mpr z])
        · exact hi e (by omega)
      · have hh := hiff.mp (by omega)
        rw [edgeZ_eq (v := v) hv' hh (fun u hu z => hV.E.2 u v hu hv' (by omega))]
  · rw [edgeZ_none (fun e he z => hV.ab he (by omega))]
end CG
/-! ===== what comes together by edges ===== -/
theorem bt_iZ {n i : Nat} (hi : i < 32) : bt (iZ (n : Int)) i = n.testBit i := by
  rw [← nI_iZ]
  unfold bt
  show (BitVec.ofNat 32 n).getLsbD i = _
  rw [BitVec.getLsbD_ofNat]
  simp [hi]
theorem iZ_m1 : iZ (-1) = -1 := by decide
theorem andn_zero {s W : Nat} (hs : s < 2147483648) : andZ (s : Int) (xorZ (W : Int) (-1)) = 0 ↔ ∀ i, s.testBit i = true → W.testBit i = true := by
  unfold andZ xorZ
  rw [iZ_back, iZ_m1]
  have e0 : ((iZ (s : Int)) &&& (iZ (W : Int) ^^^ -1)).toInt = 0 ↔ ((iZ (s : Int)) &&& (iZ (W : Int) ^^^ -1)) = 0 := by
    constructor
    · intro h
      exact Int32.toInt_inj.mp (by rw [h]; rfl)
    · intro h; rw [h]; rfl
  rw [e0]
  constructor
  · intro h i hi
    by_cases c : i < 32
    · have := congrArg (fun x => bt x i) h
      simp only [b_and, b_xor, bt_iZ c, b_m1 i c, b_0, hi] at this
      simpa using this
    · have : s < 2 ^ i := Nat.lt_of_lt_of_le hs (Nat.pow_le_pow_right (by decide) (by omega) : 2 ^ 31 ≤ 2 ^ i)
      rw [Nat.testBit_lt_two_pow this] at hi
      cases hi
  · intro h
    refine b_ext (fun i hi => ?_)
    rw [b_and, b_xor, bt_iZ hi, bt_iZ hi, b_m1 i hi, b_0]
    cases c : s.testBit i
    · rfl
    · rw [h i c]; rfl
theorem and_zero {s t : Nat} (hs : s < 2147483648) : andZ (s : Int) (t : Int) = 0 ↔ ∀ i, s.testBit i = true → t.testBit i = false := by
  rw [andZ_nat hs]
  constructor
  · intro h i hi
    have h : s &&& t = 0 := by omega
    have := congrArg (fun x => x.testBit i) h
    simp only [Nat.testBit_and, hi, Nat.zero_testBit, Bool.true_and] at this
    exact this
  · intro h
    have : s &&& t = 0 := by
      apply Nat.eq_of_testBit_eq
      intro i
      rw [Nat.testBit_and, Nat.zero_testBit]
      cases c : s.testBit i
      · rfl
      · rw [h i c]; rfl
    rw [this]; rfl
/-- a set without what another one has -/
def difN (s W : Nat) : Nat := s ^^^ (s &&& W)
theorem difN_bit (s W i : Nat) : (difN s W).testBit i = (s.testBit i && !W.testBit i) := by
  unfold difN
  rw [Nat.testBit_xor, Nat.testBit_and]
  cases s.testBit i <;> cases W.testBit i <;> rfl
theorem difN_lt {s W n : Nat} (h : s < 2 ^ n) : difN s W < 2 ^ n := Nat.xor_lt_two_pow h (Nat.lt_of_le_of_lt (Nat.and_le_left) h)
theorem andn_nat {s W : Nat} (hs : s < 2147483648) : andZ (s : Int) (xorZ (W : Int) (-1)) = ((difN s W : Nat) : Int) := by
  have hd : difN s W < 2 ^ 31 := difN_lt hs
  have e : iZ (s : Int) &&& (iZ (W : Int) ^^^ -1) = iZ ((difN s W : Nat) : Int) := by
    refine b_ext (fun i hi => ?_)
    rw [b_and, b_xor, bt_iZ hi, bt_iZ hi, b_m1 i hi, bt_iZ hi, difN_bit]
    cases s.testBit i <;> cases W.testBit i <;> rfl
  unfold andZ xorZ
  rw [iZ_back, iZ_m1, e]
  exact iZ_toInt (by omega)
/-- one edge is looked at -/
def stE (σ : Nat → Int) (W s e : Nat) : Nat :=
  if (W.testBit (σ (110 + e)).toNat = true ∧ W.testBit (σ (150 + e)).toNat = true) ∧ (s.testBit (σ (110 + e)).toNat = true ∨ s.testBit (σ (150 + e)).toNat = true) then s ||| (2 ^ (σ (110 + e)).toNat ||| 2 ^ (σ (150 + e)).toNat) else s
/-- a lap over the edges -/
def lapE (σ : Nat → Int) (W s : Nat) : Nat → Nat
  | 0 => s
  | e + 1 => stE σ W (lapE σ W s e) e
theorem lapE_succ (σ : Nat → Int) (W s e : Nat) : lapE σ W s (e + 1) = stE σ W (lapE σ W s e) e := rfl
/-- laps -/
def lpZ (σ : Nat → Int) (W s : Nat) : Nat → Nat
  | 0 => s
  | n + 1 => lapE σ W (lpZ σ W s n) (σ 1).toNat
theorem lpZ_succ (σ : Nat → Int) (W s n : Nat) : lpZ σ W s (n + 1) = lapE σ W (lpZ σ W s n) (σ 1).toNat := rfl
def tgZ (σ : Nat → Int) (W v : Nat) : Nat := lpZ σ W (2 ^ v) (σ 0).toNat
theorem stE_lt {σ : Nat → Int} {W s e n : Nat} (hs : s < 2 ^ n) (ha : (σ (110 + e)).toNat < n) (hb : (σ (150 + e)).toNat < n) : stE σ W s e < 2 ^ n := by
  unfold stE
  split
  · exact Nat.or_lt_two_pow hs (Nat.or_lt_two_pow (Nat.pow_lt_pow_right (by decide) ha) (Nat.pow_lt_pow_right (by decide) hb))
  · exact hs
theorem stE_sub (σ : Nat → Int) (W s e : Nat) {i : Nat} (h : s.testBit i = true) : (stE σ W s e).testBit i = true := by
  unfold stE
  split
  · rw [Nat.testBit_or, h, Bool.true_or]
  · exact h
theorem lapE_sub (σ : Nat → Int) (W s : Nat) : ∀ (e : Nat) {i : Nat}, s.testBit i = true → (lapE σ W s e).testBit i = true
  | 0, _, h => h
  | e + 1, _, h => stE_sub σ W _ e (lapE_sub σ W s e h)
theorem lapE_lt {σ : Nat → Int} {W s n : Nat} (hs : s < 2 ^ n) : ∀ {e : Nat}, (∀ f, f < e → (σ (110 + f)).toNat < n ∧ (σ (150 + f)).toNat < n) → lapE σ W s e < 2 ^ n
  | 0, _ => hs
  | e + 1, h => stE_lt (lapE_lt hs (fun f hf => h f (by omega))) (h e (by omega)).1 (h e (by omega)).2
theorem lpZ_lt {σ : Nat → Int} {W s n : Nat} (hs : s < 2 ^ n) (h : ∀ f, f < (σ 1).toNat → (σ (110 + f)).toNat < n ∧ (σ (150 + f)).toNat < n) : ∀ (l : Nat), lpZ σ W s l < 2 ^ n
  | 0 => hs
  | l + 1 => lapE_lt (lpZ_lt hs h l) h
/-- bits, counted -/
theorem cntB_le {s t : Nat} (h : ∀ i, s.testBit i = true → t.testBit i = true) : ∀ n, cntB s n ≤ cntB t n
  | 0 => Int.le_refl _
  | n + 1 => by
    have ih := cntB_le h n
    unfold cntB at ih ⊢
    rw [sm_succ, sm_succ]
    by_cases c : s.testBit n = true
    · rw [if_pos c, if_pos (h n c)]; omega
    · rw [if_neg c]; split <;> omega
theorem cntB_lt {s t : Nat} (h : ∀ i, s.testBit i = true → t.testBit i = true) : ∀ {n : Nat}, s < 2 ^ n → t < 2 ^ n → s ≠ t → cntB s n < cntB t n := by
  intro n hs ht hne
  have hex : ∃ i, i < n ∧ t.testBit i = true ∧ s.testBit i = false := by
    apply Classical.byContradiction
    intro hno
    apply hne
    apply Nat.eq_of_testBit_eq
    intro i
    cases c : t.testBit i
    · cases c2 : s.testBit i
      · rfl
      · rw [h i c2] at c; cases c
    · cases c2 : s.testBit i
      · by_cases hi : i < n
        · exact absurd ⟨i, hi, c, c2⟩ hno
        · have : t < 2 ^ i := Nat.lt_of_lt_of_le ht (Nat.pow_le_pow_right (by decide) (by omega))
          rw [Nat.testBit_lt_two_pow this] at c; cases c
      · rfl
  obtain ⟨i, hi, h1, h2⟩ := hex
  have key : ∀ m, i < m → cntB s m < cntB t m := by
    intro m
    induction m with
    | zero => intro hm; omega
    | succ m ih =>
      intro hm
      unfold cntB at ih ⊢
      rw [sm_succ, sm_succ]
      by_cases c : i = m
      · subst c
        have := cntB_le h i
        unfold cntB at this
        rw [h1, h2, if_neg (by decide), if_pos rfl]; omega
      · have := ih (by omega)
        by_cases c2 : s.testBit m = true
        · rw [if_pos c2, if_pos (h m c2)]; omega
        · rw [if_neg c2]; split <;> omega
  exact key n hi
theorem cntB_n (s : Nat) : ∀ n, 0 ≤ cntB s n ∧ cntB s n ≤ n
  | 0 => by simp [cntB, sm]
  | n + 1 => by
    have := cntB_n s n
    unfold cntB at this ⊢
    rw [sm_succ]
    split <;> omega
theorem cntB_pos {s i : Nat} (h : s.testBit i = true) {n : Nat} (hi : i < n) : 1 ≤ cntB s n := by
  have h1 := cntB_le (s := 2 ^ i) (t := s) (fun j hj => by
    rw [Nat.testBit_two_pow] at hj
    rw [← of_decide_eq_true hj]; exact h) n
  have h2 : ∀ m, i < m → 1 ≤ cntB (2 ^ i) m := by
    intro m
    induction m with
    | zero => intro hm; omega
    | succ m ih =>
      intro hm
      unfold cntB at ih ⊢
      rw [sm_succ]
      by_cases c : i = m
      · subst c
        have := (cntB_n (2 ^ i) i).1
        unfold cntB at this
        rw [if_pos (by rw [Nat.testBit_two_pow]; simp)]; omega
      · have := ih (by omega)
        split <;> omega
  have := h2 n hi
  omega
theorem lpZ_stay {σ : Nat → Int} {W s l : Nat} (h : lpZ σ W s (l + 1) = lpZ σ W s l) : ∀ d, lpZ σ W s (l + d) = lpZ σ W s l
  | 0 => rfl
  | d + 1 => by
    rw [show l + (d + 1) = (l + d) + 1 by omega, lpZ_succ, lpZ_stay h d, ← lpZ_succ]
    exact h
/-- behind as many laps as there are vertices nothing more comes -/
theorem lpZ_fix {σ : Nat → Int} {W v n : Nat} (hv : v < n) (h : ∀ f, f < (σ 1).toNat → (σ (110 + f)).toNat < n ∧ (σ (150 + f)).toNat < n) : ∃ l, l < n ∧ lpZ σ W (2 ^ v) (l + 1) = lpZ σ W (2 ^ v) l := by
  apply Classical.byContradiction
  intro hno
  have hs : 2 ^ v < 2 ^ n := Nat.pow_lt_pow_right (by decide) hv
  have key : ∀ l, l ≤ n → (l : Int) + 1 ≤ cntB (lpZ σ W (2 ^ v) l) n := by
    intro l
    induction l with
    | zero =>
      intro _
      have := cntB_pos (s := 2 ^ v) (i := v) (by rw [Nat.testBit_two_pow]; simp) hv
      show ((0 : Nat) : Int) + 1 ≤ cntB (2 ^ v) n
      omega
    | succ l ih =>
      intro hl
      have h1 := ih (by omega)
      have h2 := cntB_lt (s := lpZ σ W (2 ^ v) l) (t := lpZ σ W (2 ^ v) (l + 1)) (fun i hi => lapE_sub σ W _ _ hi) (lpZ_lt hs h l) (lpZ_lt hs h (l + 1)) (fun e => hno ⟨l, by omega, e.symm⟩)
      omega
  have h1 := key n (Nat.le_refl _)
  have h2 := (cntB_n (lpZ σ W (2 ^ v) n) n).2
  omega
theorem tgZ_of {σ : Nat → Int} {W v l : Nat} (hv : v < (σ 0).toNat) (h : ∀ f, f < (σ 1).toNat → (σ (110 + f)).toNat < (σ 0).toNat ∧ (σ (150 + f)).toNat < (σ 0).toNat) (hl : lpZ σ W (2 ^ v) (l + 1) = lpZ σ W (2 ^ v) l ∨ (σ 0).toNat ≤ l) : lpZ σ W (2 ^ v) l = tgZ σ W v := by
  obtain ⟨j, hj, e⟩ := lpZ_fix (W := W) hv h
  have h1 : ∀ m, j ≤ m → lpZ σ W (2 ^ v) m = lpZ σ W (2 ^ v) j := fun m hm => by
    have := lpZ_stay e (m - j)
    rwa [show j + (m - j) = m by omega] at this
  unfold tgZ
  rw [h1 (σ 0).toNat (by omega)]
  by_cases c : j ≤ l
  · exact h1 l c
  · have hl : lpZ σ W (2 ^ v) (l + 1) = lpZ σ W (2 ^ v) l := by
      rcases hl with hl | hl
      · exact hl
      · omega
    have := lpZ_stay hl (j - l)
    rw [show l + (j - l) = j by omega] at this
    exact this.symm
theorem VS.ends {σ : Nat → Int} (h : VS σ) : ∀ f, f < (σ 1).toNat → (σ (110 + f)).toNat < (σ 0).toNat ∧ (σ (150 + f)).toNat < (σ 0).toNat := fun f hf => by
  have := h.a hf
  have := h.b hf
  omega
theorem VS.ends14 {σ : Nat → Int} (h : VS σ) : ∀ f, f < (σ 1).toNat → (σ (110 + f)).toNat < 14 ∧ (σ (150 + f)).toNat < 14 := fun f hf => by
  have := h.ends f hf
  have := ms_0 h.M
  omega
section TG
variable {I : Ii} {J : Jj}
variable {k : Nat} {σ : Nat → Int} {nm : Nat → Int64}
theorem c_spread {x y : Int} {v W : Nat} (hk : gK k) (hV : VS σ) (hR : RG k I J σ nm) (hx : x = shlZ 1 (v : Int)) (hv : v < (σ 0).toNat) (hy : y = (W : Int)) (hW : W < 16384) : wp_X2_spread k x y I J (fun r _ _ => r = ((tgZ σ W v : Nat) : Int)) := by
  have b0 := ms_0 hV.M
  have b1 := ms_1 hV.M
  have p0 := pow14 (v := v) (by omega)
  have hm := hR.m
  rw [shlT1 (by omega)] at hx
  subst hx hy
  refine ⟨hk, 15, loopN (L := fun n (s : Nat) l => L_X2_spread_5 k ((2 ^ v : Nat) : Int) (W : Int) _ n (s : Int) l I J) (fun l s => s = lpZ σ W (2 ^ v) l) (N := 14) (fun n l s hl hs kk => ?_) 15 0 (2 ^ v) (by omega) (by omega) rfl⟩
  refine ls_X2_spread_5 ?_
  generalize hr : L_X2_spread_5 k ((2 ^ v : Nat) : Int) (W : Int) _ n = r at kk ⊢
  unfold Lb_X2_spread_5
  have hs14 : s < 2 ^ 14 := by rw [hs]; exact lpZ_lt (by omega) hV.ends14 l
  refine ⟨rgK (by omega), fun c => ?_, fun c => ?_⟩
  · rw [hs, tgZ_of hv hV.ends (Or.inr (by omega))]
  · refine ⟨41, loopN (L := fun n (t : Nat) e => L_X2_spread_18 k ((2 ^ v : Nat) : Int) (W : Int) _ r n (t : Int) (l : Int) (s : Int) e I J) (fun e t => t = lapE σ W s e) (N := (σ 1).toNat) (fun n e t he ht k2 => ?_) 41 0 s (by omega) (by omega) rfl⟩
    refine ls_X2_spread_18 ?_
    generalize hr2 : L_X2_spread_18 k ((2 ^ v : Nat) : Int) (W : Int) _ r n = r2 at k2 ⊢
    have ht14 : t < 2 ^ 14 := by
      rw [ht]
      exact lapE_lt hs14 (fun f hf => hV.ends14 f (by omega))
    unfold Lb_X2_spread_18
    refine ⟨rgK (by omega), rgK (by omega), fun c2 => ⟨rgK (by omega), rgK (by omega), fun d => kk (by omega) _ ?_, fun d => ?_⟩, fun c2 => ?_⟩
    · rw [ht, hs, lpZ_succ, show e = (σ 1).toNat by omega]
    · have e1 : lpZ σ W (2 ^ v) (l + 1) = lpZ σ W (2 ^ v) l := by
        rw [lpZ_succ, ← hs, ← show e = (σ 1).toNat by omega, ← ht]; omega
      rw [← tgZ_of hv hV.ends (Or.inl e1), ← hs, ← d]
    · have he' : e < (σ 1).toNat := by omega
      have h1 := hV.a he'
      have h2 := hV.b he'
      have pa := pow14 (v := (σ (110 + e)).toNat) (by omega)
      have pb := pow14 (v := (σ (150 + e)).toNat) (by omega)
      have po := or14 pa pb
      have nx : ∀ t' : Nat, t' = stE σ W t e → r2 (t' : Int) (l : Int) (s : Int) ((e : Int) + 1) I J := fun t' h => k2 he' t' (by rw [h, ht]; rfl)
      refine endsOf_of hk hV hR rfl he' ?_
      have hst : stE σ W t e = if (W.testBit (σ (110 + e)).toNat = true ∧ W.testBit (σ (150 + e)).toNat = true) ∧ (t.testBit (σ (110 + e)).toNat = true ∨ t.testBit (σ (150 + e)).toNat = true) then t ||| (2 ^ (σ (110 + e)).toNat ||| 2 ^ (σ (150 + e)).toNat) else t := rfl
      generalize (σ (110 + e)).toNat = A at pa po hst
      generalize (σ (150 + e)).toNat = B at pb po hst
      have w1 : andZ ((2 ^ A ||| 2 ^ B : Nat) : Int) (xorZ (W : Int) (-1)) = 0 ↔ (W.testBit A = true ∧ W.testBit B = true) := by
        rw [andn_zero (by omega)]
        constructor
        · intro h
          exact ⟨h A (by simp [Nat.testBit_or, Nat.testBit_two_pow]), h B (by simp [Nat.testBit_or, Nat.testBit_two_pow])⟩
        · intro h i hi
          simp only [Nat.testBit_or, Nat.testBit_two_pow, Bool.or_eq_true, decide_eq_true_eq] at hi
          rcases hi with rfl | rfl
          · exact h.1
          · exact h.2
      have w2 : andZ ((2 ^ A ||| 2 ^ B : Nat) : Int) (t : Int) = 0 ↔ ¬ (t.testBit A = true ∨ t.testBit B = true) := by
        rw [and_zero (by omega)]
        constructor
        · intro h z
          have q1 := h A (by simp [Nat.testBit_or, Nat.testBit_two_pow])
          have q2 := h B (by simp [Nat.testBit_or, Nat.testBit_two_pow])
          rw [q1, q2] at z
          simp at z
        · intro h i hi
          simp only [Nat.testBit_or, Nat.testBit_two_pow, Bool.or_eq_true, decide_eq_true_eq] at hi
          cases c : t.testBit i
          · rfl
          · rcases hi with rfl | rfl
            · exact absurd (Or.inl c) h
            · exact absurd (Or.inr c) h
      refine ⟨fun d => nx t ?_, fun d => ⟨fun d2 => nx t ?_, fun d2 => ?_⟩⟩
      · rw [hst, if_neg (fun z => d (w1.mpr z.1))]
      · rw [hst, if_neg (fun z => (w2.mp d2) z.2)]
      · rw [orZ_nat (by omega) (by omega)]
        refine nx _ ?_
        rw [hst, if_pos ⟨w1.mp d, Classical.byContradiction (fun z => d2 (w2.mpr z))⟩]
end TG
/-! ===== pieces ===== -/
/-- a number's bits, counted by steps of the library -/
def bcA (s : Nat) : Nat := s - ((s / 2) &&& 1431655765)
def bcZ (s : Nat) : Nat := (bcA s &&& 858993459) + ((bcA s / 4) &&& 858993459)
def bcY (s : Nat) : Nat := (bcZ s + bcZ s / 16) &&& 252645135
def bcX (s : Nat) : Nat := bcY s + bcY s / 256
def bcN (s : Nat) : Nat := (bcX s + bcX s / 65536) &&& 63
def cN (s : Nat) : Nat → Nat
  | 0 => 0
  | n + 1 => cN s n + s / 2 ^ n % 2
set_option maxRecDepth 100000 in
theorem bc_all : ∀ a, a < 128 → ∀ b, b < 128 → bcN (128 * a + b) = cN (128 * a + b) 14 := by decide +kernel
theorem bcN_cN {s : Nat} (h : s < 16384) : bcN s = cN s 14 := by
  have := bc_all (s / 128) (by omega) (s % 128) (by omega)
  rwa [show 128 * (s / 128) + s % 128 = s by omega] at this
theorem cntB_cN (s : Nat) : ∀ n, cntB s n = ((cN s n : Nat) : Int)
  | 0 => rfl
  | n + 1 => by
    have ih := cntB_cN s n
    show sm _ (n + 1) = ((cN s n + s / 2 ^ n % 2 : Nat) : Int)
    unfold cntB at ih
    rw [sm_succ, ih, Nat.testBit_eq_decide_div_mod_eq]
    by_cases c : s / 2 ^ n % 2 = 1
    · rw [if_pos (by simp [c]), c]; rfl
    · rw [if_neg (by simp [c]), show s / 2 ^ n % 2 = 0 by omega]; rfl

