/-! ===== the reference's row: what holds of its numbers ===== -/
/-- the bounds of the numbers of the reference's row -/
def MS (σ : Nat → Int) : Prop := (0 ≤ σ 0 ∧ σ 0 ≤ 14) ∧ (0 ≤ σ 1 ∧ σ 1 ≤ 40) ∧ (2 ≤ σ 2 ∧ σ 2 ≤ 4) ∧ (0 ≤ σ 3 ∧ σ 3 ≤ 99) ∧ (0 ≤ σ 4 ∧ σ 4 ≤ 99) ∧ (0 ≤ σ 5 ∧ σ 5 ≤ 4) ∧ (0 ≤ σ 6 ∧ σ 6 ≤ 1000000000) ∧
  (∀ v, v < 14 → 0 ≤ σ (7 + v) ∧ σ (7 + v) ≤ 99) ∧ (∀ v, v < 14 → 0 ≤ σ (21 + v) ∧ σ (21 + v) ≤ 3) ∧ (∀ t, t < 70 → 0 ≤ σ (35 + t) ∧ σ (35 + t) ≤ 13) ∧ (∀ l, l < 5 → 0 ≤ σ (105 + l) ∧ σ (105 + l) ≤ 14) ∧
  (∀ e, e < 40 → 0 ≤ σ (110 + e) ∧ σ (110 + e) ≤ 13) ∧ (∀ e, e < 40 → 0 ≤ σ (150 + e) ∧ σ (150 + e) ≤ 13) ∧ (∀ e, e < 40 → 0 ≤ σ (190 + e) ∧ σ (190 + e) ≤ 99) ∧ (∀ k, k < 120 → 0 ≤ σ (230 + k) ∧ σ (230 + k) ≤ 1000000000)
section MSF
variable {σ : Nat → Int}
theorem ms_0 (h : MS σ) : 0 ≤ σ 0 ∧ σ 0 ≤ 14 := h.1
theorem ms_1 (h : MS σ) : 0 ≤ σ 1 ∧ σ 1 ≤ 40 := h.2.1
theorem ms_2 (h : MS σ) : 2 ≤ σ 2 ∧ σ 2 ≤ 4 := h.2.2.1
theorem ms_3 (h : MS σ) : 0 ≤ σ 3 ∧ σ 3 ≤ 99 := h.2.2.2.1
theorem ms_4 (h : MS σ) : 0 ≤ σ 4 ∧ σ 4 ≤ 99 := h.2.2.2.2.1
theorem ms_5 (h : MS σ) : 0 ≤ σ 5 ∧ σ 5 ≤ 4 := h.2.2.2.2.2.1
theorem ms_6 (h : MS σ) : 0 ≤ σ 6 ∧ σ 6 ≤ 1000000000 := h.2.2.2.2.2.2.1
theorem ms_w (h : MS σ) (v : Nat) (hv : v < 14) : 0 ≤ σ (7 + v) ∧ σ (7 + v) ≤ 99 := h.2.2.2.2.2.2.2.1 v hv
theorem ms_p (h : MS σ) (v : Nat) (hv : v < 14) : 0 ≤ σ (21 + v) ∧ σ (21 + v) ≤ 3 := h.2.2.2.2.2.2.2.2.1 v hv
theorem ms_g (h : MS σ) (t : Nat) (ht : t < 70) : 0 ≤ σ (35 + t) ∧ σ (35 + t) ≤ 13 := h.2.2.2.2.2.2.2.2.2.1 t ht
theorem ms_n (h : MS σ) (l : Nat) (hl : l < 5) : 0 ≤ σ (105 + l) ∧ σ (105 + l) ≤ 14 := h.2.2.2.2.2.2.2.2.2.2.1 l hl
theorem ms_a (h : MS σ) (e : Nat) (he : e < 40) : 0 ≤ σ (110 + e) ∧ σ (110 + e) ≤ 13 := h.2.2.2.2.2.2.2.2.2.2.2.1 e he
theorem ms_b (h : MS σ) (e : Nat) (he : e < 40) : 0 ≤ σ (150 + e) ∧ σ (150 + e) ≤ 13 := h.2.2.2.2.2.2.2.2.2.2.2.2.1 e he
theorem ms_h (h : MS σ) (e : Nat) (he : e < 40) : 0 ≤ σ (190 + e) ∧ σ (190 + e) ≤ 99 := h.2.2.2.2.2.2.2.2.2.2.2.2.2.1 e he
theorem ms_e (h : MS σ) (k : Nat) (hk : k < 120) : 0 ≤ σ (230 + k) ∧ σ (230 + k) ≤ 1000000000 := h.2.2.2.2.2.2.2.2.2.2.2.2.2.2 k hk
end MSF
/-- the sum of f 0 .. f (n - 1) -/
def sm (f : Nat → Int) : Nat → Int
  | 0 => 0
  | n + 1 => sm f n + f n
theorem sm_succ (f : Nat → Int) (n : Nat) : sm f (n + 1) = sm f n + f n := rfl
theorem sm_bound {f : Nat → Int} {c : Int} : ∀ {n : Nat}, (∀ k, k < n → 0 ≤ f k ∧ f k ≤ c) → 0 ≤ sm f n ∧ sm f n ≤ c * n
  | 0, _ => by simp [sm]
  | n + 1, h => by
    have h1 := sm_bound (n := n) (fun k hk => h k (by omega))
    have h2 := h n (by omega)
    have e : c * ((n + 1 : Nat) : Int) = c * (n : Int) + c := by rw [Int.natCast_succ, Int.mul_add, Int.mul_one]
    rw [sm_succ, e]
    omega
theorem sm_cong {f g : Nat → Int} : ∀ {n : Nat}, (∀ k, k < n → f k = g k) → sm f n = sm g n
  | 0, _ => rfl
  | n + 1, h => by rw [sm_succ, sm_succ, sm_cong (fun k hk => h k (by omega)), h n (by omega)]
/-- an edge's ends lie in different parts -/
abbrev cutE (σ : Nat → Int) (e : Nat) : Prop := σ (21 + (σ (110 + e)).toNat) ≠ σ (21 + (σ (150 + e)).toNat)
theorem tb_iff (n k : Nat) : ((n / 2 ^ k) &&& 1 : Nat) = 1 ↔ n.testBit k = true := by
  rw [Nat.testBit_eq_decide_div_mod_eq, decide_eq_true_eq, Nat.and_one_is_mod]
def cutZ (σ : Nat → Int) : Int := sm (fun e => if cutE σ e then σ (190 + e) else 0) (σ 1).toNat
def allW (σ : Nat → Int) : Int := sm (fun v => σ (7 + v)) (σ 0).toNat
def allE (σ : Nat → Int) : Int := sm (fun e => σ (190 + e)) (σ 1).toNat
theorem ms_g2 {σ : Nat → Int} (h : MS σ) (a b : Nat) (hab : a + b < 70) : 0 ≤ σ (35 + a + b) ∧ σ (35 + a + b) ≤ 13 := by rw [Nat.add_assoc]; exact ms_g h (a + b) hab
/-- a set of numbers below n, as bits -/
def bset (c : Nat → Bool) : Nat → Nat
  | 0 => 0
  | n + 1 => bset c n ||| (if c n then 1 else 0) * 2 ^ n
theorem bset_succ (c : Nat → Bool) (n : Nat) : bset c (n + 1) = bset c n ||| (if c n then 1 else 0) * 2 ^ n := rfl
theorem bset_lt (c : Nat → Bool) : ∀ n, bset c n < 2 ^ n
  | 0 => by simp [bset]
  | n + 1 => by
    have h := bset_lt c n
    rw [bset_succ]
    apply Nat.or_lt_two_pow
    · rw [Nat.pow_succ]; omega
    · split
      · rw [Nat.one_mul, Nat.pow_succ]; have := Nat.two_pow_pos n; omega
      · rw [Nat.zero_mul]; exact Nat.two_pow_pos _
theorem bset_lt14 (c : Nat → Bool) {n : Nat} (h : n ≤ 14) : bset c n < 16384 := Nat.lt_of_lt_of_le (bset_lt c n) (Nat.pow_le_pow_right (by decide) h)
theorem pow_le14 {n : Nat} (h : n ≤ 14) : 1 ≤ 2 ^ n ∧ 2 ^ n ≤ 16384 := ⟨Nat.two_pow_pos n, by have : 2 ^ n ≤ 2 ^ 14 := Nat.pow_le_pow_right (by decide) h; omega⟩
def gAt (σ : Nat → Int) (v : Nat) : Int := σ (35 + 14 * (σ 5).toNat + v)
def grs (σ : Nat → Int) : Int := σ (105 + (σ 5).toNat)
theorem gAt_b {σ : Nat → Int} (h : MS σ) {v : Nat} (hv : v < 14) : 0 ≤ gAt σ v ∧ gAt σ v ≤ 13 := ms_g2 h _ _ (by have := ms_5 h; omega)
theorem grs_b {σ : Nat → Int} (h : MS σ) : 0 ≤ grs σ ∧ grs σ ≤ 14 := ms_n h _ (by have := ms_5 h; omega)
def wOf (σ : Nat → Int) (p : Int) : Int := sm (fun v => if σ (21 + v) = p then σ (7 + v) else 0) (σ 0).toNat
def limZ (σ : Nat → Int) : Int := (allW σ + σ 2 - 1) / σ 2 + σ 3
def debtZ (σ : Nat → Int) (p : Int) : Int := if 0 < wOf σ p - limZ σ then wOf σ p - limZ σ else 0
def debtsZ (σ : Nat → Int) : Int := sm (fun p => debtZ σ (p : Int)) (σ 2).toNat
def edgeZ (σ : Nat → Int) (a b : Int) : Nat → Int
  | 0 => -1
  | e + 1 => if (σ (110 + e) = a ∧ σ (150 + e) = b) ∨ (σ (110 + e) = b ∧ σ (150 + e) = a) then (e : Int) else edgeZ σ a b e
def outZ (σ : Nat → Int) (s : Nat) : Int := sm (fun e => if s.testBit (σ (110 + e)).toNat = s.testBit (σ (150 + e)).toNat then 0 else σ (190 + e)) (σ 1).toNat
def inP (σ : Nat → Int) (p : Int) : Nat := bset (fun v => decide (σ (21 + v) = p)) (σ 0).toNat
def memG (σ : Nat → Int) (g : Int) : Nat := bset (fun v => decide (gAt σ v = g)) (σ 0).toNat
def gW (σ : Nat → Int) (g : Int) : Int := sm (fun v => if gAt σ v = g then σ (7 + v) else 0) (σ 0).toNat
def joinZ (σ : Nat → Int) (g h : Int) : Int := sm (fun e => if (gAt σ (σ (110 + e)).toNat = g ∧ gAt σ (σ (150 + e)).toNat = h) ∨ (gAt σ (σ (110 + e)).toNat = h ∧ gAt σ (σ (150 + e)).toNat = g) then σ (190 + e) else 0) (σ 1).toNat
def hvZ (σ : Nat → Int) : Nat → Nat
  | 0 => 0
  | p + 1 => if wOf σ (hvZ σ p : Int) < wOf σ ((p + 1 : Nat) : Int) then p + 1 else hvZ σ p
theorem hvZ_le (σ : Nat → Int) : ∀ p, hvZ σ p ≤ p
  | 0 => Nat.le_refl 0
  | p + 1 => by
    have h := hvZ_le σ p
    unfold hvZ
    split <;> omega
/-- the first vertex of a group -/
def fstV (σ : Nat → Int) (g : Int) : Nat := fa_first (fun v => decide (gAt σ v = g)) 14
def gP (σ : Nat → Int) (g : Int) : Int := σ (21 + fstV σ g)
theorem sm_le {f : Nat → Int} {m n : Nat} (h : m ≤ n) (h0 : ∀ k, k < n → 0 ≤ f k) : sm f m ≤ sm f n := by
  induction n with
  | zero => have : m = 0 := by omega
            subst this; exact Int.le_refl _
  | succ n ih =>
    rcases Nat.lt_or_ge m (n + 1) with q | q
    · have := ih (by omega) (fun k hk => h0 k (by omega))
      have := h0 n (by omega)
      rw [sm_succ]; omega
    · have : m = n + 1 := by omega
      subst this; exact Int.le_refl _
theorem allW_b {σ : Nat → Int} (h : MS σ) : 0 ≤ allW σ ∧ allW σ ≤ 1386 := by
  have b := ms_0 h
  have := sm_bound (f := fun v => σ (7 + v)) (c := 99) (n := (σ 0).toNat) (fun k hk => ms_w h k (by omega))
  unfold allW; omega
theorem allE_b {σ : Nat → Int} (h : MS σ) : 0 ≤ allE σ ∧ allE σ ≤ 3960 := by
  have b := ms_1 h
  have := sm_bound (f := fun e => σ (190 + e)) (c := 99) (n := (σ 1).toNat) (fun k hk => ms_h h k (by omega))
  unfold allE; omega
theorem cutZ_b {σ : Nat → Int} (h : MS σ) : 0 ≤ cutZ σ ∧ cutZ σ ≤ 3960 := by
  have b := ms_1 h
  have := sm_bound (f := fun e => if cutE σ e then σ (190 + e) else 0) (c := 99) (n := (σ 1).toNat) (fun k hk => by have := ms_h h k (by omega); split <;> omega)
  unfold cutZ; omega
theorem wOf_b {σ : Nat → Int} (h : MS σ) (p : Int) : 0 ≤ wOf σ p ∧ wOf σ p ≤ 1386 := by
  have b := ms_0 h
  have := sm_bound (f := fun v => if σ (21 + v) = p then σ (7 + v) else 0) (c := 99) (n := (σ 0).toNat) (fun k hk => by have := ms_w h k (by omega); split <;> omega)
  unfold wOf; omega
theorem gW_b {σ : Nat → Int} (h : MS σ) (g : Int) : 0 ≤ gW σ g ∧ gW σ g ≤ 1386 := by
  have b := ms_0 h
  have := sm_bound (f := fun v => if gAt σ v = g then σ (7 + v) else 0) (c := 99) (n := (σ 0).toNat) (fun k hk => by have := ms_w h k (by omega); split <;> omega)
  unfold gW; omega
theorem outZ_b {σ : Nat → Int} (h : MS σ) (s : Nat) : 0 ≤ outZ σ s ∧ outZ σ s ≤ 3960 := by
  have b := ms_1 h
  have := sm_bound (f := fun e => if s.testBit (σ (110 + e)).toNat = s.testBit (σ (150 + e)).toNat then 0 else σ (190 + e)) (c := 99) (n := (σ 1).toNat) (fun k hk => by have := ms_h h k (by omega); split <;> omega)
  unfold outZ; omega
theorem joinZ_b {σ : Nat → Int} (h : MS σ) (g k : Int) : 0 ≤ joinZ σ g k ∧ joinZ σ g k ≤ 3960 := by
  have b := ms_1 h
  have := sm_bound (f := fun e => if (gAt σ (σ (110 + e)).toNat = g ∧ gAt σ (σ (150 + e)).toNat = k) ∨ (gAt σ (σ (110 + e)).toNat = k ∧ gAt σ (σ (150 + e)).toNat = g) then σ (190 + e) else 0) (c := 99) (n := (σ 1).toNat) (fun k hk => by have := ms_h h k (by omega); split <;> omega)
  unfold joinZ; omega
theorem limZ_b {σ : Nat → Int} (h : MS σ) : 0 ≤ limZ σ ∧ limZ σ ≤ 2000 := by
  have h1 := allW_b h
  have h2 := ms_2 h
  have h3 := ms_3 h
  unfold limZ
  have : σ 2 = 2 ∨ σ 2 = 3 ∨ σ 2 = 4 := by omega
  rcases this with q | q | q <;> (rw [q]; omega)
theorem debtZ_b {σ : Nat → Int} (h : MS σ) (p : Int) : 0 ≤ debtZ σ p ∧ debtZ σ p ≤ 1386 := by
  have h1 := wOf_b h p
  have h2 := limZ_b h
  unfold debtZ; split <;> omega
theorem debtsZ_b {σ : Nat → Int} (h : MS σ) : 0 ≤ debtsZ σ ∧ debtsZ σ ≤ 5544 := by
  have b := ms_2 h
  have := sm_bound (f := fun p => debtZ σ (p : Int)) (c := 1386) (n := (σ 2).toNat) (fun k hk => debtZ_b h _)
  unfold debtsZ; omega
theorem edgeZ_b (σ : Nat → Int) (a b : Int) : ∀ n, -1 ≤ edgeZ σ a b n ∧ edgeZ σ a b n < n
  | 0 => by simp [edgeZ]
  | n + 1 => by
    have := edgeZ_b σ a b n
    unfold edgeZ
    split <;> omega
theorem inP_b {σ : Nat → Int} (h : MS σ) (p : Int) : inP σ p < 16384 := bset_lt14 _ (by have := ms_0 h; omega)
theorem memG_b {σ : Nat → Int} (h : MS σ) (g : Int) : memG σ g < 16384 := bset_lt14 _ (by have := ms_0 h; omega)
