/-! ===== the reference's row: what holds of its numbers ===== -/
/-- the bounds of the numbers of the reference's row -/
def MS (σ : Nat → Int) : Prop := (0 ≤ σ 0 ∧ σ 0 ≤ 14) ∧ (0 ≤ σ 1 ∧ σ 1 ≤ 40) ∧ (2 ≤ σ 2 ∧ σ 2 ≤ 4) ∧ (0 ≤ σ 3 ∧ σ 3 ≤ 99) ∧ (0 ≤ σ 4 ∧ σ 4 ≤ 99) ∧ (0 ≤ σ 5 ∧ σ 5 ≤ 4) ∧ (0 ≤ σ 6 ∧ σ 6 ≤ 1000000000) ∧
  (∀ v, v < 14 → 0 ≤ σ (7 + v) ∧ σ (7 + v) ≤ 99) ∧ (∀ v, v < 14 → 0 ≤ σ (21 + v) ∧ σ (21 + v) ≤ 3) ∧ (∀ t, t < 70 → 0 ≤ σ (35 + t) ∧ σ (35 + t) ≤ 13) ∧ (∀ l, l < 5 → 0 ≤ σ (105 + l) ∧ σ (105 + l) ≤ 14) ∧
  (∀ e, e < 40 → 0 ≤ σ (110 + e) ∧ σ (110 + e) ≤ 13) ∧ (∀ e, e < 40 → 0 ≤ σ (150 + e) ∧ σ (150 + e) ≤ 13) ∧ (∀ e, e < 40 → 0 ≤ σ (190 + e) ∧ σ (190 + e) ≤ 99) ∧ (∀ k, k < 120 → 0 ≤ σ (230 + k) ∧ σ (230 + k) ≤ 1000000000)
section MSF
variable {σ : Nat → Int}
theorem ms_0 (h : MS σ) : 0 ≤ σ 0 ∧ σ 0 ≤ 14 := h.1
theorem ms_1 (h : MS σ) : 0 ≤ σ 1 ∧ σ 1 ≤ 40 := h.2.1
theorem ms_2 (h : MS σ) : 2 ≤ σ 2 ∧ σ 2 ≤ 4 := h.2.2.1
theorem ms_3 (h : MS σ) : 0 ≤ σ 3 ∧ σ 3 ≤ 99 := h.2.2.2.1
theorem ms_4 (h : MS σ) : 0 ≤ σ 4 ∧ σ 4 ≤ 99 := h.2.2.2.2.1
theorem ms_5 (h : MS σ) : 0 ≤ σ 5 ∧ σ 5 ≤ 4 := h.2.2.2.2.2.1
theorem ms_6 (h : MS σ) : 0 ≤ σ 6 ∧ σ 6 ≤ 1000000000 := h.2.2.2.2.2.2.1
theorem ms_w (h : MS σ) (v : Nat) (hv : v < 14) : 0 ≤ σ (7 + v) ∧ σ (7 + v) ≤ 99 := h.2.2.2.2.2.2.2.1 v hv
theorem ms_p (h : MS σ) (v : Nat) (hv : v < 14) : 0 ≤ σ (21 + v) ∧ σ (21 + v) ≤ 3 := h.2.2.2.2.2.2.2.2.1 v hv
theorem ms_g (h : MS σ) (t : Nat) (ht : t < 70) : 0 ≤ σ (35 + t) ∧ σ (35 + t) ≤ 13 := h.2.2.2.2.2.2.2.2.2.1 t ht
theorem ms_n (h : MS σ) (l : Nat) (hl : l < 5) : 0 ≤ σ (105 + l) ∧ σ (105 + l) ≤ 14 := h.2.2.2.2.2.2.2.2.2.2.1 l hl
theorem ms_a (h : MS σ) (e : Nat) (he : e < 40) : 0 ≤ σ (110 + e) ∧ σ (110 + e) ≤ 13 := h.2.2.2.2.2.2.2.2.2.2.2.1 e he
theorem ms_b (h : MS σ) (e : Nat) (he : e < 40) : 0 ≤ σ (150 + e) ∧ σ (150 + e) ≤ 13 := h.2.2.2.2.2.2.2.2.2.2.2.2.1 e he
theorem ms_h (h : MS σ) (e : Nat) (he : e < 40) : 0 ≤ σ (190 + e) ∧ σ (190 + e) ≤ 99 := h.2.2.2.2.2.2.2.2.2.2.2.2.2.1 e he
theorem ms_e (h : MS σ) (k : Nat) (hk : k < 120) : 0 ≤ σ (230 + k) ∧ σ (230 + k) ≤ 1000000000 := h.2.2.2.2.2.2.2.2.2.2.2.2.2.2 k hk
end MSF
/-- the sum of f 0 .. f (n - 1) -/
def sm (f : Nat → Int) : Nat → Int
  | 0 => 0
  | n + 1 => sm f n + f n
theorem sm_succ (f : Nat → Int) (n : Nat) : sm f (n + 1) = sm f n + f n := rfl
theorem sm_bound {f : Nat → Int} {c : Int} : ∀ {n : Nat}, (∀ k, k < n → 0 ≤ f k ∧ f k ≤ c) → 0 ≤ sm f n ∧ sm f n ≤ c * n
  | 0, _ => by simp [sm]
  | n + 1, h => by
    have h1 := sm_bound (n := n) (fun k hk => h k (by omega))
    have h2 := h n (by omega)
    have e : c * ((n + 1 : Nat) : Int) = c * (n : Int) + c := by rw [Int.natCast_succ, Int.mul_add, Int.mul_one]
    rw [sm_succ, e]
    omega
theorem sm_cong {f g : Nat → Int} : ∀ {n : Nat}, (∀ k, k < n → f k = g k) → sm f n = sm g n
  | 0, _ => rfl
  | n + 1, h => by rw [sm_succ, sm_succ, sm_cong (fun k hk => h k (by omega)), h n (by omega)]
/-- an edge's ends lie in different parts -/
abbrev cutE (σ : Nat → Int) (e : Nat) : Prop := σ (21 + (σ (110 + e)).toNat) ≠ σ (21 + (σ (150 + e)).toNat)
theorem tb_iff (n k : Nat) : ((n / 2 ^ k) &&& 1 : Nat) = 1 ↔ n.testBit k = true := by
  rw [Nat.testBit_eq_decide_div_mod_eq, decide_eq_true_eq, Nat.and_one_is_mod]
def cutZ (σ : Nat → Int) : Int := sm (fun e => if cutE σ e then σ (190 + e) else 0) (σ 1).toNat
def allW (σ : Nat → Int) : Int := sm (fun v => σ (7 + v)) (σ 0).toNat
def allE (σ : Nat → Int) : Int := sm (fun e => σ (190 + e)) (σ 1).toNat
