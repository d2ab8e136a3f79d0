/-! ===== rules for the predicate transformers ===== -/
abbrev rgx (x : Int) : Prop := -2147483648 ≤ x ∧ x < 2147483648
theorem rgI {x : Int} (h1 : -2147483648 ≤ x) (h2 : x < 2147483648) : rg x := ⟨h1, h2⟩
theorem rgB {v : Int} (h : v = 0 ∨ v = 1) : -2147483648 ≤ v ∧ v < 2147483648 := by omega
theorem zN {z n : Int} (h : 0 ≤ z ∧ z < n) : z = ((z.toNat : Nat) : Int) := (Int.toNat_of_nonneg h.1).symm
theorem zL {z : Int} {n : Nat} (h : 0 ≤ z ∧ z < (n : Int)) : z.toNat < n := by omega
theorem rlen_le (k : Nat) : rlen k ≤ 2147483647 := by
  have hM : ∀ k n, shModel k = some (.inr (0, n)) → n ≤ 2100 := by
    intro k n h
    unfold shModel at h
    split at h <;> (simp at h; try omega)
  have hS : ∀ k n, shSingle k = some (.inr (0, n)) → n ≤ 2100 := by
    intro k n h
    unfold shSingle at h
    split at h <;> (simp at h; try omega)
  have hg : ∀ b k n, shGraph b k = some (.inr (0, n)) → n ≤ 2100 := by
    intro b k n h
    unfold shGraph at h
    split at h <;> (simp at h; try omega)
  have hs : ∀ b k n, shSharing b k = some (.inr (0, n)) → n ≤ 2100 := by
    intro b k n h
    unfold shSharing at h
    split at h <;> (simp at h; try omega)
  have hp : ∀ k n, shp k = some (.inr (0, n)) → n ≤ 2100 := by
    intro k n h
    unfold shp at h
    split at h
    · exact hM _ _ h
    · split at h
      · exact hS _ _ h
      · split at h
        · exact hg _ _ _ h
        · split at h
          · cases h
          · split at h
            · exact hs _ _ _ h
            · cases h
  have hr : ∀ k n, shR k = some (0, n) → n ≤ 2100 := by
    intro k n h
    unfold shR at h
    split at h
    · rename_i q hq
      cases h
      exact hp _ _ hq
    · cases h
  unfold rlen
  split
  · rename_i n h
    have := hr _ _ h
    omega
  · omega
theorem rlen_rg (k : Nat) : -2147483648 ≤ ((rlen k : Nat) : Int) ∧ ((rlen k : Nat) : Int) < 2147483648 := by
  have := rlen_le k
  omega
theorem sK_ring {z : Int} (h : 0 ≤ z ∧ z < 6) : sK (330 + 10 * z.toNat) := by
  unfold sK
  omega
theorem soX8_0 {k : Nat} (h : sK k) : shO k 0 = some (8, 0) := by rcases h with rfl | rfl | rfl | rfl | rfl | rfl | rfl | rfl | rfl <;> rfl
theorem soX8_1 {k : Nat} (h : sK k) : shO k 1 = some (8, 0) := by rcases h with rfl | rfl | rfl | rfl | rfl | rfl | rfl | rfl | rfl <;> rfl
theorem soX8_2 {k : Nat} (h : sK k) : shO k 2 = some (8, 0) := by rcases h with rfl | rfl | rfl | rfl | rfl | rfl | rfl | rfl | rfl <;> rfl
theorem soX8_3 {k : Nat} (h : sK k) : shO k 3 = some (8, k + 1 + 2) := by rcases h with rfl | rfl | rfl | rfl | rfl | rfl | rfl | rfl | rfl <;> rfl
theorem soX8_4 {k : Nat} (h : sK k) : shO k 4 = some (8, k + 2 + 2) := by rcases h with rfl | rfl | rfl | rfl | rfl | rfl | rfl | rfl | rfl <;> rfl
theorem soX8_5 {k : Nat} (h : sK k) : shO k 5 = some (8, k + 3 + 2) := by rcases h with rfl | rfl | rfl | rfl | rfl | rfl | rfl | rfl | rfl <;> rfl
theorem soX8_6 {k : Nat} (h : sK k) : shO k 6 = some (8, k + 4 + 2) := by rcases h with rfl | rfl | rfl | rfl | rfl | rfl | rfl | rfl | rfl <;> rfl
theorem srX8_1 {k : Nat} (h : sK k) : shR (k + 1) = some (0, 14) := by rcases h with rfl | rfl | rfl | rfl | rfl | rfl | rfl | rfl | rfl <;> rfl
theorem srX8_2 {k : Nat} (h : sK k) : shR (k + 2) = some (0, 5) := by rcases h with rfl | rfl | rfl | rfl | rfl | rfl | rfl | rfl | rfl <;> rfl
theorem srX8_3 {k : Nat} (h : sK k) : shR (k + 3) = some (0, 70) := by rcases h with rfl | rfl | rfl | rfl | rfl | rfl | rfl | rfl | rfl <;> rfl
theorem srX8_4 {k : Nat} (h : sK k) : shR (k + 4) = some (0, 120) := by rcases h with rfl | rfl | rfl | rfl | rfl | rfl | rfl | rfl | rfl <;> rfl
theorem spX8 {k : Nat} (h : sK k) : shp k = some (.inl (8, [0, 0, 0, k + 1 + 2, k + 2 + 2, k + 3 + 2, k + 4 + 2])) := by rcases h with rfl | rfl | rfl | rfl | rfl | rfl | rfl | rfl | rfl <;> rfl
theorem soX2_0 {k : Nat} (h : gK k) : shO k 0 = some (2, 0) := by rcases h with rfl | rfl | rfl <;> rfl
theorem soX2_1 {k : Nat} (h : gK k) : shO k 1 = some (2, 0) := by rcases h with rfl | rfl | rfl <;> rfl
theorem soX2_2 {k : Nat} (h : gK k) : shO k 2 = some (2, 0) := by rcases h with rfl | rfl | rfl <;> rfl
theorem soX2_3 {k : Nat} (h : gK k) : shO k 3 = some (2, 0) := by rcases h with rfl | rfl | rfl <;> rfl
theorem soX2_4 {k : Nat} (h : gK k) : shO k 4 = some (2, 0) := by rcases h with rfl | rfl | rfl <;> rfl
theorem soX2_5 {k : Nat} (h : gK k) : shO k 5 = some (2, 0) := by rcases h with rfl | rfl | rfl <;> rfl
theorem soX2_6 {k : Nat} (h : gK k) : shO k 6 = some (2, 0) := by rcases h with rfl | rfl | rfl <;> rfl
theorem soX2_7 {k : Nat} (h : gK k) : shO k 7 = some (2, k + 1 + 2) := by rcases h with rfl | rfl | rfl <;> rfl
theorem soX2_8 {k : Nat} (h : gK k) : shO k 8 = some (2, k + 2 + 2) := by rcases h with rfl | rfl | rfl <;> rfl
theorem soX2_9 {k : Nat} (h : gK k) : shO k 9 = some (2, k + 3 + 2) := by rcases h with rfl | rfl | rfl <;> rfl
theorem soX2_10 {k : Nat} (h : gK k) : shO k 10 = some (2, k + 4 + 2) := by rcases h with rfl | rfl | rfl <;> rfl
theorem soX2_11 {k : Nat} (h : gK k) : shO k 11 = some (2, k + 5 + 2) := by rcases h with rfl | rfl | rfl <;> rfl
theorem srX2_1 {k : Nat} (h : gK k) : shR (k + 1) = some (1, 14) := by rcases h with rfl | rfl | rfl <;> rfl
theorem srX2_2 {k : Nat} (h : gK k) : shR (k + 2) = some (0, 14) := by rcases h with rfl | rfl | rfl <;> rfl
theorem srX2_3 {k : Nat} (h : gK k) : shR (k + 3) = some (0, 40) := by rcases h with rfl | rfl | rfl <;> rfl
theorem srX2_4 {k : Nat} (h : gK k) : shR (k + 4) = some (0, 40) := by rcases h with rfl | rfl | rfl <;> rfl
theorem srX2_5 {k : Nat} (h : gK k) : shR (k + 5) = some (0, 40) := by rcases h with rfl | rfl | rfl <;> rfl
theorem spX2 {k : Nat} (h : gK k) : shp k = some (.inl (2, [0, 0, 0, 0, 0, 0, 0, k + 1 + 2, k + 2 + 2, k + 3 + 2, k + 4 + 2, k + 5 + 2])) := by rcases h with rfl | rfl | rfl <;> rfl
/-- a row in a row's place -/
def upr {α : Type} (f : Nat → Nat → α) (k : Nat) (r : Nat → α) : Nat → Nat → α := fun k' => if k' = k then r else f k'
theorem upr_self {α : Type} (f : Nat → Nat → α) (k : Nat) (r : Nat → α) : upr f k r k = r := if_pos rfl
theorem upr_ne {α : Type} {f : Nat → Nat → α} {k k' : Nat} {r : Nat → α} (h : k' ≠ k) : upr f k r k' = f k' := if_neg h
theorem sK_of {k : Nat} (h : k = 330 ∨ k = 340 ∨ k = 350 ∨ k = 360 ∨ k = 370 ∨ k = 380) : sK k := by
  unfold sK
  omega
