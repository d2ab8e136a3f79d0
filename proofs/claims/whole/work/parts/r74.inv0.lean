/-! ===== the relation at the start ===== -/
theorem I0_2 {i : Nat} (h : i ≠ 2) : I0 2 i = 0 := by
  show (if i = 2 then (2 : Int) else 0) = 0
  exact if_neg h
theorem I0_row (k : Nat) (h1 : k ≠ 2) (h2 : k ≠ 0) (h3 : k ≠ 101) (h4 : k ≠ 200) (h5 : k ≠ 210) (h6 : k ≠ 220) (i : Nat) : I0 k i = 0 := by
  unfold I0
  rw [if_neg h1, if_neg h2, if_neg h3, if_neg h4, if_neg h5, if_neg h6]
theorem VS_0 : VS (I0 2) := by
  have z : ∀ v : Nat, ¬ v < (I0 2 0).toNat := fun v hv => Nat.not_lt_zero v hv
  have z1 : ∀ v : Nat, ¬ v < (I0 2 1).toNat := fun v hv => Nat.not_lt_zero v hv
  refine ⟨⟨by decide, by decide, by decide, by decide, by decide, by decide, by decide, fun v _ => ?_, fun v _ => ?_, fun v _ => ?_, fun v _ => ?_, fun v _ => ?_, fun v _ => ?_, fun v _ => ?_, fun v _ => ?_⟩, ⟨fun e h => absurd h (z1 e), fun e _ h => absurd h (z1 e)⟩, fun v h => absurd h (z v), fun v h => absurd h (z v), by decide, fun l h => ⟨fun v h => absurd h (z v), fun g g0 g1 => ?_⟩, fun l u v h => absurd h (Nat.not_lt_zero l), fun u v h => absurd h (z u)⟩
  all_goals first
    | (rw [I0_2 (by omega)]; decide)
    | (rw [I0_2 (by omega)] at g1; omega)
theorem RG_0 : RG 200 I0 J0 (I0 2) (J0 7) :=
  ⟨by decide, by decide, by decide, by decide, by decide, by decide, fun v h => absurd h (Nat.not_lt_zero v), fun v h => absurd h (Nat.not_lt_zero v), fun v h => absurd h (Nat.not_lt_zero v), fun v h => absurd h (Nat.not_lt_zero v), fun v h => absurd h (Nat.not_lt_zero v)⟩
theorem RS_0 : RS 300 I0 (I0 2) := by
  refine ⟨by decide, by decide, by decide, fun v h => absurd h (Nat.not_lt_zero v), fun l h => ?_, fun l v _ h => absurd h (Nat.not_lt_zero v), fun i w h => absurd h (Nat.not_lt_zero i)⟩
  rw [I0_2 (by omega)]
  exact I0_row _ (by decide) (by decide) (by decide) (by decide) (by decide) (by decide) _
theorem Inv_0 : Inv 0 I0 J0 := by
  refine ⟨⟨VS_0, fun i h => I0_2 (by omega), fun i _ => rfl, fun u v h => absurd h (Nat.not_lt_zero u), fun v h => absurd h (Nat.not_lt_zero v), by decide, RG_0, RS_0⟩, ⟨0, 0, by decide, ⟨by decide, by decide, by decide, by decide, fun j h => absurd h (Nat.not_lt_zero j)⟩, fun i h => absurd h (Nat.not_lt_zero i)⟩, Or.inl ⟨by decide, by decide⟩, ⟨0, by decide, by decide, by decide, fun i h => absurd h (Nat.not_lt_zero i), fun i h => absurd h (Nat.not_lt_zero i)⟩, ⟨by decide, by decide, by decide⟩, ⟨[], by decide, ⟨by decide, fun j h => absurd h (Nat.not_lt_zero j)⟩, Or.inr ⟨by decide, rfl⟩⟩, ⟨fun i _ => ?_, fun i _ => ?_, fun i _ => ?_, fun i _ => rfl, fun i _ => rfl⟩⟩
  all_goals exact I0_row _ (by decide) (by decide) (by decide) (by decide) (by decide) (by decide) _
