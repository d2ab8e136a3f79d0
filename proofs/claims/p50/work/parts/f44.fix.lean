/-! ===== what the law goes on with stays, where keys were told anew ===== -/
section FGF
variable {sz : Nat} {I I0 : Ii} {σ : Nat → Int} {nm : Nat → Int64} {L : List Int}
theorem AL_fix {k m : Nat} {M : Nat → Nat} (hk : isAK k) (hA : ALr I k m M) : ALr (I2w sz I) k m M := by
  obtain ⟨a1, a2, a3, a4, a5, a6, a7⟩ := hA
  have hk9 : k < 1022 ∧ k ≠ 999 := by rcases hk with rfl | rfl <;> omega
  have ek : I2w sz I k = I k := I2w_o (Or.inl hk9.1) hk9.2
  have hD9 : (I k 1).toNat ≠ 999 := by rcases a3 with c | c <;> omega
  unfold ALr
  rw [ek]
  refine ⟨a1, a2, ?_, by rw [I2w_s.1]; exact a4, by rw [I2w_s.2]; exact a5, fun j hj => ?_, fun j h1 h2 => ?_⟩
  · rcases a3 with ⟨c1, c2, c3⟩ | ⟨c1, c2, c3⟩
    · exact Or.inl ⟨c1, c2, by rw [I2w_s.2]; exact c3⟩
    · exact Or.inr ⟨c1, by rw [I2w_9]; omega, by rw [I2w_s.2]; exact c3⟩
  · obtain ⟨b1, b2, b3⟩ := a6 j hj
    refine ⟨?_, ⟨b2.1, by rw [I2w_9]; omega⟩, by rw [I2w_s.1]; exact b3⟩
    rw [I2w_i hD9 (Or.inr (by rw [b1]; omega))]
    exact b1
  · rw [I2w_s.2] at h2
    have b1 := a7 j h1 h2
    rw [I2w_i hD9 (Or.inr (by rw [b1]; omega))]
    exact b1
theorem AL_900 {k m : Nat} {M : Nat → Nat} (hA : ALr I k m M) : 900 ≤ I k 1 := by
  obtain ⟨a1, a2, a3, a4, a5, a6, a7⟩ := hA
  rcases a3 with c | c <;> omega
theorem FG_fix (h : FG I0 σ nm L 5000 I) : FG I0 σ nm L 6000 (I2w sz I) ∧ 900 ≤ I 1000 12 ∧ 900 ≤ I 1020 1 ∧ 900 ≤ I 1021 1 := by
  obtain ⟨hW, z, ⟨t, tb, e12, ht, t1, t2, hby⟩, hb, hl, hx, hX, hN, hT⟩ := h
  obtain ⟨hV, hNs, ⟨M, hM⟩, ⟨M2, hE⟩, hD⟩ := hW
  have e : ∀ k, k < 1022 → k ≠ 999 → I2w sz I k = I k := fun k h1 h2 => I2w_o (Or.inl h1) h2
  have hm : ∀ l, l ≤ (σ 5).toNat → dS I (M l) = 1 ∧ 1022 ≤ M l := fun l hl2 => by
    have := hM.1.2.2.2.2.2.1 l (by omega)
    exact ⟨this.2.2, this.2.1.1⟩
  refine ⟨⟨⟨hV, ?_, ⟨M, AL_fix (Or.inl rfl) hM.1, fun l hl2 => ⟨?_, fun g hg => ?_⟩⟩, ⟨M2, AL_fix (Or.inr rfl) hE⟩, by rw [e 1020 (by omega) (by omega), e 1021 (by omega) (by omega)]; exact hD⟩, z, ⟨t, tb, by rw [e 1000 (by omega) (by omega)]; exact e12, ?_, ⟨t1.1, by rw [I2w_9]; omega⟩, ⟨t2.1, by rw [I2w_9]; omega⟩, fun j hj => ?_⟩, hb, hl, hx, ⟨fun k h1 h2 => (e k (by omega) h2).trans (hX.1 k h1 h2), fun k h1 h2 => (I2w_o (Or.inr (by omega)) (by omega)).trans (hX.2 k h1 h2)⟩, by rw [I2w_9]; omega, hT⟩, by omega, AL_900 hM.1, AL_900 hE⟩
  · unfold WNs
    rw [e 1000 (by omega) (by omega), e 1001 (by omega) (by omega), e 1002 (by omega) (by omega)]
    refine ⟨hNs.1, hNs.2.1, hNs.2.2.1, fun a b ha hb2 => ?_⟩
    rw [e (1006 + a) (by omega) (by omega)]
    exact hNs.2.2.2 a b ha hb2
  · rw [I2w_s.2]; exact (hM.2 l hl2).1
  · obtain ⟨m1, m2⟩ := hm l hl2
    rw [I2w_i (by omega) (Or.inl (by omega))]
    exact (hM.2 l hl2).2 g hg
  · obtain ⟨a1, a2, a3, a4, a5, a6⟩ := ht
    refine ⟨by rw [I2w_s.1]; exact a1, ?_, ?_, by rw [I2w_s.1]; exact a4, by rw [I2w_s.2]; exact a5, a6⟩
    · rw [I2w_i (by omega) (Or.inr (by rw [a2]; omega))]; exact a2
    · rw [I2w_i (by omega) (Or.inl (by omega))]; exact a3
  · obtain ⟨a1, a2, a3, a4, a5, a6⟩ := ht
    rw [I2w_i (by omega) (Or.inl (by omega))]
    exact hby j hj
end FGF
