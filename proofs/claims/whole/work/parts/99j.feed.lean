/-! ===== bytes that are fed ===== -/
/-- a byte of a number -/
def bytZ (v k : Int) : Int := andZ (ushrZ v k) 255
theorem byt_bits (b : BitVec 32) {k : Nat} (hk : k ≤ 24) : (b.sshiftRight k) &&& 255#32 = (b >>> k) &&& 255#32 := by
  apply BitVec.eq_of_getLsbD_eq
  intro i hi
  rw [BitVec.getLsbD_and, BitVec.getLsbD_and]
  by_cases h : i < 8
  · rw [BitVec.getLsbD_sshiftRight, BitVec.getLsbD_ushiftRight, if_pos (by omega)]
    rw [show decide (32 ≤ i) = false from decide_eq_false (by omega)]
    rfl
  · have : ∀ j : Nat, j < 32 → ¬ j < 8 → (255#32).getLsbD j = false := by decide
    rw [this i hi h, Bool.and_false, Bool.and_false]
theorem byt_b (v k : Int) : 0 ≤ bytZ v k ∧ bytZ v k ≤ 255 := by
  unfold bytZ andZ
  generalize iZ (ushrZ v k) = x
  have e : (x &&& iZ 255).toInt = ((x.toBitVec &&& 255#32).toNat : Int) := by
    have h1 : (x &&& iZ 255).toInt = (x.toBitVec &&& 255#32).toInt := rfl
    rw [h1, BitVec.toInt_eq_toNat_of_lt]
    rw [BitVec.toNat_and]
    have : x.toBitVec.toNat &&& (255#32).toNat ≤ (255#32).toNat := Nat.and_le_right
    have e2 : (255#32).toNat = 255 := rfl
    omega
  rw [e, BitVec.toNat_and]
  have : x.toBitVec.toNat &&& (255#32).toNat ≤ (255#32).toNat := Nat.and_le_right
  have e2 : (255#32).toNat = 255 := rfl
  omega
theorem byt_eq {v : Int} {k : Int} (hk : k = 0 ∨ k = 8 ∨ k = 16 ∨ k = 24) : andZ (shrZ v k) 255 = bytZ v k := by
  unfold bytZ andZ shrZ ushrZ
  rw [iZ_back, iZ_back]
  generalize iZ v = x
  have key : ∀ m : Nat, m ≤ 24 → ((x.toBitVec.sshiftRight m) &&& 255#32).toInt = ((x.toBitVec >>> m) &&& 255#32).toInt := fun m hm => by rw [byt_bits _ hm]
  rcases hk with rfl | rfl | rfl | rfl
  · exact key 0 (by omega)
  · exact key 8 (by omega)
  · exact key 16 (by omega)
  · exact key 24 (by omega)
