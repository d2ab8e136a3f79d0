/-! ===== pieces ===== -/
/-- a number's bits, counted by steps of the library -/
def bcA (s : Nat) : Nat := s - ((s / 2) &&& 1431655765)
def bcZ (s : Nat) : Nat := (bcA s &&& 858993459) + ((bcA s / 4) &&& 858993459)
def bcY (s : Nat) : Nat := (bcZ s + bcZ s / 16) &&& 252645135
def bcX (s : Nat) : Nat := bcY s + bcY s / 256
def bcN (s : Nat) : Nat := (bcX s + bcX s / 65536) &&& 63
def cN (s : Nat) : Nat → Nat
  | 0 => 0
  | n + 1 => cN s n + s / 2 ^ n % 2
set_option maxRecDepth 100000 in
theorem bc_all : ∀ a, a < 128 → ∀ b, b < 128 → bcN (128 * a + b) = cN (128 * a + b) 14 := by decide +kernel
theorem bcN_cN {s : Nat} (h : s < 16384) : bcN s = cN s 14 := by
  have := bc_all (s / 128) (by omega) (s % 128) (by omega)
  rwa [show 128 * (s / 128) + s % 128 = s by omega] at this
theorem cntB_cN (s : Nat) : ∀ n, cntB s n = ((cN s n : Nat) : Int)
  | 0 => rfl
  | n + 1 => by
    have ih := cntB_cN s n
    show sm _ (n + 1) = ((cN s n + s / 2 ^ n % 2 : Nat) : Int)
    unfold cntB at ih
    rw [sm_succ, ih, Nat.testBit_eq_decide_div_mod_eq]
    by_cases c : s / 2 ^ n % 2 = 1
    · rw [if_pos (by simp [c]), c]; rfl
    · rw [if_neg (by simp [c]), show s / 2 ^ n % 2 = 0 by omega]; rfl
