/-! ===== what stands fast, with the array of sharings ===== -/
/-- the law's G: the facts of lawG and that an array of sharings can be made; a key's address is its place behind the first -/
def lawH (l : Launch) (sz : Nat) (sd : Nat → Nat × Nat) (b0 L : Nat) (xs : Nat → Int) (D : va_G) (cA : ClassId × ClassId × ClassId) : KG := ((l, fun U => kFa l sz sd b0 L xs U ∧ va_AO "ShareGraph$Sharing" U), sz, D, cA, fun k => sz + plc k)
section LH
variable {l : Launch} {sz : Nat} {sd : Nat → Nat × Nat} {b0 L : Nat} {xs : Nat → Int} {D : va_G} {cA : ClassId × ClassId × ClassId}
theorem lawH_A : (lawH l sz sd b0 L xs D cA).2.2.2.2 = fun k => (lawH l sz sd b0 L xs D cA).2.1 + plc k := rfl
theorem lawH_pm : Kpm (lawH l sz sd b0 L xs D cA) := by
  have h0 : Kpm (lawG l sz sd b0 L xs D cA (fun k => sz + plc k)) := lawG_pm
  exact ⟨fun u U hW hq h => ⟨h0.1 u U hW hq h.1, va_AO.moved hW.alike h.2⟩, fun u U e e2 h => ⟨h0.2 u U e e2 h.1, va_AO.moved (by rw [e]; exact Vm.Alike.refl _) h.2⟩⟩
theorem lawH_Z : KZx (lawH l sz sd b0 L xs D cA) := fun U h => (lawG_Z (D := D) (cA := cA) (ad := fun k => sz + plc k)) U h.1
theorem lawH_W : KSx (lawH l sz sd b0 L xs D cA) := by
  obtain ⟨sd', h⟩ := (lawG_W (l := l) (sz := sz) (sd := sd) (b0 := b0) (L := L) (xs := xs) (D := D) (cA := cA) (ad := fun k => sz + plc k))
  exact ⟨sd', fun U hU => h U hU.1⟩
theorem lawH_C : KCx (lawH l sz sd b0 L xs D cA) := fun U h => (lawG_C (D := D) (cA := cA) (ad := fun k => sz + plc k)) U h.1
theorem lawH_T : ∀ U : State, (lawH l sz sd b0 L xs D cA).1.2 U → va_T .int b0 L (fun j => .int (iZ (xs j))) (KFr (lawH l sz sd b0 L xs D cA)) U U.heap := fun U h => (lawG_T (D := D) (cA := cA) (ad := fun k => sz + plc k)) U h.1
theorem lawH_AO : ∀ U, Kst (lawH l sz sd b0 L xs D cA) U → va_AO "ShareGraph$Sharing" U := fun _ h => h.2.2.1.2
end LH
