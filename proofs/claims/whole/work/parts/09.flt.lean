/-! ===== floats: a quotient by what is not zero is a number ===== -/
theorem fl_rr (f : Jvm.FP.Core.Fmt) (s : Bool) (m d : Nat) (e : Int) : Jvm.FP.Core.roundRatio f s m d e ≠ .nan := by
  unfold Jvm.FP.Core.roundRatio
  split
  · exact fun z => by cases z
  · unfold Jvm.FP.Core.roundAt Jvm.FP.Core.settle
    split <;> (unfold Jvm.FP.Core.bound; split <;> exact fun z => by cases z)
theorem fl_rd {f : Jvm.FP.Core.Fmt} {d : Jvm.FP.Core.Datum} (h : d ≠ .nan) : Jvm.FP.Core.round f d ≠ .nan := by
  cases d with
  | nan => exact absurd rfl h
  | inf s => exact fun z => by cases z
  | fin s c q => exact fl_rr f s c 1 q
theorem fl_q {f : Jvm.FP.Core.Fmt} {x : Jvm.FP.Core.Datum} {s : Bool} {d : Nat} {r : Int} (hx : x ≠ .nan) (hd : d ≠ 0) : Jvm.FP.Core.quotient f x (.fin s d r) ≠ .nan := by
  cases x with
  | nan => exact absurd rfl hx
  | inf t => exact fun z => by cases z
  | fin t c q =>
    have e : Jvm.FP.Core.quotient f (.fin t c q) (.fin s d r) = Jvm.FP.Core.roundRatio f (t != s) c d (q - r) := if_neg hd
    rw [e]
    exact fl_rr _ _ _ _ _
def fl_nz (x : Jvm.FP.Core.Datum) : Bool := match x with
  | .fin _ d _ => d != 0
  | _ => false
theorem fl_nz_q {f : Jvm.FP.Core.Fmt} {x y : Jvm.FP.Core.Datum} (hx : x ≠ .nan) (hy : fl_nz y = true) : Jvm.FP.Core.quotient f x y ≠ .nan := by
  cases y with
  | nan => cases hy
  | inf t => cases hy
  | fin t d r => exact fl_q hx (by simpa [fl_nz] using hy)
set_option maxRecDepth 100000 in
theorem fl_32 : ∀ e : Fin 4000, e.val ≠ 0 → fl_nz (Jvm.FP.Core.round Jvm.FP.Core.b32 (Jvm.FP.Core.ofInt (e.val : Int))) = true := by decide +kernel
set_option maxRecDepth 100000 in
theorem fl_64 : ∀ e : Fin 4000, e.val ≠ 0 → fl_nz (Jvm.FP.Core.round Jvm.FP.Core.b64 (Jvm.FP.Core.ofInt (e.val : Int))) = true := by decide +kernel
theorem fl_of (i : Int) : Jvm.FP.Core.ofInt i ≠ .nan := fun z => by cases z
theorem fl_fdiv {c e : Int} (hc : -2147483648 ≤ c ∧ c < 2147483648) (he : 0 < e ∧ e < 4000) : Jvm.FP.Core.val32 (FP.fdiv (FP.i2f (iZ c)) (FP.i2f (iZ e))) ≠ .nan := by
  show Jvm.FP.Core.val32 (Jvm.FP.Core.fdiv (Jvm.FP.Core.i2f (iZ c)) (Jvm.FP.Core.i2f (iZ e))) ≠ .nan
  rw [Jvm.FP.Core.val32_fdiv, Jvm.FP.Core.val32_i2f, Jvm.FP.Core.val32_i2f, iZ_toInt hc, iZ_toInt (by omega)]
  refine fl_nz_q (fl_rd (fl_of _)) ?_
  have h := fl_32 ⟨e.toNat, by omega⟩ (by show e.toNat ≠ 0; omega)
  rw [show ((e.toNat : Nat) : Int) = e by omega] at h
  exact h
theorem fl_ddiv {c e : Int} (hc : -2147483648 ≤ c ∧ c < 2147483648) (he : 0 < e ∧ e < 4000) : Jvm.FP.Core.val64 (FP.ddiv (FP.i2d (iZ c)) (FP.i2d (iZ e))) ≠ .nan := by
  show Jvm.FP.Core.val64 (Jvm.FP.Core.ddiv (Jvm.FP.Core.i2d (iZ c)) (Jvm.FP.Core.i2d (iZ e))) ≠ .nan
  rw [Jvm.FP.Core.val64_ddiv, Jvm.FP.Core.val64_i2d, Jvm.FP.Core.val64_i2d, iZ_toInt hc, iZ_toInt (by omega)]
  refine fl_nz_q (fl_rd (fl_of _)) ?_
  have h := fl_64 ⟨e.toNat, by omega⟩ (by show e.toNat ≠ 0; omega)
  rw [show ((e.toNat : Nat) : Int) = e by omega] at h
  exact h
theorem fl_f2d {x : UInt32} (h : Jvm.FP.Core.val32 x ≠ .nan) : Jvm.FP.Core.val64 (FP.f2d x) ≠ .nan := by
  have h1 : Jvm.FP.Core.fIsNaN x = false := (Jvm.FP.Core.notNaN_iff32 x).mpr h
  have e : FP.f2d x = Jvm.FP.Core.f2d x := by
    unfold FP.f2d
    rw [h1]
    rfl
  rw [e, Jvm.FP.Core.val64_f2d]
  exact fl_rd h
theorem fl_n32 {x : UInt32} (h : Jvm.FP.Core.val32 x ≠ .nan) : vf_n32 x := by
  have h1 : Jvm.FP.Core.fIsNaN x = false := (Jvm.FP.Core.notNaN_iff32 x).mpr h
  have h2 : ¬ 2139095040 < x.toNat % 2 ^ 31 := fun z => by rw [(Jvm.FP.Core.isNaN_bits32 x).mpr z] at h1; cases h1
  unfold vf_n32
  rw [UInt32.le_iff_toNat_le, UInt32.toNat_and]
  show x.toNat &&& (2 ^ 31 - 1) ≤ 2139095040
  rw [Nat.and_two_pow_sub_one_eq_mod]
  omega
theorem fl_n64 {x : UInt64} (h : Jvm.FP.Core.val64 x ≠ .nan) : vf_n64 x := by
  have h1 : Jvm.FP.Core.dIsNaN x = false := (Jvm.FP.Core.notNaN_iff x).mpr h
  have h2 : ¬ 9218868437227405312 < x.toNat % 2 ^ 63 := fun z => by rw [(Jvm.FP.Core.isNaN_bits x).mpr z] at h1; cases h1
  unfold vf_n64
  rw [UInt64.le_iff_toNat_le, UInt64.toNat_and]
  show x.toNat &&& (2 ^ 63 - 1) ≤ 9218868437227405312
  rw [Nat.and_two_pow_sub_one_eq_mod]
  omega
theorem fl_cmp {x : UInt64} (h : Jvm.FP.Core.val64 x ≠ .nan) : Op.cmpValue (FP.dcmp x x) .l = 0 := by
  show Op.cmpValue (Jvm.FP.Core.dcmp x x) .l = 0
  rw [Jvm.FP.Core.dcmp_self h]
  rfl
theorem fl_f0 : Jvm.FP.Core.val32 FP.fconst0 ≠ .nan := by decide +kernel
theorem fl_d0 : Jvm.FP.Core.val64 FP.dconst0 ≠ .nan := by decide +kernel
