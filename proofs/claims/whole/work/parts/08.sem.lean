/-! ===== the store of the whole program: keys with a fixed shape; ints and longs by key and place ===== -/
/-- an int by its number -/
def iZ (z : Int) : Int32 := Int32.ofInt z
abbrev Sg : Type := (Nat → Nat → Int) × (Nat → Nat → Int64)
abbrev ShE : Type := (Nat × List Nat) ⊕ (Nat × Nat)
/-- the kinds of an object's places: 0 an int, 1 a long, j + 2 the object or row of key j; rows: (0, n) ints, (1, n) longs, (2, n) the kept sharings -/
def shModel (k : Nat) : Option ShE := match k with
  | 0 => some (.inl (12, [0, 1 + 2, 0, 0, 0, 0, 0, 0, 0, 0, 0, 0, 0, 0, 1, 2 + 2, 3 + 2, 4 + 2, 5 + 2, 6 + 2, 7 + 2, 8 + 2, 9 + 2, 0, 0, 0, 0, 0, 10 + 2, 11 + 2, 12 + 2, 13 + 2, 14 + 2, 15 + 2, 0, 0, 16 + 2, 17 + 2, 18 + 2, 19 + 2, 20 + 2, 0, 0, 0, 0, 21 + 2, 0, 0]))
  | 1 => some (.inr (0, 800))
  | 2 => some (.inr (0, 350))
  | 3 => some (.inr (0, 350))
  | 4 => some (.inr (0, 2100))
  | 5 => some (.inr (0, 350))
  | 6 => some (.inr (0, 350))
  | 7 => some (.inr (1, 14))
  | 8 => some (.inr (1, 14))
  | 9 => some (.inr (1, 14))
  | 10 => some (.inr (0, 14))
  | 11 => some (.inr (0, 49))
  | 12 => some (.inr (0, 7))
  | 13 => some (.inr (0, 7))
  | 14 => some (.inr (0, 7))
  | 15 => some (.inr (0, 4))
  | 16 => some (.inr (0, 60))
  | 17 => some (.inr (0, 60))
  | 18 => some (.inr (0, 60))
  | 19 => some (.inr (0, 2))
  | 20 => some (.inr (0, 2))
  | 21 => some (.inr (0, 300))
  | 50 => some (.inr (1, 1))
  | _ => none
def shSingle (k : Nat) : Option ShE := match k with
  | 0 => some (.inl (11, [101 + 2, 103 + 2, 104 + 2, 106 + 2, 200 + 2, 210 + 2, 220 + 2, 300 + 2, 310 + 2, 320 + 2, 0, 111 + 2, 113 + 2, 120 + 2, 124 + 2, 128 + 2, 132 + 2, 0]))
  | 1 => some (.inl (10, [102 + 2, 0, 0, 0, 0, 0, 1, 0, 0, 0, 0, 0]))
  | 2 => some (.inr (0, 800))
  | 3 => some (.inl (9, [0]))
  | 4 => some (.inl (7, [105 + 2]))
  | 5 => some (.inr (0, 2))
  | 6 => some (.inl (6, [107 + 2, 108 + 2, 109 + 2, 110 + 2, 0, 0]))
  | 7 => some (.inr (0, 60))
  | 8 => some (.inr (0, 60))
  | 9 => some (.inr (0, 60))
  | 10 => some (.inr (0, 60))
  | 11 => some (.inl (3, [112 + 2, 0, 0]))
  | 12 => some (.inr (2, 6))
  | 13 => some (.inl (4, [0, 0, 0, 0, 0, 0, 114 + 2, 115 + 2, 116 + 2, 117 + 2, 118 + 2, 119 + 2]))
  | 14 => some (.inr (0, 14))
  | 15 => some (.inr (0, 14))
  | 16 => some (.inr (0, 14))
  | 17 => some (.inr (0, 4))
  | 18 => some (.inr (0, 4))
  | 19 => some (.inr (0, 56))
  | 20 => some (.inl (5, [121 + 2, 122 + 2, 123 + 2, 0, 0]))
  | 21 => some (.inr (0, 196))
  | 22 => some (.inr (0, 14))
  | 23 => some (.inr (0, 14))
  | 24 => some (.inl (0, [125 + 2, 126 + 2, 127 + 2, 0, 0]))
  | 25 => some (.inr (0, 7))
  | 26 => some (.inr (0, 7))
  | 27 => some (.inr (0, 4))
  | 28 => some (.inl (1, [129 + 2, 130 + 2, 131 + 2, 0, 0, 0]))
  | 29 => some (.inr (0, 196))
  | 30 => some (.inr (0, 14))
  | 31 => some (.inr (0, 14))
  | 32 => some (.inr (0, 152))
  | _ => none
def shGraph (b j : Nat) : Option ShE := match j with
  | 0 => some (.inl (2, [0, 0, 0, 0, 0, 0, 0, b + 1 + 2, b + 2 + 2, b + 3 + 2, b + 4 + 2, b + 5 + 2]))
  | 1 => some (.inr (1, 14))
  | 2 => some (.inr (0, 14))
  | 3 => some (.inr (0, 40))
  | 4 => some (.inr (0, 40))
  | 5 => some (.inr (0, 40))
  | _ => none
def shSharing (b j : Nat) : Option ShE := match j with
  | 0 => some (.inl (8, [0, 0, 0, b + 1 + 2, b + 2 + 2, b + 3 + 2, b + 4 + 2]))
  | 1 => some (.inr (0, 14))
  | 2 => some (.inr (0, 5))
  | 3 => some (.inr (0, 70))
  | 4 => some (.inr (0, 120))
  | _ => none
/-- the shape of a key: below 100 the reference and the law's own row, 100 to 199 the class, 200, 210, 220 its graphs, 300, 310 .. 380 its sharings -/
def shp (k : Nat) : Option ShE :=
  if k < 100 then shModel k else if k < 200 then shSingle (k - 100)
  else if k < 230 then shGraph (k / 10 * 10) (k % 10)
  else if k < 300 then none else if k < 390 then shSharing (k / 10 * 10) (k % 10) else none
/-- a place of an object: its class's number and its kind -/
def shO (k i : Nat) : Option (Nat × Nat) := match shp k with
  | some (.inl (ci, ks)) => match ks[i]? with
    | some kd => some (ci, kd)
    | none => none
  | _ => none
/-- a row: its sort and its length -/
def shR (k : Nat) : Option (Nat × Nat) := match shp k with
  | some (.inr q) => some q
  | _ => none
/-- one place changed -/
def up2 {α : Type} (f : Nat → Nat → α) (k i : Nat) (v : α) : Nat → Nat → α := fun k' i' => if k' = k ∧ i' = i then v else f k' i'
theorem up2_self {α : Type} (f : Nat → Nat → α) (k i : Nat) (v : α) : up2 f k i v k i = v := if_pos ⟨rfl, rfl⟩
theorem up2_ne {α : Type} {f : Nat → Nat → α} {k i k' i' : Nat} {v : α} (h : ¬ (k' = k ∧ i' = i)) : up2 f k i v k' i' = f k' i' := if_neg h
theorem up2_key {α : Type} {f : Nat → Nat → α} {k i k' : Nat} {v : α} (h : k' ≠ k) : up2 f k i v k' = f k' := funext fun _ => if_neg (fun q => h q.1)
/-! ===== ints by their numbers ===== -/
theorem nI_iZ (n : Nat) : nI n = iZ (n : Int) := by
  unfold nI iZ
  first | exact (Int32.ofInt_natCast n).symm | exact (Int32.ofInt_eq_ofNat).symm | simp [Int32.ofInt_natCast]
theorem iZ_add (a b : Int) : iZ a + iZ b = iZ (a + b) := (Int32.ofInt_add a b).symm
theorem iZ_sub (a b : Int) : iZ a - iZ b = iZ (a - b) := (Int32.ofInt_sub a b).symm
theorem iZ_mul (a b : Int) : iZ a * iZ b = iZ (a * b) := (Int32.ofInt_mul a b).symm
theorem iZ_neg (a : Int) : -iZ a = iZ (-a) := (Int32.ofInt_neg a).symm
/-- what an int can be -/
def rg (z : Int) : Prop := -2147483648 ≤ z ∧ z < 2147483648
theorem iZ_toInt {z : Int} (h : -2147483648 ≤ z ∧ z < 2147483648) : (iZ z).toInt = z := by
  unfold iZ
  rw [Int32.toInt_ofInt, show Int32.size = 4294967296 from rfl, Int.bmod_def]
  split <;> omega
theorem iZ_lt {a b : Int} (ha : -2147483648 ≤ a ∧ a < 2147483648) (hb : -2147483648 ≤ b ∧ b < 2147483648) : iZ a < iZ b ↔ a < b := by rw [Int32.lt_iff_toInt_lt, iZ_toInt ha, iZ_toInt hb]
theorem iZ_le {a b : Int} (ha : -2147483648 ≤ a ∧ a < 2147483648) (hb : -2147483648 ≤ b ∧ b < 2147483648) : iZ a ≤ iZ b ↔ a ≤ b := by rw [Int32.le_iff_toInt_le, iZ_toInt ha, iZ_toInt hb]
theorem iZ_eq {a b : Int} (ha : -2147483648 ≤ a ∧ a < 2147483648) (hb : -2147483648 ≤ b ∧ b < 2147483648) : iZ a = iZ b ↔ a = b := by
  constructor
  · intro h
    have := congrArg Int32.toInt h
    rwa [iZ_toInt ha, iZ_toInt hb] at this
  · intro h; rw [h]
theorem iZ_0 : iZ 0 = 0 := by decide
theorem iZ_inn {n i : Nat} (hi : i < n) (hn : n ≤ 2147483647) : vp_in (iZ (i : Int)) n := by
  rw [← nI_iZ]
  exact vp_in_nI hi (by omega)
theorem iZ_cl {n i : Nat} (hi : i < n) (hn : n ≤ 2147483647) : (iZ (i : Int)).toNatClampNeg = i := by
  rw [← nI_iZ]
  exact nI_clamp (by omega)
theorem iZ_idiv {a b : Nat} (ha : a < 2147483648) (h0 : 0 < b) (hb : b < 2147483648) : iZ (a : Int) / iZ (b : Int) = iZ ((a / b : Nat) : Int) := by
  rw [← nI_iZ, ← nI_iZ, ← nI_iZ]
  exact pk_div ha h0 hb
theorem iZ_irem {a b : Nat} (ha : a < 2147483648) (h0 : 0 < b) (hb : b < 2147483648) : iZ (a : Int) - iZ (a : Int) / iZ (b : Int) * iZ (b : Int) = iZ ((a % b : Nat) : Int) := by
  rw [← nI_iZ, ← nI_iZ, ← nI_iZ]
  exact pk_rem ha h0 hb
theorem iZ_and (a b : Nat) : iZ (a : Int) &&& iZ (b : Int) = iZ ((a &&& b : Nat) : Int) := by rw [← nI_iZ, ← nI_iZ, ← nI_iZ]; exact fa_and a b
theorem iZ_or (a b : Nat) : iZ (a : Int) ||| iZ (b : Int) = iZ ((a ||| b : Nat) : Int) := by rw [← nI_iZ, ← nI_iZ, ← nI_iZ]; exact fa_or a b
theorem iZ_shl {a k : Nat} (hk : k < 32) (h : a * 2 ^ k < 4294967296) : iZ (a : Int) <<< (iZ (k : Int) &&& 31) = iZ ((a * 2 ^ k : Nat) : Int) := by
  rw [← nI_iZ, ← nI_iZ, ← nI_iZ]
  exact pk_shlN _ k (s_l k hk) h
theorem iZ_shr {a k : Nat} (hk : k < 32) (h : a < 2147483648) : iZ (a : Int) >>> (iZ (k : Int) &&& 31) = iZ ((a / 2 ^ k : Nat) : Int) := by
  rw [← nI_iZ, ← nI_iZ, ← nI_iZ]
  exact pk_shrN h _ k (s_l k hk)
theorem iZ_ushr {a k : Nat} (hk : k < 32) (h : a < 2147483648) : ((iZ (a : Int)).toUInt32 >>> ((iZ (k : Int)).toUInt32 &&& Int32.toUInt32 31)).toInt32 = iZ ((a / 2 ^ k : Nat) : Int) := by
  rw [← nI_iZ, ← nI_iZ, ← nI_iZ]
  exact pk_ushrN (by omega) _ k (s_u k hk)
def lZ (z : Int) : Int64 := Int64.ofInt z
theorem lZ_toInt {z : Int} (h : -9223372036854775808 ≤ z ∧ z < 9223372036854775808) : (lZ z).toInt = z := by
  unfold lZ
  rw [Int64.toInt_ofInt, show Int64.size = 18446744073709551616 from rfl, Int.bmod_def]
  split <;> omega
theorem lZ_inj {a b : Int} (ha : -9223372036854775808 ≤ a ∧ a < 9223372036854775808) (hb : -9223372036854775808 ≤ b ∧ b < 9223372036854775808) : lZ a = lZ b ↔ a = b := by
  constructor
  · intro h
    have := congrArg Int64.toInt h
    rwa [lZ_toInt ha, lZ_toInt hb] at this
  · intro h; rw [h]
theorem lZ_lt {a b : Int} (ha : -9223372036854775808 ≤ a ∧ a < 9223372036854775808) (hb : -9223372036854775808 ≤ b ∧ b < 9223372036854775808) : lZ a < lZ b ↔ a < b := by rw [Int64.lt_iff_toInt_lt, lZ_toInt ha, lZ_toInt hb]
theorem iZ_l {z : Int} (h : -2147483648 ≤ z ∧ z < 2147483648) : (iZ z).toInt64 = lZ z := by
  apply Int64.toInt_inj.mp
  rw [Int32.toInt_toInt64, iZ_toInt h, lZ_toInt (by omega)]
/-- the answer of a comparison of longs -/
def cmpZ (a b : Int) : Int := if a < b then -1 else if a = b then 0 else 1
theorem cmpZ_lt {a b : Int} : cmpZ a b < 0 ↔ a < b := by unfold cmpZ; split <;> (try split) <;> omega
theorem cmpZ_gt {a b : Int} : 0 < cmpZ a b ↔ b < a := by unfold cmpZ; split <;> (try split) <;> omega
theorem cmpZ_le {a b : Int} : cmpZ a b ≤ 0 ↔ a ≤ b := by unfold cmpZ; split <;> (try split) <;> omega
theorem cmpZ_ge {a b : Int} : 0 ≤ cmpZ a b ↔ b ≤ a := by unfold cmpZ; split <;> (try split) <;> omega
theorem cmpZ_eq {a b : Int} : cmpZ a b = 0 ↔ a = b := by unfold cmpZ; split <;> (try split) <;> omega
theorem cmpZ_rg (a b : Int) : -2147483648 ≤ cmpZ a b ∧ cmpZ a b < 2147483648 := by unfold cmpZ; split <;> (try split) <;> omega
theorem lg_cmpZ {a b : Int} (ha : -9223372036854775808 ≤ a ∧ a < 9223372036854775808) (hb : -9223372036854775808 ≤ b ∧ b < 9223372036854775808) : lg_cmp (lZ a) (lZ b) = iZ (cmpZ a b) := by
  unfold lg_cmp cmpZ
  by_cases h1 : a < b
  · rw [if_neg (fun h => by have := (lZ_lt hb ha).mp h; omega), if_neg (fun h => by have := (lZ_inj ha hb).mp h; omega), if_pos h1]; rfl
  · by_cases h3 : a = b
    · subst h3
      rw [if_neg (fun h => by have := (lZ_lt hb ha).mp h; omega), if_pos rfl, if_neg h1, if_pos rfl]; rfl
    · rw [if_pos ((lZ_lt hb ha).mpr (by omega)), if_neg h1, if_neg h3]; rfl
abbrev Ii : Type := Nat → Nat → Int
abbrev Jj : Type := Nat → Nat → Int64
/-! ===== the operations, by numbers, without any premise ===== -/
theorem iZ_back (v : Int32) : iZ v.toInt = v := Int32.ofInt_toInt v
theorem toInt_rg (v : Int32) : -2147483648 ≤ v.toInt ∧ v.toInt < 2147483648 := ⟨Int32.le_toInt v, Int32.toInt_lt v⟩
def andZ (x y : Int) : Int := (iZ x &&& iZ y).toInt
def orZ (x y : Int) : Int := (iZ x ||| iZ y).toInt
def xorZ (x y : Int) : Int := (iZ x ^^^ iZ y).toInt
def shlZ (x y : Int) : Int := (iZ x <<< (iZ y &&& 31)).toInt
def shrZ (x y : Int) : Int := (iZ x >>> (iZ y &&& 31)).toInt
def ushrZ (x y : Int) : Int := (((iZ x).toUInt32 >>> ((iZ y).toUInt32 &&& Int32.toUInt32 31)).toInt32).toInt
def cmpL (x y : Int64) : Int := (lg_cmp x y).toInt
def i2lZ (x : Int) : Int64 := (iZ x).toInt64
def l2iZ (x : Int64) : Int := x.toInt32.toInt
def shlL (x : Int64) (y : Int) : Int64 := x <<< ((iZ y).toInt64 &&& 63)
def shrL (x : Int64) (y : Int) : Int64 := x >>> ((iZ y).toInt64 &&& 63)
def ushrL (x : Int64) (y : Int) : Int64 := (x.toUInt64 >>> ((iZ y).toInt64.toUInt64 &&& Int64.toUInt64 63)).toInt64
theorem cmpL_Z {a b : Int} (ha : -2147483648 ≤ a ∧ a < 2147483648) (hb : -2147483648 ≤ b ∧ b < 2147483648) : cmpL (i2lZ a) (i2lZ b) = cmpZ a b := by
  unfold cmpL i2lZ
  rw [iZ_l ha, iZ_l hb, lg_cmpZ (by omega) (by omega), iZ_toInt (cmpZ_rg _ _)]
theorem cmpL_lZ {a b : Int} (ha : -9223372036854775808 ≤ a ∧ a < 9223372036854775808) (hb : -9223372036854775808 ≤ b ∧ b < 9223372036854775808) : cmpL (lZ a) (lZ b) = cmpZ a b := by
  unfold cmpL
  rw [lg_cmpZ ha hb, iZ_toInt (cmpZ_rg _ _)]
theorem i2lZ_lZ {a : Int} (ha : -2147483648 ≤ a ∧ a < 2147483648) : i2lZ a = lZ a := iZ_l ha
/-- the length of a row of ints -/
def rlen (k : Nat) : Nat := match shR k with
  | some (0, n) => n
  | _ => 0
/-- a row of ints -/
def isRow (k : Nat) : Prop := shR k = some (0, rlen k)
/-- a graph's key -/
def gK (k : Nat) : Prop := k = 200 ∨ k = 210 ∨ k = 220
/-- a sharing's key -/
def sK (k : Nat) : Prop := k = 300 ∨ k = 310 ∨ k = 320 ∨ k = 330 ∨ k = 340 ∨ k = 350 ∨ k = 360 ∨ k = 370 ∨ k = 380
