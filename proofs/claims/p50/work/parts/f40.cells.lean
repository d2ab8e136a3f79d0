/-! ===== the class' cells, new: one list ===== -/
def LA (G : KG) : List va_E := [.inr (13, oX10 G (1 + 1)), .inl (G.2.2.2.1.1, (800, .inl (fun _ => iZ 0))), .inr (12, oX9 G (3 + 1)), .inr (10, oX7 G (4 + 1)), .inl (G.2.2.2.1.1, (2, .inl (fun _ => iZ 0))), .inr (9, oX6 G (6 + 1)), .inl (G.2.2.2.1.1, (60, .inl (fun _ => iZ 0))), .inl (G.2.2.2.1.1, (60, .inl (fun _ => iZ 0))), .inl (G.2.2.2.1.1, (60, .inl (fun _ => iZ 0))), .inl (G.2.2.2.1.1, (60, .inl (fun _ => iZ 0))), .inr (5, oX2 G (11 + 1)), .inl (G.2.2.2.1.2.1, (14, .inr (.inl (fun _ => 0)))), .inl (G.2.2.2.1.1, (14, .inl (fun _ => iZ 0))), .inl (G.2.2.2.1.1, (40, .inl (fun _ => iZ 0))), .inl (G.2.2.2.1.1, (40, .inl (fun _ => iZ 0))), .inl (G.2.2.2.1.1, (40, .inl (fun _ => iZ 0))), .inr (5, oX2 G (17 + 1)), .inl (G.2.2.2.1.2.1, (14, .inr (.inl (fun _ => 0)))), .inl (G.2.2.2.1.1, (14, .inl (fun _ => iZ 0))), .inl (G.2.2.2.1.1, (40, .inl (fun _ => iZ 0))), .inl (G.2.2.2.1.1, (40, .inl (fun _ => iZ 0))), .inl (G.2.2.2.1.1, (40, .inl (fun _ => iZ 0))), .inr (5, oX2 G (23 + 1)), .inl (G.2.2.2.1.2.1, (14, .inr (.inl (fun _ => 0)))), .inl (G.2.2.2.1.1, (14, .inl (fun _ => iZ 0))), .inl (G.2.2.2.1.1, (40, .inl (fun _ => iZ 0))), .inl (G.2.2.2.1.1, (40, .inl (fun _ => iZ 0))), .inl (G.2.2.2.1.1, (40, .inl (fun _ => iZ 0))), .inr (11, oX8 G (29 + 1)), .inl (G.2.2.2.1.1, (14, .inl (fun _ => iZ 0))), .inl (G.2.2.2.1.1, (5, .inl (fun _ => iZ 0))), .inl (G.2.2.2.1.1, (70, .inl (fun _ => iZ 0))), .inl (G.2.2.2.1.1, (120, .inl (fun _ => iZ 0))), .inr (11, oX8 G (34 + 1)), .inl (G.2.2.2.1.1, (14, .inl (fun _ => iZ 0))), .inl (G.2.2.2.1.1, (5, .inl (fun _ => iZ 0))), .inl (G.2.2.2.1.1, (70, .inl (fun _ => iZ 0))), .inl (G.2.2.2.1.1, (120, .inl (fun _ => iZ 0))), .inr (11, oX8 G (39 + 1)), .inl (G.2.2.2.1.1, (14, .inl (fun _ => iZ 0))), .inl (G.2.2.2.1.1, (5, .inl (fun _ => iZ 0))), .inl (G.2.2.2.1.1, (70, .inl (fun _ => iZ 0))), .inl (G.2.2.2.1.1, (120, .inl (fun _ => iZ 0))), .inr (6, oX3 G (44 + 1)), aX3 G (44 + 1) 6, .inr (11, oX8 G (46 + 1)), .inl (G.2.2.2.1.1, (14, .inl (fun _ => iZ 0))), .inl (G.2.2.2.1.1, (5, .inl (fun _ => iZ 0))), .inl (G.2.2.2.1.1, (70, .inl (fun _ => iZ 0))), .inl (G.2.2.2.1.1, (120, .inl (fun _ => iZ 0))), .inr (11, oX8 G (51 + 1)), .inl (G.2.2.2.1.1, (14, .inl (fun _ => iZ 0))), .inl (G.2.2.2.1.1, (5, .inl (fun _ => iZ 0))), .inl (G.2.2.2.1.1, (70, .inl (fun _ => iZ 0))), .inl (G.2.2.2.1.1, (120, .inl (fun _ => iZ 0))), .inr (11, oX8 G (56 + 1)), .inl (G.2.2.2.1.1, (14, .inl (fun _ => iZ 0))), .inl (G.2.2.2.1.1, (5, .inl (fun _ => iZ 0))), .inl (G.2.2.2.1.1, (70, .inl (fun _ => iZ 0))), .inl (G.2.2.2.1.1, (120, .inl (fun _ => iZ 0))), .inr (11, oX8 G (61 + 1)), .inl (G.2.2.2.1.1, (14, .inl (fun _ => iZ 0))), .inl (G.2.2.2.1.1, (5, .inl (fun _ => iZ 0))), .inl (G.2.2.2.1.1, (70, .inl (fun _ => iZ 0))), .inl (G.2.2.2.1.1, (120, .inl (fun _ => iZ 0))), .inr (11, oX8 G (66 + 1)), .inl (G.2.2.2.1.1, (14, .inl (fun _ => iZ 0))), .inl (G.2.2.2.1.1, (5, .inl (fun _ => iZ 0))), .inl (G.2.2.2.1.1, (70, .inl (fun _ => iZ 0))), .inl (G.2.2.2.1.1, (120, .inl (fun _ => iZ 0))), .inr (11, oX8 G (71 + 1)), .inl (G.2.2.2.1.1, (14, .inl (fun _ => iZ 0))), .inl (G.2.2.2.1.1, (5, .inl (fun _ => iZ 0))), .inl (G.2.2.2.1.1, (70, .inl (fun _ => iZ 0))), .inl (G.2.2.2.1.1, (120, .inl (fun _ => iZ 0))), .inr (7, oX4 G (76 + 1)), .inl (G.2.2.2.1.1, (14, .inl (fun _ => iZ 0))), .inl (G.2.2.2.1.1, (14, .inl (fun _ => iZ 0))), .inl (G.2.2.2.1.1, (14, .inl (fun _ => iZ 0))), .inl (G.2.2.2.1.1, (4, .inl (fun _ => iZ 0))), .inl (G.2.2.2.1.1, (4, .inl (fun _ => iZ 0))), .inl (G.2.2.2.1.1, (56, .inl (fun _ => iZ 0))), .inr (8, oX5 G (83 + 1)), .inl (G.2.2.2.1.1, (196, .inl (fun _ => iZ 0))), .inl (G.2.2.2.1.1, (14, .inl (fun _ => iZ 0))), .inl (G.2.2.2.1.1, (14, .inl (fun _ => iZ 0))), .inr (3, oX0 G (87 + 1)), .inl (G.2.2.2.1.1, (7, .inl (fun _ => iZ 0))), .inl (G.2.2.2.1.1, (7, .inl (fun _ => iZ 0))), .inl (G.2.2.2.1.1, (4, .inl (fun _ => iZ 0))), .inr (4, oX1 G (91 + 1)), .inl (G.2.2.2.1.1, (196, .inl (fun _ => iZ 0))), .inl (G.2.2.2.1.1, (14, .inl (fun _ => iZ 0))), .inl (G.2.2.2.1.1, (14, .inl (fun _ => iZ 0))), .inl (G.2.2.2.1.1, (152, .inl (fun _ => iZ 0)))]
theorem fl11 (G : KG) : n11_16 G 1 = LA G := by
  simp only [n11_16, n11_15, n11_14, n11_13, n11_12, n11_11, n11_10, n11_9, n11_8, n11_7, n11_6, n11_5, n11_4, n11_3, n11_2, n11_1, n11_0, nX10, nX9, nX7, nX6, nX8, nX4, nX5, nX0, nX1, nX2, nX3, tX3, sX3, List.nil_append, List.cons_append, List.append_assoc]
  rfl
theorem LA_len (G : KG) : (LA G).length = 95 := rfl
theorem EC_0 (G : KG) : EC G 0 = .inr (14, o11_16 G 1) := bld_o
theorem EC_A {G : KG} {i : Nat} {e : va_E} (h : (LA G)[i]? = some e) : EC G (1 + i) = e := by
  unfold EC
  rw [fl11]
  exact bld_at (by decide) h
def kycL : List Nat := [100, 101, 102, 103, 104, 105, 106, 107, 108, 109, 110, 200, 201, 202, 203, 204, 205, 210, 211, 212, 213, 214, 215, 220, 221, 222, 223, 224, 225, 300, 301, 302, 303, 304, 310, 311, 312, 313, 314, 320, 321, 322, 323, 324, 111, 112, 330, 331, 332, 333, 334, 340, 341, 342, 343, 344, 350, 351, 352, 353, 354, 360, 361, 362, 363, 364, 370, 371, 372, 373, 374, 380, 381, 382, 383, 384, 113, 114, 115, 116, 117, 118, 119, 120, 121, 122, 123, 124, 125, 126, 127, 128, 129, 130, 131, 132]
def plcL : List Nat := [999, 999, 999, 999, 999, 999, 999, 999, 999, 999, 999, 999, 999, 999, 999, 999, 999, 999, 999, 999, 999, 999, 999, 999, 999, 999, 999, 999, 999, 999, 999, 999, 999, 999, 999, 999, 999, 999, 999, 999, 999, 999, 999, 999, 999, 999, 999, 999, 999, 999, 999, 999, 999, 999, 999, 999, 999, 999, 999, 999, 999, 999, 999, 999, 999, 999, 999, 999, 999, 999, 999, 999, 999, 999, 999, 999, 999, 999, 999, 999, 999, 999, 999, 999, 999, 999, 999, 999, 999, 999, 999, 999, 999, 999, 999, 999, 999, 999, 999, 999, 0, 1, 2, 3, 4, 5, 6, 7, 8, 9, 10, 44, 45, 76, 77, 78, 79, 80, 81, 82, 83, 84, 85, 86, 87, 88, 89, 90, 91, 92, 93, 94, 95, 999, 999, 999, 999, 999, 999, 999, 999, 999, 999, 999, 999, 999, 999, 999, 999, 999, 999, 999, 999, 999, 999, 999, 999, 999, 999, 999, 999, 999, 999, 999, 999, 999, 999, 999, 999, 999, 999, 999, 999, 999, 999, 999, 999, 999, 999, 999, 999, 999, 999, 999, 999, 999, 999, 999, 999, 999, 999, 999, 999, 999, 999, 999, 999, 999, 999, 999, 11, 12, 13, 14, 15, 16, 999, 999, 999, 999, 17, 18, 19, 20, 21, 22, 999, 999, 999, 999, 23, 24, 25, 26, 27, 28, 999, 999, 999, 999, 999, 999, 999, 999, 999, 999, 999, 999, 999, 999, 999, 999, 999, 999, 999, 999, 999, 999, 999, 999, 999, 999, 999, 999, 999, 999, 999, 999, 999, 999, 999, 999, 999, 999, 999, 999, 999, 999, 999, 999, 999, 999, 999, 999, 999, 999, 999, 999, 999, 999, 999, 999, 999, 999, 999, 999, 999, 999, 999, 999, 999, 999, 999, 999, 999, 999, 999, 999, 999, 999, 29, 30, 31, 32, 33, 999, 999, 999, 999, 999, 34, 35, 36, 37, 38, 999, 999, 999, 999, 999, 39, 40, 41, 42, 43, 999, 999, 999, 999, 999, 46, 47, 48, 49, 50, 999, 999, 999, 999, 999, 51, 52, 53, 54, 55, 999, 999, 999, 999, 999, 56, 57, 58, 59, 60, 999, 999, 999, 999, 999, 61, 62, 63, 64, 65, 999, 999, 999, 999, 999, 66, 67, 68, 69, 70, 999, 999, 999, 999, 999, 71, 72, 73, 74, 75, 999, 999, 999, 999, 999]
def plc (k : Nat) : Nat := plcL.getD k 999
theorem plc_ky : ∀ k, k < 390 → (shp k).isSome = true → plc k < 96 ∧ kycL.getD (plc k) 0 = k := by decide +kernel
theorem shp_390 {k : Nat} (h : 390 ≤ k) (h2 : k < 1000) : shp k = none := by
  unfold shp
  rw [if_neg (by omega), if_neg (by omega), if_neg (by omega), if_neg (by omega), if_neg (by omega), if_pos h2]
/-- the addresses: the class' object not there yet; there, n cells behind the base -/
def ad1 (sz : Nat) (lit : Nat → Nat) : Nat → Nat := fun k => if k < 900 then (if sz = 1 then 2 else sz) else if k < 1000 then lit k else sz + (k - 1000)
def ad2 (sz n : Nat) (lit : Nat → Nat) : Nat → Nat := fun k => if k = 0 then 1 else if k = 1 then n else if k < 900 then sz + n + plc k else if k < 1000 then lit k else sz + (k - 1000)
/-- the stores at the start -/
def I0w : Ii := fun k i =>
  if k < 900 then (if k = 101 then (if i = 10 then -1 else if i = 11 then -1 else 0) else if k = 200 then (if i = 2 then 2 else 0) else if k = 210 then (if i = 2 then 2 else 0) else if k = 220 then (if i = 2 then 2 else 0) else 0)
  else if k < 934 then lval k i
  else if k = 999 then (if i = 0 then 1022 else 0)
  else if k = 1000 then (if i = 1 then 2 else if i = 12 then 918 else 0)
  else if k = 1020 then (if i = 1 then 930 else 0)
  else if k = 1021 then (if i = 1 then 930 else 0)
  else if 1000900 ≤ k ∧ k < 1000934 then (if i = 0 then lsort (k - 1000000) else if i = 1 then llen (k - 1000000) else 0)
  else 0
def J0w : Jj := fun _ _ => 0
/-- what a key of the class tells -/
def entc (cA : KA) (ad : Nat → Nat) (k : Nat) : Option va_E := (shp k).map (entS cA ad (I0w, J0w) k)
section ECS
variable {F : Launch × (State → Prop)} {sz n : Nat} {D : va_G} {cA : KA} {lit : Nat → Nat}
abbrev gC (F : Launch × (State → Prop)) (sz n : Nat) (D : va_G) (cA : KA) (lit : Nat → Nat) : KG := (F, sz + n, D, cA, ad2 sz n lit)
theorem ec_0 : entc cA (ad2 sz n lit) 100 = some (EC (gC F sz n D cA lit) 0) := (show entc cA (ad2 sz n lit) 100 = some (.inr (14, o11_16 (gC F sz n D cA lit) 1)) from rfl).trans (congrArg some (EC_0 _).symm)
theorem ec_1 : entc cA (ad2 sz n lit) 101 = some (EC (gC F sz n D cA lit) 1) := (show entc cA (ad2 sz n lit) 101 = some (.inr (13, oX10 (gC F sz n D cA lit) (1 + 1))) from rfl).trans (congrArg some (EC_A (i := 0) rfl).symm)
theorem ec_2 : entc cA (ad2 sz n lit) 102 = some (EC (gC F sz n D cA lit) 2) := (show entc cA (ad2 sz n lit) 102 = some (.inl ((gC F sz n D cA lit).2.2.2.1.1, (800, .inl (fun _ => iZ 0)))) from rfl).trans (congrArg some (EC_A (i := 1) rfl).symm)
theorem ec_3 : entc cA (ad2 sz n lit) 103 = some (EC (gC F sz n D cA lit) 3) := (show entc cA (ad2 sz n lit) 103 = some (.inr (12, oX9 (gC F sz n D cA lit) (3 + 1))) from rfl).trans (congrArg some (EC_A (i := 2) rfl).symm)
theorem ec_4 : entc cA (ad2 sz n lit) 104 = some (EC (gC F sz n D cA lit) 4) := (show entc cA (ad2 sz n lit) 104 = some (.inr (10, oX7 (gC F sz n D cA lit) (4 + 1))) from rfl).trans (congrArg some (EC_A (i := 3) rfl).symm)
theorem ec_5 : entc cA (ad2 sz n lit) 105 = some (EC (gC F sz n D cA lit) 5) := (show entc cA (ad2 sz n lit) 105 = some (.inl ((gC F sz n D cA lit).2.2.2.1.1, (2, .inl (fun _ => iZ 0)))) from rfl).trans (congrArg some (EC_A (i := 4) rfl).symm)
theorem ec_6 : entc cA (ad2 sz n lit) 106 = some (EC (gC F sz n D cA lit) 6) := (show entc cA (ad2 sz n lit) 106 = some (.inr (9, oX6 (gC F sz n D cA lit) (6 + 1))) from rfl).trans (congrArg some (EC_A (i := 5) rfl).symm)
theorem ec_7 : entc cA (ad2 sz n lit) 107 = some (EC (gC F sz n D cA lit) 7) := (show entc cA (ad2 sz n lit) 107 = some (.inl ((gC F sz n D cA lit).2.2.2.1.1, (60, .inl (fun _ => iZ 0)))) from rfl).trans (congrArg some (EC_A (i := 6) rfl).symm)
theorem ec_8 : entc cA (ad2 sz n lit) 108 = some (EC (gC F sz n D cA lit) 8) := (show entc cA (ad2 sz n lit) 108 = some (.inl ((gC F sz n D cA lit).2.2.2.1.1, (60, .inl (fun _ => iZ 0)))) from rfl).trans (congrArg some (EC_A (i := 7) rfl).symm)
theorem ec_9 : entc cA (ad2 sz n lit) 109 = some (EC (gC F sz n D cA lit) 9) := (show entc cA (ad2 sz n lit) 109 = some (.inl ((gC F sz n D cA lit).2.2.2.1.1, (60, .inl (fun _ => iZ 0)))) from rfl).trans (congrArg some (EC_A (i := 8) rfl).symm)
theorem ec_10 : entc cA (ad2 sz n lit) 110 = some (EC (gC F sz n D cA lit) 10) := (show entc cA (ad2 sz n lit) 110 = some (.inl ((gC F sz n D cA lit).2.2.2.1.1, (60, .inl (fun _ => iZ 0)))) from rfl).trans (congrArg some (EC_A (i := 9) rfl).symm)
theorem ec_11 : entc cA (ad2 sz n lit) 200 = some (EC (gC F sz n D cA lit) 11) := (show entc cA (ad2 sz n lit) 200 = some (.inr (5, oX2 (gC F sz n D cA lit) (11 + 1))) from rfl).trans (congrArg some (EC_A (i := 10) rfl).symm)
theorem ec_12 : entc cA (ad2 sz n lit) 201 = some (EC (gC F sz n D cA lit) 12) := (show entc cA (ad2 sz n lit) 201 = some (.inl ((gC F sz n D cA lit).2.2.2.1.2.1, (14, .inr (.inl (fun _ => 0))))) from rfl).trans (congrArg some (EC_A (i := 11) rfl).symm)
theorem ec_13 : entc cA (ad2 sz n lit) 202 = some (EC (gC F sz n D cA lit) 13) := (show entc cA (ad2 sz n lit) 202 = some (.inl ((gC F sz n D cA lit).2.2.2.1.1, (14, .inl (fun _ => iZ 0)))) from rfl).trans (congrArg some (EC_A (i := 12) rfl).symm)
theorem ec_14 : entc cA (ad2 sz n lit) 203 = some (EC (gC F sz n D cA lit) 14) := (show entc cA (ad2 sz n lit) 203 = some (.inl ((gC F sz n D cA lit).2.2.2.1.1, (40, .inl (fun _ => iZ 0)))) from rfl).trans (congrArg some (EC_A (i := 13) rfl).symm)
theorem ec_15 : entc cA (ad2 sz n lit) 204 = some (EC (gC F sz n D cA lit) 15) := (show entc cA (ad2 sz n lit) 204 = some (.inl ((gC F sz n D cA lit).2.2.2.1.1, (40, .inl (fun _ => iZ 0)))) from rfl).trans (congrArg some (EC_A (i := 14) rfl).symm)
theorem ec_16 : entc cA (ad2 sz n lit) 205 = some (EC (gC F sz n D cA lit) 16) := (show entc cA (ad2 sz n lit) 205 = some (.inl ((gC F sz n D cA lit).2.2.2.1.1, (40, .inl (fun _ => iZ 0)))) from rfl).trans (congrArg some (EC_A (i := 15) rfl).symm)
theorem ec_17 : entc cA (ad2 sz n lit) 210 = some (EC (gC F sz n D cA lit) 17) := (show entc cA (ad2 sz n lit) 210 = some (.inr (5, oX2 (gC F sz n D cA lit) (17 + 1))) from rfl).trans (congrArg some (EC_A (i := 16) rfl).symm)
theorem ec_18 : entc cA (ad2 sz n lit) 211 = some (EC (gC F sz n D cA lit) 18) := (show entc cA (ad2 sz n lit) 211 = some (.inl ((gC F sz n D cA lit).2.2.2.1.2.1, (14, .inr (.inl (fun _ => 0))))) from rfl).trans (congrArg some (EC_A (i := 17) rfl).symm)
theorem ec_19 : entc cA (ad2 sz n lit) 212 = some (EC (gC F sz n D cA lit) 19) := (show entc cA (ad2 sz n lit) 212 = some (.inl ((gC F sz n D cA lit).2.2.2.1.1, (14, .inl (fun _ => iZ 0)))) from rfl).trans (congrArg some (EC_A (i := 18) rfl).symm)
theorem ec_20 : entc cA (ad2 sz n lit) 213 = some (EC (gC F sz n D cA lit) 20) := (show entc cA (ad2 sz n lit) 213 = some (.inl ((gC F sz n D cA lit).2.2.2.1.1, (40, .inl (fun _ => iZ 0)))) from rfl).trans (congrArg some (EC_A (i := 19) rfl).symm)
theorem ec_21 : entc cA (ad2 sz n lit) 214 = some (EC (gC F sz n D cA lit) 21) := (show entc cA (ad2 sz n lit) 214 = some (.inl ((gC F sz n D cA lit).2.2.2.1.1, (40, .inl (fun _ => iZ 0)))) from rfl).trans (congrArg some (EC_A (i := 20) rfl).symm)
theorem ec_22 : entc cA (ad2 sz n lit) 215 = some (EC (gC F sz n D cA lit) 22) := (show entc cA (ad2 sz n lit) 215 = some (.inl ((gC F sz n D cA lit).2.2.2.1.1, (40, .inl (fun _ => iZ 0)))) from rfl).trans (congrArg some (EC_A (i := 21) rfl).symm)
theorem ec_23 : entc cA (ad2 sz n lit) 220 = some (EC (gC F sz n D cA lit) 23) := (show entc cA (ad2 sz n lit) 220 = some (.inr (5, oX2 (gC F sz n D cA lit) (23 + 1))) from rfl).trans (congrArg some (EC_A (i := 22) rfl).symm)
theorem ec_24 : entc cA (ad2 sz n lit) 221 = some (EC (gC F sz n D cA lit) 24) := (show entc cA (ad2 sz n lit) 221 = some (.inl ((gC F sz n D cA lit).2.2.2.1.2.1, (14, .inr (.inl (fun _ => 0))))) from rfl).trans (congrArg some (EC_A (i := 23) rfl).symm)
theorem ec_25 : entc cA (ad2 sz n lit) 222 = some (EC (gC F sz n D cA lit) 25) := (show entc cA (ad2 sz n lit) 222 = some (.inl ((gC F sz n D cA lit).2.2.2.1.1, (14, .inl (fun _ => iZ 0)))) from rfl).trans (congrArg some (EC_A (i := 24) rfl).symm)
theorem ec_26 : entc cA (ad2 sz n lit) 223 = some (EC (gC F sz n D cA lit) 26) := (show entc cA (ad2 sz n lit) 223 = some (.inl ((gC F sz n D cA lit).2.2.2.1.1, (40, .inl (fun _ => iZ 0)))) from rfl).trans (congrArg some (EC_A (i := 25) rfl).symm)
theorem ec_27 : entc cA (ad2 sz n lit) 224 = some (EC (gC F sz n D cA lit) 27) := (show entc cA (ad2 sz n lit) 224 = some (.inl ((gC F sz n D cA lit).2.2.2.1.1, (40, .inl (fun _ => iZ 0)))) from rfl).trans (congrArg some (EC_A (i := 26) rfl).symm)
theorem ec_28 : entc cA (ad2 sz n lit) 225 = some (EC (gC F sz n D cA lit) 28) := (show entc cA (ad2 sz n lit) 225 = some (.inl ((gC F sz n D cA lit).2.2.2.1.1, (40, .inl (fun _ => iZ 0)))) from rfl).trans (congrArg some (EC_A (i := 27) rfl).symm)
theorem ec_29 : entc cA (ad2 sz n lit) 300 = some (EC (gC F sz n D cA lit) 29) := (show entc cA (ad2 sz n lit) 300 = some (.inr (11, oX8 (gC F sz n D cA lit) (29 + 1))) from rfl).trans (congrArg some (EC_A (i := 28) rfl).symm)
theorem ec_30 : entc cA (ad2 sz n lit) 301 = some (EC (gC F sz n D cA lit) 30) := (show entc cA (ad2 sz n lit) 301 = some (.inl ((gC F sz n D cA lit).2.2.2.1.1, (14, .inl (fun _ => iZ 0)))) from rfl).trans (congrArg some (EC_A (i := 29) rfl).symm)
theorem ec_31 : entc cA (ad2 sz n lit) 302 = some (EC (gC F sz n D cA lit) 31) := (show entc cA (ad2 sz n lit) 302 = some (.inl ((gC F sz n D cA lit).2.2.2.1.1, (5, .inl (fun _ => iZ 0)))) from rfl).trans (congrArg some (EC_A (i := 30) rfl).symm)
theorem ec_32 : entc cA (ad2 sz n lit) 303 = some (EC (gC F sz n D cA lit) 32) := (show entc cA (ad2 sz n lit) 303 = some (.inl ((gC F sz n D cA lit).2.2.2.1.1, (70, .inl (fun _ => iZ 0)))) from rfl).trans (congrArg some (EC_A (i := 31) rfl).symm)
theorem ec_33 : entc cA (ad2 sz n lit) 304 = some (EC (gC F sz n D cA lit) 33) := (show entc cA (ad2 sz n lit) 304 = some (.inl ((gC F sz n D cA lit).2.2.2.1.1, (120, .inl (fun _ => iZ 0)))) from rfl).trans (congrArg some (EC_A (i := 32) rfl).symm)
theorem ec_34 : entc cA (ad2 sz n lit) 310 = some (EC (gC F sz n D cA lit) 34) := (show entc cA (ad2 sz n lit) 310 = some (.inr (11, oX8 (gC F sz n D cA lit) (34 + 1))) from rfl).trans (congrArg some (EC_A (i := 33) rfl).symm)
theorem ec_35 : entc cA (ad2 sz n lit) 311 = some (EC (gC F sz n D cA lit) 35) := (show entc cA (ad2 sz n lit) 311 = some (.inl ((gC F sz n D cA lit).2.2.2.1.1, (14, .inl (fun _ => iZ 0)))) from rfl).trans (congrArg some (EC_A (i := 34) rfl).symm)
theorem ec_36 : entc cA (ad2 sz n lit) 312 = some (EC (gC F sz n D cA lit) 36) := (show entc cA (ad2 sz n lit) 312 = some (.inl ((gC F sz n D cA lit).2.2.2.1.1, (5, .inl (fun _ => iZ 0)))) from rfl).trans (congrArg some (EC_A (i := 35) rfl).symm)
theorem ec_37 : entc cA (ad2 sz n lit) 313 = some (EC (gC F sz n D cA lit) 37) := (show entc cA (ad2 sz n lit) 313 = some (.inl ((gC F sz n D cA lit).2.2.2.1.1, (70, .inl (fun _ => iZ 0)))) from rfl).trans (congrArg some (EC_A (i := 36) rfl).symm)
theorem ec_38 : entc cA (ad2 sz n lit) 314 = some (EC (gC F sz n D cA lit) 38) := (show entc cA (ad2 sz n lit) 314 = some (.inl ((gC F sz n D cA lit).2.2.2.1.1, (120, .inl (fun _ => iZ 0)))) from rfl).trans (congrArg some (EC_A (i := 37) rfl).symm)
theorem ec_39 : entc cA (ad2 sz n lit) 320 = some (EC (gC F sz n D cA lit) 39) := (show entc cA (ad2 sz n lit) 320 = some (.inr (11, oX8 (gC F sz n D cA lit) (39 + 1))) from rfl).trans (congrArg some (EC_A (i := 38) rfl).symm)
theorem ec_40 : entc cA (ad2 sz n lit) 321 = some (EC (gC F sz n D cA lit) 40) := (show entc cA (ad2 sz n lit) 321 = some (.inl ((gC F sz n D cA lit).2.2.2.1.1, (14, .inl (fun _ => iZ 0)))) from rfl).trans (congrArg some (EC_A (i := 39) rfl).symm)
theorem ec_41 : entc cA (ad2 sz n lit) 322 = some (EC (gC F sz n D cA lit) 41) := (show entc cA (ad2 sz n lit) 322 = some (.inl ((gC F sz n D cA lit).2.2.2.1.1, (5, .inl (fun _ => iZ 0)))) from rfl).trans (congrArg some (EC_A (i := 40) rfl).symm)
theorem ec_42 : entc cA (ad2 sz n lit) 323 = some (EC (gC F sz n D cA lit) 42) := (show entc cA (ad2 sz n lit) 323 = some (.inl ((gC F sz n D cA lit).2.2.2.1.1, (70, .inl (fun _ => iZ 0)))) from rfl).trans (congrArg some (EC_A (i := 41) rfl).symm)
theorem ec_43 : entc cA (ad2 sz n lit) 324 = some (EC (gC F sz n D cA lit) 43) := (show entc cA (ad2 sz n lit) 324 = some (.inl ((gC F sz n D cA lit).2.2.2.1.1, (120, .inl (fun _ => iZ 0)))) from rfl).trans (congrArg some (EC_A (i := 42) rfl).symm)
theorem ec_44 : entc cA (ad2 sz n lit) 111 = some (EC (gC F sz n D cA lit) 44) := (show entc cA (ad2 sz n lit) 111 = some (.inr (6, oX3 (gC F sz n D cA lit) (44 + 1))) from rfl).trans (congrArg some (EC_A (i := 43) rfl).symm)
theorem ec_46 : entc cA (ad2 sz n lit) 330 = some (EC (gC F sz n D cA lit) 46) := (show entc cA (ad2 sz n lit) 330 = some (.inr (11, oX8 (gC F sz n D cA lit) (46 + 1))) from rfl).trans (congrArg some (EC_A (i := 45) rfl).symm)
theorem ec_47 : entc cA (ad2 sz n lit) 331 = some (EC (gC F sz n D cA lit) 47) := (show entc cA (ad2 sz n lit) 331 = some (.inl ((gC F sz n D cA lit).2.2.2.1.1, (14, .inl (fun _ => iZ 0)))) from rfl).trans (congrArg some (EC_A (i := 46) rfl).symm)
theorem ec_48 : entc cA (ad2 sz n lit) 332 = some (EC (gC F sz n D cA lit) 48) := (show entc cA (ad2 sz n lit) 332 = some (.inl ((gC F sz n D cA lit).2.2.2.1.1, (5, .inl (fun _ => iZ 0)))) from rfl).trans (congrArg some (EC_A (i := 47) rfl).symm)
theorem ec_49 : entc cA (ad2 sz n lit) 333 = some (EC (gC F sz n D cA lit) 49) := (show entc cA (ad2 sz n lit) 333 = some (.inl ((gC F sz n D cA lit).2.2.2.1.1, (70, .inl (fun _ => iZ 0)))) from rfl).trans (congrArg some (EC_A (i := 48) rfl).symm)
theorem ec_50 : entc cA (ad2 sz n lit) 334 = some (EC (gC F sz n D cA lit) 50) := (show entc cA (ad2 sz n lit) 334 = some (.inl ((gC F sz n D cA lit).2.2.2.1.1, (120, .inl (fun _ => iZ 0)))) from rfl).trans (congrArg some (EC_A (i := 49) rfl).symm)
theorem ec_51 : entc cA (ad2 sz n lit) 340 = some (EC (gC F sz n D cA lit) 51) := (show entc cA (ad2 sz n lit) 340 = some (.inr (11, oX8 (gC F sz n D cA lit) (51 + 1))) from rfl).trans (congrArg some (EC_A (i := 50) rfl).symm)
theorem ec_52 : entc cA (ad2 sz n lit) 341 = some (EC (gC F sz n D cA lit) 52) := (show entc cA (ad2 sz n lit) 341 = some (.inl ((gC F sz n D cA lit).2.2.2.1.1, (14, .inl (fun _ => iZ 0)))) from rfl).trans (congrArg some (EC_A (i := 51) rfl).symm)
theorem ec_53 : entc cA (ad2 sz n lit) 342 = some (EC (gC F sz n D cA lit) 53) := (show entc cA (ad2 sz n lit) 342 = some (.inl ((gC F sz n D cA lit).2.2.2.1.1, (5, .inl (fun _ => iZ 0)))) from rfl).trans (congrArg some (EC_A (i := 52) rfl).symm)
theorem ec_54 : entc cA (ad2 sz n lit) 343 = some (EC (gC F sz n D cA lit) 54) := (show entc cA (ad2 sz n lit) 343 = some (.inl ((gC F sz n D cA lit).2.2.2.1.1, (70, .inl (fun _ => iZ 0)))) from rfl).trans (congrArg some (EC_A (i := 53) rfl).symm)
theorem ec_55 : entc cA (ad2 sz n lit) 344 = some (EC (gC F sz n D cA lit) 55) := (show entc cA (ad2 sz n lit) 344 = some (.inl ((gC F sz n D cA lit).2.2.2.1.1, (120, .inl (fun _ => iZ 0)))) from rfl).trans (congrArg some (EC_A (i := 54) rfl).symm)
theorem ec_56 : entc cA (ad2 sz n lit) 350 = some (EC (gC F sz n D cA lit) 56) := (show entc cA (ad2 sz n lit) 350 = some (.inr (11, oX8 (gC F sz n D cA lit) (56 + 1))) from rfl).trans (congrArg some (EC_A (i := 55) rfl).symm)
theorem ec_57 : entc cA (ad2 sz n lit) 351 = some (EC (gC F sz n D cA lit) 57) := (show entc cA (ad2 sz n lit) 351 = some (.inl ((gC F sz n D cA lit).2.2.2.1.1, (14, .inl (fun _ => iZ 0)))) from rfl).trans (congrArg some (EC_A (i := 56) rfl).symm)
theorem ec_58 : entc cA (ad2 sz n lit) 352 = some (EC (gC F sz n D cA lit) 58) := (show entc cA (ad2 sz n lit) 352 = some (.inl ((gC F sz n D cA lit).2.2.2.1.1, (5, .inl (fun _ => iZ 0)))) from rfl).trans (congrArg some (EC_A (i := 57) rfl).symm)
theorem ec_59 : entc cA (ad2 sz n lit) 353 = some (EC (gC F sz n D cA lit) 59) := (show entc cA (ad2 sz n lit) 353 = some (.inl ((gC F sz n D cA lit).2.2.2.1.1, (70, .inl (fun _ => iZ 0)))) from rfl).trans (congrArg some (EC_A (i := 58) rfl).symm)
theorem ec_60 : entc cA (ad2 sz n lit) 354 = some (EC (gC F sz n D cA lit) 60) := (show entc cA (ad2 sz n lit) 354 = some (.inl ((gC F sz n D cA lit).2.2.2.1.1, (120, .inl (fun _ => iZ 0)))) from rfl).trans (congrArg some (EC_A (i := 59) rfl).symm)
theorem ec_61 : entc cA (ad2 sz n lit) 360 = some (EC (gC F sz n D cA lit) 61) := (show entc cA (ad2 sz n lit) 360 = some (.inr (11, oX8 (gC F sz n D cA lit) (61 + 1))) from rfl).trans (congrArg some (EC_A (i := 60) rfl).symm)
theorem ec_62 : entc cA (ad2 sz n lit) 361 = some (EC (gC F sz n D cA lit) 62) := (show entc cA (ad2 sz n lit) 361 = some (.inl ((gC F sz n D cA lit).2.2.2.1.1, (14, .inl (fun _ => iZ 0)))) from rfl).trans (congrArg some (EC_A (i := 61) rfl).symm)
theorem ec_63 : entc cA (ad2 sz n lit) 362 = some (EC (gC F sz n D cA lit) 63) := (show entc cA (ad2 sz n lit) 362 = some (.inl ((gC F sz n D cA lit).2.2.2.1.1, (5, .inl (fun _ => iZ 0)))) from rfl).trans (congrArg some (EC_A (i := 62) rfl).symm)
theorem ec_64 : entc cA (ad2 sz n lit) 363 = some (EC (gC F sz n D cA lit) 64) := (show entc cA (ad2 sz n lit) 363 = some (.inl ((gC F sz n D cA lit).2.2.2.1.1, (70, .inl (fun _ => iZ 0)))) from rfl).trans (congrArg some (EC_A (i := 63) rfl).symm)
theorem ec_65 : entc cA (ad2 sz n lit) 364 = some (EC (gC F sz n D cA lit) 65) := (show entc cA (ad2 sz n lit) 364 = some (.inl ((gC F sz n D cA lit).2.2.2.1.1, (120, .inl (fun _ => iZ 0)))) from rfl).trans (congrArg some (EC_A (i := 64) rfl).symm)
theorem ec_66 : entc cA (ad2 sz n lit) 370 = some (EC (gC F sz n D cA lit) 66) := (show entc cA (ad2 sz n lit) 370 = some (.inr (11, oX8 (gC F sz n D cA lit) (66 + 1))) from rfl).trans (congrArg some (EC_A (i := 65) rfl).symm)
theorem ec_67 : entc cA (ad2 sz n lit) 371 = some (EC (gC F sz n D cA lit) 67) := (show entc cA (ad2 sz n lit) 371 = some (.inl ((gC F sz n D cA lit).2.2.2.1.1, (14, .inl (fun _ => iZ 0)))) from rfl).trans (congrArg some (EC_A (i := 66) rfl).symm)
theorem ec_68 : entc cA (ad2 sz n lit) 372 = some (EC (gC F sz n D cA lit) 68) := (show entc cA (ad2 sz n lit) 372 = some (.inl ((gC F sz n D cA lit).2.2.2.1.1, (5, .inl (fun _ => iZ 0)))) from rfl).trans (congrArg some (EC_A (i := 67) rfl).symm)
theorem ec_69 : entc cA (ad2 sz n lit) 373 = some (EC (gC F sz n D cA lit) 69) := (show entc cA (ad2 sz n lit) 373 = some (.inl ((gC F sz n D cA lit).2.2.2.1.1, (70, .inl (fun _ => iZ 0)))) from rfl).trans (congrArg some (EC_A (i := 68) rfl).symm)
theorem ec_70 : entc cA (ad2 sz n lit) 374 = some (EC (gC F sz n D cA lit) 70) := (show entc cA (ad2 sz n lit) 374 = some (.inl ((gC F sz n D cA lit).2.2.2.1.1, (120, .inl (fun _ => iZ 0)))) from rfl).trans (congrArg some (EC_A (i := 69) rfl).symm)
theorem ec_71 : entc cA (ad2 sz n lit) 380 = some (EC (gC F sz n D cA lit) 71) := (show entc cA (ad2 sz n lit) 380 = some (.inr (11, oX8 (gC F sz n D cA lit) (71 + 1))) from rfl).trans (congrArg some (EC_A (i := 70) rfl).symm)
theorem ec_72 : entc cA (ad2 sz n lit) 381 = some (EC (gC F sz n D cA lit) 72) := (show entc cA (ad2 sz n lit) 381 = some (.inl ((gC F sz n D cA lit).2.2.2.1.1, (14, .inl (fun _ => iZ 0)))) from rfl).trans (congrArg some (EC_A (i := 71) rfl).symm)
theorem ec_73 : entc cA (ad2 sz n lit) 382 = some (EC (gC F sz n D cA lit) 73) := (show entc cA (ad2 sz n lit) 382 = some (.inl ((gC F sz n D cA lit).2.2.2.1.1, (5, .inl (fun _ => iZ 0)))) from rfl).trans (congrArg some (EC_A (i := 72) rfl).symm)
theorem ec_74 : entc cA (ad2 sz n lit) 383 = some (EC (gC F sz n D cA lit) 74) := (show entc cA (ad2 sz n lit) 383 = some (.inl ((gC F sz n D cA lit).2.2.2.1.1, (70, .inl (fun _ => iZ 0)))) from rfl).trans (congrArg some (EC_A (i := 73) rfl).symm)
theorem ec_75 : entc cA (ad2 sz n lit) 384 = some (EC (gC F sz n D cA lit) 75) := (show entc cA (ad2 sz n lit) 384 = some (.inl ((gC F sz n D cA lit).2.2.2.1.1, (120, .inl (fun _ => iZ 0)))) from rfl).trans (congrArg some (EC_A (i := 74) rfl).symm)
theorem ec_76 : entc cA (ad2 sz n lit) 113 = some (EC (gC F sz n D cA lit) 76) := (show entc cA (ad2 sz n lit) 113 = some (.inr (7, oX4 (gC F sz n D cA lit) (76 + 1))) from rfl).trans (congrArg some (EC_A (i := 75) rfl).symm)
theorem ec_77 : entc cA (ad2 sz n lit) 114 = some (EC (gC F sz n D cA lit) 77) := (show entc cA (ad2 sz n lit) 114 = some (.inl ((gC F sz n D cA lit).2.2.2.1.1, (14, .inl (fun _ => iZ 0)))) from rfl).trans (congrArg some (EC_A (i := 76) rfl).symm)
theorem ec_78 : entc cA (ad2 sz n lit) 115 = some (EC (gC F sz n D cA lit) 78) := (show entc cA (ad2 sz n lit) 115 = some (.inl ((gC F sz n D cA lit).2.2.2.1.1, (14, .inl (fun _ => iZ 0)))) from rfl).trans (congrArg some (EC_A (i := 77) rfl).symm)
theorem ec_79 : entc cA (ad2 sz n lit) 116 = some (EC (gC F sz n D cA lit) 79) := (show entc cA (ad2 sz n lit) 116 = some (.inl ((gC F sz n D cA lit).2.2.2.1.1, (14, .inl (fun _ => iZ 0)))) from rfl).trans (congrArg some (EC_A (i := 78) rfl).symm)
theorem ec_80 : entc cA (ad2 sz n lit) 117 = some (EC (gC F sz n D cA lit) 80) := (show entc cA (ad2 sz n lit) 117 = some (.inl ((gC F sz n D cA lit).2.2.2.1.1, (4, .inl (fun _ => iZ 0)))) from rfl).trans (congrArg some (EC_A (i := 79) rfl).symm)
theorem ec_81 : entc cA (ad2 sz n lit) 118 = some (EC (gC F sz n D cA lit) 81) := (show entc cA (ad2 sz n lit) 118 = some (.inl ((gC F sz n D cA lit).2.2.2.1.1, (4, .inl (fun _ => iZ 0)))) from rfl).trans (congrArg some (EC_A (i := 80) rfl).symm)
theorem ec_82 : entc cA (ad2 sz n lit) 119 = some (EC (gC F sz n D cA lit) 82) := (show entc cA (ad2 sz n lit) 119 = some (.inl ((gC F sz n D cA lit).2.2.2.1.1, (56, .inl (fun _ => iZ 0)))) from rfl).trans (congrArg some (EC_A (i := 81) rfl).symm)
theorem ec_83 : entc cA (ad2 sz n lit) 120 = some (EC (gC F sz n D cA lit) 83) := (show entc cA (ad2 sz n lit) 120 = some (.inr (8, oX5 (gC F sz n D cA lit) (83 + 1))) from rfl).trans (congrArg some (EC_A (i := 82) rfl).symm)
theorem ec_84 : entc cA (ad2 sz n lit) 121 = some (EC (gC F sz n D cA lit) 84) := (show entc cA (ad2 sz n lit) 121 = some (.inl ((gC F sz n D cA lit).2.2.2.1.1, (196, .inl (fun _ => iZ 0)))) from rfl).trans (congrArg some (EC_A (i := 83) rfl).symm)
theorem ec_85 : entc cA (ad2 sz n lit) 122 = some (EC (gC F sz n D cA lit) 85) := (show entc cA (ad2 sz n lit) 122 = some (.inl ((gC F sz n D cA lit).2.2.2.1.1, (14, .inl (fun _ => iZ 0)))) from rfl).trans (congrArg some (EC_A (i := 84) rfl).symm)
theorem ec_86 : entc cA (ad2 sz n lit) 123 = some (EC (gC F sz n D cA lit) 86) := (show entc cA (ad2 sz n lit) 123 = some (.inl ((gC F sz n D cA lit).2.2.2.1.1, (14, .inl (fun _ => iZ 0)))) from rfl).trans (congrArg some (EC_A (i := 85) rfl).symm)
theorem ec_87 : entc cA (ad2 sz n lit) 124 = some (EC (gC F sz n D cA lit) 87) := (show entc cA (ad2 sz n lit) 124 = some (.inr (3, oX0 (gC F sz n D cA lit) (87 + 1))) from rfl).trans (congrArg some (EC_A (i := 86) rfl).symm)
theorem ec_88 : entc cA (ad2 sz n lit) 125 = some (EC (gC F sz n D cA lit) 88) := (show entc cA (ad2 sz n lit) 125 = some (.inl ((gC F sz n D cA lit).2.2.2.1.1, (7, .inl (fun _ => iZ 0)))) from rfl).trans (congrArg some (EC_A (i := 87) rfl).symm)
theorem ec_89 : entc cA (ad2 sz n lit) 126 = some (EC (gC F sz n D cA lit) 89) := (show entc cA (ad2 sz n lit) 126 = some (.inl ((gC F sz n D cA lit).2.2.2.1.1, (7, .inl (fun _ => iZ 0)))) from rfl).trans (congrArg some (EC_A (i := 88) rfl).symm)
theorem ec_90 : entc cA (ad2 sz n lit) 127 = some (EC (gC F sz n D cA lit) 90) := (show entc cA (ad2 sz n lit) 127 = some (.inl ((gC F sz n D cA lit).2.2.2.1.1, (4, .inl (fun _ => iZ 0)))) from rfl).trans (congrArg some (EC_A (i := 89) rfl).symm)
theorem ec_91 : entc cA (ad2 sz n lit) 128 = some (EC (gC F sz n D cA lit) 91) := (show entc cA (ad2 sz n lit) 128 = some (.inr (4, oX1 (gC F sz n D cA lit) (91 + 1))) from rfl).trans (congrArg some (EC_A (i := 90) rfl).symm)
theorem ec_92 : entc cA (ad2 sz n lit) 129 = some (EC (gC F sz n D cA lit) 92) := (show entc cA (ad2 sz n lit) 129 = some (.inl ((gC F sz n D cA lit).2.2.2.1.1, (196, .inl (fun _ => iZ 0)))) from rfl).trans (congrArg some (EC_A (i := 91) rfl).symm)
theorem ec_93 : entc cA (ad2 sz n lit) 130 = some (EC (gC F sz n D cA lit) 93) := (show entc cA (ad2 sz n lit) 130 = some (.inl ((gC F sz n D cA lit).2.2.2.1.1, (14, .inl (fun _ => iZ 0)))) from rfl).trans (congrArg some (EC_A (i := 92) rfl).symm)
theorem ec_94 : entc cA (ad2 sz n lit) 131 = some (EC (gC F sz n D cA lit) 94) := (show entc cA (ad2 sz n lit) 131 = some (.inl ((gC F sz n D cA lit).2.2.2.1.1, (14, .inl (fun _ => iZ 0)))) from rfl).trans (congrArg some (EC_A (i := 93) rfl).symm)
theorem ec_95 : entc cA (ad2 sz n lit) 132 = some (EC (gC F sz n D cA lit) 95) := (show entc cA (ad2 sz n lit) 132 = some (.inl ((gC F sz n D cA lit).2.2.2.1.1, (152, .inl (fun _ => iZ 0)))) from rfl).trans (congrArg some (EC_A (i := 94) rfl).symm)
theorem ec_45 : EC (gC F sz n D cA lit) 45 = aX3 (gC F sz n D cA lit) (44 + 1) 6 := EC_A (i := 44) rfl
theorem ec_all : ∀ p, p < 96 → p ≠ 45 → entc cA (ad2 sz n lit) (kycL.getD p 0) = some (EC (gC F sz n D cA lit) p) := fun p hp hn => match p, hp, hn with
  | 0, _, _ => ec_0
  | 1, _, _ => ec_1
  | 2, _, _ => ec_2
  | 3, _, _ => ec_3
  | 4, _, _ => ec_4
  | 5, _, _ => ec_5
  | 6, _, _ => ec_6
  | 7, _, _ => ec_7
  | 8, _, _ => ec_8
  | 9, _, _ => ec_9
  | 10, _, _ => ec_10
  | 11, _, _ => ec_11
  | 12, _, _ => ec_12
  | 13, _, _ => ec_13
  | 14, _, _ => ec_14
  | 15, _, _ => ec_15
  | 16, _, _ => ec_16
  | 17, _, _ => ec_17
  | 18, _, _ => ec_18
  | 19, _, _ => ec_19
  | 20, _, _ => ec_20
  | 21, _, _ => ec_21
  | 22, _, _ => ec_22
  | 23, _, _ => ec_23
  | 24, _, _ => ec_24
  | 25, _, _ => ec_25
  | 26, _, _ => ec_26
  | 27, _, _ => ec_27
  | 28, _, _ => ec_28
  | 29, _, _ => ec_29
  | 30, _, _ => ec_30
  | 31, _, _ => ec_31
  | 32, _, _ => ec_32
  | 33, _, _ => ec_33
  | 34, _, _ => ec_34
  | 35, _, _ => ec_35
  | 36, _, _ => ec_36
  | 37, _, _ => ec_37
  | 38, _, _ => ec_38
  | 39, _, _ => ec_39
  | 40, _, _ => ec_40
  | 41, _, _ => ec_41
  | 42, _, _ => ec_42
  | 43, _, _ => ec_43
  | 44, _, _ => ec_44
  | 45, _, h => absurd rfl h
  | 46, _, _ => ec_46
  | 47, _, _ => ec_47
  | 48, _, _ => ec_48
  | 49, _, _ => ec_49
  | 50, _, _ => ec_50
  | 51, _, _ => ec_51
  | 52, _, _ => ec_52
  | 53, _, _ => ec_53
  | 54, _, _ => ec_54
  | 55, _, _ => ec_55
  | 56, _, _ => ec_56
  | 57, _, _ => ec_57
  | 58, _, _ => ec_58
  | 59, _, _ => ec_59
  | 60, _, _ => ec_60
  | 61, _, _ => ec_61
  | 62, _, _ => ec_62
  | 63, _, _ => ec_63
  | 64, _, _ => ec_64
  | 65, _, _ => ec_65
  | 66, _, _ => ec_66
  | 67, _, _ => ec_67
  | 68, _, _ => ec_68
  | 69, _, _ => ec_69
  | 70, _, _ => ec_70
  | 71, _, _ => ec_71
  | 72, _, _ => ec_72
  | 73, _, _ => ec_73
  | 74, _, _ => ec_74
  | 75, _, _ => ec_75
  | 76, _, _ => ec_76
  | 77, _, _ => ec_77
  | 78, _, _ => ec_78
  | 79, _, _ => ec_79
  | 80, _, _ => ec_80
  | 81, _, _ => ec_81
  | 82, _, _ => ec_82
  | 83, _, _ => ec_83
  | 84, _, _ => ec_84
  | 85, _, _ => ec_85
  | 86, _, _ => ec_86
  | 87, _, _ => ec_87
  | 88, _, _ => ec_88
  | 89, _, _ => ec_89
  | 90, _, _ => ec_90
  | 91, _, _ => ec_91
  | 92, _, _ => ec_92
  | 93, _, _ => ec_93
  | 94, _, _ => ec_94
  | 95, _, _ => ec_95
  | _ + 96, h, _ => absurd h (by omega)
theorem arr112 (c : ClassId) : vp_cell c (6, .inr (.inr (.inr (.inr (fun i => some (ad2 sz n lit (330 + 10 * i))))))) = vp_cell c (6, .inr (.inr (.inr (.inr (kX3 (gC F sz n D cA lit) (44 + 1) 6))))) := by
  have h1 : ∀ j : Fin 6, va_rf (some (ad2 sz n lit (330 + 10 * j.val))) = va_rf (kX3 (gC F sz n D cA lit) (44 + 1) 6 j.val) := fun j => match j with
    | ⟨0, _⟩ => rfl
    | ⟨1, _⟩ => rfl
    | ⟨2, _⟩ => rfl
    | ⟨3, _⟩ => rfl
    | ⟨4, _⟩ => rfl
    | ⟨5, _⟩ => rfl
  have h2 : (fun j : Fin 6 => va_rf (some (ad2 sz n lit (330 + 10 * j.val)))) = fun j : Fin 6 => va_rf (kX3 (gC F sz n D cA lit) (44 + 1) 6 j.val) := funext h1
  rw [vp_cell_q, vp_cell_q]
  exact congrArg (fun f => ({ cls := c, slots := Array.ofFn (n := 6) f, vm := .none } : Cell)) h2
/-- each cell of the class tells its key -/
theorem ec_at {H : Heap} {k : Nat} {sh : ShE} (h : BH (gC F sz n D cA lit) 96 (EC (gC F sz n D cA lit)) H) (hk : k < 900) (hs : shp k = some sh) : va_at D vwCl (ad2 sz n lit k, entS cA (ad2 sz n lit) (I0w, J0w) k sh) H := by
  have hk3 : k < 390 := by
    by_cases c : k < 390
    · exact c
    · rw [shp_390 (by omega) (by omega)] at hs; cases hs
  have h100 : 100 ≤ k := by
    by_cases c : 100 ≤ k
    · exact c
    · unfold shp at hs; rw [if_pos (by omega)] at hs; cases hs
  obtain ⟨hp, hk2⟩ := plc_ky k hk3 (by rw [hs]; rfl)
  have had : ad2 sz n lit k = sz + n + plc k := by
    unfold ad2
    rw [if_neg (by omega), if_neg (by omega), if_pos hk]
  rw [show va_at D vwCl (ad2 sz n lit k, entS cA (ad2 sz n lit) (I0w, J0w) k sh) H = va_at D vwCl (sz + n + plc k, entS cA (ad2 sz n lit) (I0w, J0w) k sh) H by rw [had]]
  have h1 := h.2 (plc k) hp
  by_cases c : plc k = 45
  · rw [c] at hk2 h1 ⊢
    have hk2 : 112 = k := hk2
    subst hk2
    have hs : some (.inr (2, 6)) = some sh := hs
    cases hs
    rw [ec_45] at h1
    show H[sz + n + 45]? = some (vp_cell cA.2.2.1 (6, .inr (.inr (.inr (.inr (fun i => some (ad2 sz n lit (330 + 10 * i))))))))
    rw [arr112 (F := F) (D := D) (cA := cA)]
    exact h1
  · have h2 := ec_all (F := F) (sz := sz) (n := n) (D := D) (cA := cA) (lit := lit) (plc k) hp c
    rw [hk2] at h2
    unfold entc at h2
    rw [hs] at h2
    have h3 : entS cA (ad2 sz n lit) (I0w, J0w) k sh = EC (gC F sz n D cA lit) (plc k) := Option.some.inj h2
    rw [h3]
    exact h1
end ECS
