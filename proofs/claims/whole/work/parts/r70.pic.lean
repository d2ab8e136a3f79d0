/-! ===== building: the relation at the start ===== -/
def I0 : Ii := fun k i => if k = 2 then (if i = 2 then 2 else 0) else if k = 0 then (if i = 9 then (-1) else if i = 10 then (-1) else if i = 12 then (-1) else if i = 13 then (-1) else 0) else if k = 101 then (if i = 10 then (-1) else if i = 11 then (-1) else 0) else if k = 200 then (if i = 2 then (2) else 0) else if k = 210 then (if i = 2 then (2) else 0) else if k = 220 then (if i = 2 then (2) else 0) else 0
def J0 : Jj := fun _ _ => 0
theorem eq_0 {G : KG} (hA : G.2.2.2.2 = fun k => G.2.1 + plc k) : ent G.2.2.2.1 G.2.2.2.2 (I0, J0) 100 = some (.inr (11, o11_16 G 1)) := by
  rw [hA]
  rfl
theorem en_0 {G : KG} {E : Nat → va_E} (hA : G.2.2.2.2 = fun k => G.2.1 + plc k) : ent G.2.2.2.1 G.2.2.2.2 (I0, J0) 100 = some (E5 G E 0) := (eq_0 hA).trans (congrArg some (E5_0).symm)
theorem eq_1 {G : KG} (hA : G.2.2.2.2 = fun k => G.2.1 + plc k) : ent G.2.2.2.1 G.2.2.2.2 (I0, J0) 101 = some (.inr (10, oX10 G (1 + 1))) := by
  rw [hA]
  rfl
theorem en_1 {G : KG} {E : Nat → va_E} (hA : G.2.2.2.2 = fun k => G.2.1 + plc k) : ent G.2.2.2.1 G.2.2.2.2 (I0, J0) 101 = some (E5 G E 1) := (eq_1 hA).trans (congrArg some (E5_A (i := 0) rfl).symm)
theorem eq_2 {G : KG} (hA : G.2.2.2.2 = fun k => G.2.1 + plc k) : ent G.2.2.2.1 G.2.2.2.2 (I0, J0) 102 = some (.inl (G.2.2.2.1.1, (800, .inl (fun _ => iZ 0)))) := by
  rw [hA]
  rfl
theorem en_2 {G : KG} {E : Nat → va_E} (hA : G.2.2.2.2 = fun k => G.2.1 + plc k) : ent G.2.2.2.1 G.2.2.2.2 (I0, J0) 102 = some (E5 G E 2) := (eq_2 hA).trans (congrArg some (E5_A (i := 1) rfl).symm)
theorem eq_3 {G : KG} (hA : G.2.2.2.2 = fun k => G.2.1 + plc k) : ent G.2.2.2.1 G.2.2.2.2 (I0, J0) 103 = some (.inr (9, oX9 G (3 + 1))) := by
  rw [hA]
  rfl
theorem en_3 {G : KG} {E : Nat → va_E} (hA : G.2.2.2.2 = fun k => G.2.1 + plc k) : ent G.2.2.2.1 G.2.2.2.2 (I0, J0) 103 = some (E5 G E 3) := (eq_3 hA).trans (congrArg some (E5_A (i := 2) rfl).symm)
theorem eq_4 {G : KG} (hA : G.2.2.2.2 = fun k => G.2.1 + plc k) : ent G.2.2.2.1 G.2.2.2.2 (I0, J0) 104 = some (.inr (7, oX7 G (4 + 1))) := by
  rw [hA]
  rfl
theorem en_4 {G : KG} {E : Nat → va_E} (hA : G.2.2.2.2 = fun k => G.2.1 + plc k) : ent G.2.2.2.1 G.2.2.2.2 (I0, J0) 104 = some (E5 G E 4) := (eq_4 hA).trans (congrArg some (E5_A (i := 3) rfl).symm)
theorem eq_5 {G : KG} (hA : G.2.2.2.2 = fun k => G.2.1 + plc k) : ent G.2.2.2.1 G.2.2.2.2 (I0, J0) 105 = some (.inl (G.2.2.2.1.1, (2, .inl (fun _ => iZ 0)))) := by
  rw [hA]
  rfl
theorem en_5 {G : KG} {E : Nat → va_E} (hA : G.2.2.2.2 = fun k => G.2.1 + plc k) : ent G.2.2.2.1 G.2.2.2.2 (I0, J0) 105 = some (E5 G E 5) := (eq_5 hA).trans (congrArg some (E5_A (i := 4) rfl).symm)
theorem eq_6 {G : KG} (hA : G.2.2.2.2 = fun k => G.2.1 + plc k) : ent G.2.2.2.1 G.2.2.2.2 (I0, J0) 106 = some (.inr (6, oX6 G (6 + 1))) := by
  rw [hA]
  rfl
theorem en_6 {G : KG} {E : Nat → va_E} (hA : G.2.2.2.2 = fun k => G.2.1 + plc k) : ent G.2.2.2.1 G.2.2.2.2 (I0, J0) 106 = some (E5 G E 6) := (eq_6 hA).trans (congrArg some (E5_A (i := 5) rfl).symm)
theorem eq_7 {G : KG} (hA : G.2.2.2.2 = fun k => G.2.1 + plc k) : ent G.2.2.2.1 G.2.2.2.2 (I0, J0) 107 = some (.inl (G.2.2.2.1.1, (60, .inl (fun _ => iZ 0)))) := by
  rw [hA]
  rfl
theorem en_7 {G : KG} {E : Nat → va_E} (hA : G.2.2.2.2 = fun k => G.2.1 + plc k) : ent G.2.2.2.1 G.2.2.2.2 (I0, J0) 107 = some (E5 G E 7) := (eq_7 hA).trans (congrArg some (E5_A (i := 6) rfl).symm)
theorem eq_8 {G : KG} (hA : G.2.2.2.2 = fun k => G.2.1 + plc k) : ent G.2.2.2.1 G.2.2.2.2 (I0, J0) 108 = some (.inl (G.2.2.2.1.1, (60, .inl (fun _ => iZ 0)))) := by
  rw [hA]
  rfl
theorem en_8 {G : KG} {E : Nat → va_E} (hA : G.2.2.2.2 = fun k => G.2.1 + plc k) : ent G.2.2.2.1 G.2.2.2.2 (I0, J0) 108 = some (E5 G E 8) := (eq_8 hA).trans (congrArg some (E5_A (i := 7) rfl).symm)
theorem eq_9 {G : KG} (hA : G.2.2.2.2 = fun k => G.2.1 + plc k) : ent G.2.2.2.1 G.2.2.2.2 (I0, J0) 109 = some (.inl (G.2.2.2.1.1, (60, .inl (fun _ => iZ 0)))) := by
  rw [hA]
  rfl
theorem en_9 {G : KG} {E : Nat → va_E} (hA : G.2.2.2.2 = fun k => G.2.1 + plc k) : ent G.2.2.2.1 G.2.2.2.2 (I0, J0) 109 = some (E5 G E 9) := (eq_9 hA).trans (congrArg some (E5_A (i := 8) rfl).symm)
theorem eq_10 {G : KG} (hA : G.2.2.2.2 = fun k => G.2.1 + plc k) : ent G.2.2.2.1 G.2.2.2.2 (I0, J0) 110 = some (.inl (G.2.2.2.1.1, (60, .inl (fun _ => iZ 0)))) := by
  rw [hA]
  rfl
theorem en_10 {G : KG} {E : Nat → va_E} (hA : G.2.2.2.2 = fun k => G.2.1 + plc k) : ent G.2.2.2.1 G.2.2.2.2 (I0, J0) 110 = some (E5 G E 10) := (eq_10 hA).trans (congrArg some (E5_A (i := 9) rfl).symm)
theorem eq_11 {G : KG} (hA : G.2.2.2.2 = fun k => G.2.1 + plc k) : ent G.2.2.2.1 G.2.2.2.2 (I0, J0) 200 = some (.inr (2, oX2 G (11 + 1))) := by
  rw [hA]
  rfl
theorem en_11 {G : KG} {E : Nat → va_E} (hA : G.2.2.2.2 = fun k => G.2.1 + plc k) : ent G.2.2.2.1 G.2.2.2.2 (I0, J0) 200 = some (E5 G E 11) := (eq_11 hA).trans (congrArg some (E5_A (i := 10) rfl).symm)
theorem eq_12 {G : KG} (hA : G.2.2.2.2 = fun k => G.2.1 + plc k) : ent G.2.2.2.1 G.2.2.2.2 (I0, J0) 201 = some (.inl (G.2.2.2.1.2.1, (14, .inr (.inl (fun _ => 0))))) := by
  rw [hA]
  rfl
theorem en_12 {G : KG} {E : Nat → va_E} (hA : G.2.2.2.2 = fun k => G.2.1 + plc k) : ent G.2.2.2.1 G.2.2.2.2 (I0, J0) 201 = some (E5 G E 12) := (eq_12 hA).trans (congrArg some (E5_A (i := 11) rfl).symm)
theorem eq_13 {G : KG} (hA : G.2.2.2.2 = fun k => G.2.1 + plc k) : ent G.2.2.2.1 G.2.2.2.2 (I0, J0) 202 = some (.inl (G.2.2.2.1.1, (14, .inl (fun _ => iZ 0)))) := by
  rw [hA]
  rfl
theorem en_13 {G : KG} {E : Nat → va_E} (hA : G.2.2.2.2 = fun k => G.2.1 + plc k) : ent G.2.2.2.1 G.2.2.2.2 (I0, J0) 202 = some (E5 G E 13) := (eq_13 hA).trans (congrArg some (E5_A (i := 12) rfl).symm)
theorem eq_14 {G : KG} (hA : G.2.2.2.2 = fun k => G.2.1 + plc k) : ent G.2.2.2.1 G.2.2.2.2 (I0, J0) 203 = some (.inl (G.2.2.2.1.1, (40, .inl (fun _ => iZ 0)))) := by
  rw [hA]
  rfl
theorem en_14 {G : KG} {E : Nat → va_E} (hA : G.2.2.2.2 = fun k => G.2.1 + plc k) : ent G.2.2.2.1 G.2.2.2.2 (I0, J0) 203 = some (E5 G E 14) := (eq_14 hA).trans (congrArg some (E5_A (i := 13) rfl).symm)
theorem eq_15 {G : KG} (hA : G.2.2.2.2 = fun k => G.2.1 + plc k) : ent G.2.2.2.1 G.2.2.2.2 (I0, J0) 204 = some (.inl (G.2.2.2.1.1, (40, .inl (fun _ => iZ 0)))) := by
  rw [hA]
  rfl
theorem en_15 {G : KG} {E : Nat → va_E} (hA : G.2.2.2.2 = fun k => G.2.1 + plc k) : ent G.2.2.2.1 G.2.2.2.2 (I0, J0) 204 = some (E5 G E 15) := (eq_15 hA).trans (congrArg some (E5_A (i := 14) rfl).symm)
theorem eq_16 {G : KG} (hA : G.2.2.2.2 = fun k => G.2.1 + plc k) : ent G.2.2.2.1 G.2.2.2.2 (I0, J0) 205 = some (.inl (G.2.2.2.1.1, (40, .inl (fun _ => iZ 0)))) := by
  rw [hA]
  rfl
theorem en_16 {G : KG} {E : Nat → va_E} (hA : G.2.2.2.2 = fun k => G.2.1 + plc k) : ent G.2.2.2.1 G.2.2.2.2 (I0, J0) 205 = some (E5 G E 16) := (eq_16 hA).trans (congrArg some (E5_A (i := 15) rfl).symm)
theorem eq_17 {G : KG} (hA : G.2.2.2.2 = fun k => G.2.1 + plc k) : ent G.2.2.2.1 G.2.2.2.2 (I0, J0) 210 = some (.inr (2, oX2 G (17 + 1))) := by
  rw [hA]
  rfl
theorem en_17 {G : KG} {E : Nat → va_E} (hA : G.2.2.2.2 = fun k => G.2.1 + plc k) : ent G.2.2.2.1 G.2.2.2.2 (I0, J0) 210 = some (E5 G E 17) := (eq_17 hA).trans (congrArg some (E5_A (i := 16) rfl).symm)
theorem eq_18 {G : KG} (hA : G.2.2.2.2 = fun k => G.2.1 + plc k) : ent G.2.2.2.1 G.2.2.2.2 (I0, J0) 211 = some (.inl (G.2.2.2.1.2.1, (14, .inr (.inl (fun _ => 0))))) := by
  rw [hA]
  rfl
theorem en_18 {G : KG} {E : Nat → va_E} (hA : G.2.2.2.2 = fun k => G.2.1 + plc k) : ent G.2.2.2.1 G.2.2.2.2 (I0, J0) 211 = some (E5 G E 18) := (eq_18 hA).trans (congrArg some (E5_A (i := 17) rfl).symm)
theorem eq_19 {G : KG} (hA : G.2.2.2.2 = fun k => G.2.1 + plc k) : ent G.2.2.2.1 G.2.2.2.2 (I0, J0) 212 = some (.inl (G.2.2.2.1.1, (14, .inl (fun _ => iZ 0)))) := by
  rw [hA]
  rfl
theorem en_19 {G : KG} {E : Nat → va_E} (hA : G.2.2.2.2 = fun k => G.2.1 + plc k) : ent G.2.2.2.1 G.2.2.2.2 (I0, J0) 212 = some (E5 G E 19) := (eq_19 hA).trans (congrArg some (E5_A (i := 18) rfl).symm)
theorem eq_20 {G : KG} (hA : G.2.2.2.2 = fun k => G.2.1 + plc k) : ent G.2.2.2.1 G.2.2.2.2 (I0, J0) 213 = some (.inl (G.2.2.2.1.1, (40, .inl (fun _ => iZ 0)))) := by
  rw [hA]
  rfl
theorem en_20 {G : KG} {E : Nat → va_E} (hA : G.2.2.2.2 = fun k => G.2.1 + plc k) : ent G.2.2.2.1 G.2.2.2.2 (I0, J0) 213 = some (E5 G E 20) := (eq_20 hA).trans (congrArg some (E5_A (i := 19) rfl).symm)
theorem eq_21 {G : KG} (hA : G.2.2.2.2 = fun k => G.2.1 + plc k) : ent G.2.2.2.1 G.2.2.2.2 (I0, J0) 214 = some (.inl (G.2.2.2.1.1, (40, .inl (fun _ => iZ 0)))) := by
  rw [hA]
  rfl
theorem en_21 {G : KG} {E : Nat → va_E} (hA : G.2.2.2.2 = fun k => G.2.1 + plc k) : ent G.2.2.2.1 G.2.2.2.2 (I0, J0) 214 = some (E5 G E 21) := (eq_21 hA).trans (congrArg some (E5_A (i := 20) rfl).symm)
theorem eq_22 {G : KG} (hA : G.2.2.2.2 = fun k => G.2.1 + plc k) : ent G.2.2.2.1 G.2.2.2.2 (I0, J0) 215 = some (.inl (G.2.2.2.1.1, (40, .inl (fun _ => iZ 0)))) := by
  rw [hA]
  rfl
theorem en_22 {G : KG} {E : Nat → va_E} (hA : G.2.2.2.2 = fun k => G.2.1 + plc k) : ent G.2.2.2.1 G.2.2.2.2 (I0, J0) 215 = some (E5 G E 22) := (eq_22 hA).trans (congrArg some (E5_A (i := 21) rfl).symm)
theorem eq_23 {G : KG} (hA : G.2.2.2.2 = fun k => G.2.1 + plc k) : ent G.2.2.2.1 G.2.2.2.2 (I0, J0) 220 = some (.inr (2, oX2 G (23 + 1))) := by
  rw [hA]
  rfl
theorem en_23 {G : KG} {E : Nat → va_E} (hA : G.2.2.2.2 = fun k => G.2.1 + plc k) : ent G.2.2.2.1 G.2.2.2.2 (I0, J0) 220 = some (E5 G E 23) := (eq_23 hA).trans (congrArg some (E5_A (i := 22) rfl).symm)
theorem eq_24 {G : KG} (hA : G.2.2.2.2 = fun k => G.2.1 + plc k) : ent G.2.2.2.1 G.2.2.2.2 (I0, J0) 221 = some (.inl (G.2.2.2.1.2.1, (14, .inr (.inl (fun _ => 0))))) := by
  rw [hA]
  rfl
theorem en_24 {G : KG} {E : Nat → va_E} (hA : G.2.2.2.2 = fun k => G.2.1 + plc k) : ent G.2.2.2.1 G.2.2.2.2 (I0, J0) 221 = some (E5 G E 24) := (eq_24 hA).trans (congrArg some (E5_A (i := 23) rfl).symm)
theorem eq_25 {G : KG} (hA : G.2.2.2.2 = fun k => G.2.1 + plc k) : ent G.2.2.2.1 G.2.2.2.2 (I0, J0) 222 = some (.inl (G.2.2.2.1.1, (14, .inl (fun _ => iZ 0)))) := by
  rw [hA]
  rfl
theorem en_25 {G : KG} {E : Nat → va_E} (hA : G.2.2.2.2 = fun k => G.2.1 + plc k) : ent G.2.2.2.1 G.2.2.2.2 (I0, J0) 222 = some (E5 G E 25) := (eq_25 hA).trans (congrArg some (E5_A (i := 24) rfl).symm)
theorem eq_26 {G : KG} (hA : G.2.2.2.2 = fun k => G.2.1 + plc k) : ent G.2.2.2.1 G.2.2.2.2 (I0, J0) 223 = some (.inl (G.2.2.2.1.1, (40, .inl (fun _ => iZ 0)))) := by
  rw [hA]
  rfl
theorem en_26 {G : KG} {E : Nat → va_E} (hA : G.2.2.2.2 = fun k => G.2.1 + plc k) : ent G.2.2.2.1 G.2.2.2.2 (I0, J0) 223 = some (E5 G E 26) := (eq_26 hA).trans (congrArg some (E5_A (i := 25) rfl).symm)
theorem eq_27 {G : KG} (hA : G.2.2.2.2 = fun k => G.2.1 + plc k) : ent G.2.2.2.1 G.2.2.2.2 (I0, J0) 224 = some (.inl (G.2.2.2.1.1, (40, .inl (fun _ => iZ 0)))) := by
  rw [hA]
  rfl
theorem en_27 {G : KG} {E : Nat → va_E} (hA : G.2.2.2.2 = fun k => G.2.1 + plc k) : ent G.2.2.2.1 G.2.2.2.2 (I0, J0) 224 = some (E5 G E 27) := (eq_27 hA).trans (congrArg some (E5_A (i := 26) rfl).symm)
theorem eq_28 {G : KG} (hA : G.2.2.2.2 = fun k => G.2.1 + plc k) : ent G.2.2.2.1 G.2.2.2.2 (I0, J0) 225 = some (.inl (G.2.2.2.1.1, (40, .inl (fun _ => iZ 0)))) := by
  rw [hA]
  rfl
theorem en_28 {G : KG} {E : Nat → va_E} (hA : G.2.2.2.2 = fun k => G.2.1 + plc k) : ent G.2.2.2.1 G.2.2.2.2 (I0, J0) 225 = some (E5 G E 28) := (eq_28 hA).trans (congrArg some (E5_A (i := 27) rfl).symm)
theorem eq_29 {G : KG} (hA : G.2.2.2.2 = fun k => G.2.1 + plc k) : ent G.2.2.2.1 G.2.2.2.2 (I0, J0) 300 = some (.inr (8, oX8 G (29 + 1))) := by
  rw [hA]
  rfl
theorem en_29 {G : KG} {E : Nat → va_E} (hA : G.2.2.2.2 = fun k => G.2.1 + plc k) : ent G.2.2.2.1 G.2.2.2.2 (I0, J0) 300 = some (E5 G E 29) := (eq_29 hA).trans (congrArg some (E5_A (i := 28) rfl).symm)
theorem eq_30 {G : KG} (hA : G.2.2.2.2 = fun k => G.2.1 + plc k) : ent G.2.2.2.1 G.2.2.2.2 (I0, J0) 301 = some (.inl (G.2.2.2.1.1, (14, .inl (fun _ => iZ 0)))) := by
  rw [hA]
  rfl
theorem en_30 {G : KG} {E : Nat → va_E} (hA : G.2.2.2.2 = fun k => G.2.1 + plc k) : ent G.2.2.2.1 G.2.2.2.2 (I0, J0) 301 = some (E5 G E 30) := (eq_30 hA).trans (congrArg some (E5_A (i := 29) rfl).symm)
theorem eq_31 {G : KG} (hA : G.2.2.2.2 = fun k => G.2.1 + plc k) : ent G.2.2.2.1 G.2.2.2.2 (I0, J0) 302 = some (.inl (G.2.2.2.1.1, (5, .inl (fun _ => iZ 0)))) := by
  rw [hA]
  rfl
theorem en_31 {G : KG} {E : Nat → va_E} (hA : G.2.2.2.2 = fun k => G.2.1 + plc k) : ent G.2.2.2.1 G.2.2.2.2 (I0, J0) 302 = some (E5 G E 31) := (eq_31 hA).trans (congrArg some (E5_A (i := 30) rfl).symm)
theorem eq_32 {G : KG} (hA : G.2.2.2.2 = fun k => G.2.1 + plc k) : ent G.2.2.2.1 G.2.2.2.2 (I0, J0) 303 = some (.inl (G.2.2.2.1.1, (70, .inl (fun _ => iZ 0)))) := by
  rw [hA]
  rfl
theorem en_32 {G : KG} {E : Nat → va_E} (hA : G.2.2.2.2 = fun k => G.2.1 + plc k) : ent G.2.2.2.1 G.2.2.2.2 (I0, J0) 303 = some (E5 G E 32) := (eq_32 hA).trans (congrArg some (E5_A (i := 31) rfl).symm)
theorem eq_33 {G : KG} (hA : G.2.2.2.2 = fun k => G.2.1 + plc k) : ent G.2.2.2.1 G.2.2.2.2 (I0, J0) 304 = some (.inl (G.2.2.2.1.1, (120, .inl (fun _ => iZ 0)))) := by
  rw [hA]
  rfl
theorem en_33 {G : KG} {E : Nat → va_E} (hA : G.2.2.2.2 = fun k => G.2.1 + plc k) : ent G.2.2.2.1 G.2.2.2.2 (I0, J0) 304 = some (E5 G E 33) := (eq_33 hA).trans (congrArg some (E5_A (i := 32) rfl).symm)
theorem eq_34 {G : KG} (hA : G.2.2.2.2 = fun k => G.2.1 + plc k) : ent G.2.2.2.1 G.2.2.2.2 (I0, J0) 310 = some (.inr (8, oX8 G (34 + 1))) := by
  rw [hA]
  rfl
theorem en_34 {G : KG} {E : Nat → va_E} (hA : G.2.2.2.2 = fun k => G.2.1 + plc k) : ent G.2.2.2.1 G.2.2.2.2 (I0, J0) 310 = some (E5 G E 34) := (eq_34 hA).trans (congrArg some (E5_A (i := 33) rfl).symm)
theorem eq_35 {G : KG} (hA : G.2.2.2.2 = fun k => G.2.1 + plc k) : ent G.2.2.2.1 G.2.2.2.2 (I0, J0) 311 = some (.inl (G.2.2.2.1.1, (14, .inl (fun _ => iZ 0)))) := by
  rw [hA]
  rfl
theorem en_35 {G : KG} {E : Nat → va_E} (hA : G.2.2.2.2 = fun k => G.2.1 + plc k) : ent G.2.2.2.1 G.2.2.2.2 (I0, J0) 311 = some (E5 G E 35) := (eq_35 hA).trans (congrArg some (E5_A (i := 34) rfl).symm)
theorem eq_36 {G : KG} (hA : G.2.2.2.2 = fun k => G.2.1 + plc k) : ent G.2.2.2.1 G.2.2.2.2 (I0, J0) 312 = some (.inl (G.2.2.2.1.1, (5, .inl (fun _ => iZ 0)))) := by
  rw [hA]
  rfl
theorem en_36 {G : KG} {E : Nat → va_E} (hA : G.2.2.2.2 = fun k => G.2.1 + plc k) : ent G.2.2.2.1 G.2.2.2.2 (I0, J0) 312 = some (E5 G E 36) := (eq_36 hA).trans (congrArg some (E5_A (i := 35) rfl).symm)
theorem eq_37 {G : KG} (hA : G.2.2.2.2 = fun k => G.2.1 + plc k) : ent G.2.2.2.1 G.2.2.2.2 (I0, J0) 313 = some (.inl (G.2.2.2.1.1, (70, .inl (fun _ => iZ 0)))) := by
  rw [hA]
  rfl
theorem en_37 {G : KG} {E : Nat → va_E} (hA : G.2.2.2.2 = fun k => G.2.1 + plc k) : ent G.2.2.2.1 G.2.2.2.2 (I0, J0) 313 = some (E5 G E 37) := (eq_37 hA).trans (congrArg some (E5_A (i := 36) rfl).symm)
theorem eq_38 {G : KG} (hA : G.2.2.2.2 = fun k => G.2.1 + plc k) : ent G.2.2.2.1 G.2.2.2.2 (I0, J0) 314 = some (.inl (G.2.2.2.1.1, (120, .inl (fun _ => iZ 0)))) := by
  rw [hA]
  rfl
theorem en_38 {G : KG} {E : Nat → va_E} (hA : G.2.2.2.2 = fun k => G.2.1 + plc k) : ent G.2.2.2.1 G.2.2.2.2 (I0, J0) 314 = some (E5 G E 38) := (eq_38 hA).trans (congrArg some (E5_A (i := 37) rfl).symm)
theorem eq_39 {G : KG} (hA : G.2.2.2.2 = fun k => G.2.1 + plc k) : ent G.2.2.2.1 G.2.2.2.2 (I0, J0) 320 = some (.inr (8, oX8 G (39 + 1))) := by
  rw [hA]
  rfl
theorem en_39 {G : KG} {E : Nat → va_E} (hA : G.2.2.2.2 = fun k => G.2.1 + plc k) : ent G.2.2.2.1 G.2.2.2.2 (I0, J0) 320 = some (E5 G E 39) := (eq_39 hA).trans (congrArg some (E5_A (i := 38) rfl).symm)
theorem eq_40 {G : KG} (hA : G.2.2.2.2 = fun k => G.2.1 + plc k) : ent G.2.2.2.1 G.2.2.2.2 (I0, J0) 321 = some (.inl (G.2.2.2.1.1, (14, .inl (fun _ => iZ 0)))) := by
  rw [hA]
  rfl
theorem en_40 {G : KG} {E : Nat → va_E} (hA : G.2.2.2.2 = fun k => G.2.1 + plc k) : ent G.2.2.2.1 G.2.2.2.2 (I0, J0) 321 = some (E5 G E 40) := (eq_40 hA).trans (congrArg some (E5_A (i := 39) rfl).symm)
theorem eq_41 {G : KG} (hA : G.2.2.2.2 = fun k => G.2.1 + plc k) : ent G.2.2.2.1 G.2.2.2.2 (I0, J0) 322 = some (.inl (G.2.2.2.1.1, (5, .inl (fun _ => iZ 0)))) := by
  rw [hA]
  rfl
theorem en_41 {G : KG} {E : Nat → va_E} (hA : G.2.2.2.2 = fun k => G.2.1 + plc k) : ent G.2.2.2.1 G.2.2.2.2 (I0, J0) 322 = some (E5 G E 41) := (eq_41 hA).trans (congrArg some (E5_A (i := 40) rfl).symm)
theorem eq_42 {G : KG} (hA : G.2.2.2.2 = fun k => G.2.1 + plc k) : ent G.2.2.2.1 G.2.2.2.2 (I0, J0) 323 = some (.inl (G.2.2.2.1.1, (70, .inl (fun _ => iZ 0)))) := by
  rw [hA]
  rfl
theorem en_42 {G : KG} {E : Nat → va_E} (hA : G.2.2.2.2 = fun k => G.2.1 + plc k) : ent G.2.2.2.1 G.2.2.2.2 (I0, J0) 323 = some (E5 G E 42) := (eq_42 hA).trans (congrArg some (E5_A (i := 41) rfl).symm)
theorem eq_43 {G : KG} (hA : G.2.2.2.2 = fun k => G.2.1 + plc k) : ent G.2.2.2.1 G.2.2.2.2 (I0, J0) 324 = some (.inl (G.2.2.2.1.1, (120, .inl (fun _ => iZ 0)))) := by
  rw [hA]
  rfl
theorem en_43 {G : KG} {E : Nat → va_E} (hA : G.2.2.2.2 = fun k => G.2.1 + plc k) : ent G.2.2.2.1 G.2.2.2.2 (I0, J0) 324 = some (E5 G E 43) := (eq_43 hA).trans (congrArg some (E5_A (i := 42) rfl).symm)
theorem eq_44 {G : KG} (hA : G.2.2.2.2 = fun k => G.2.1 + plc k) : ent G.2.2.2.1 G.2.2.2.2 (I0, J0) 111 = some (.inr (3, oX3 G (44 + 1))) := by
  rw [hA]
  rfl
theorem en_44 {G : KG} {E : Nat → va_E} (hA : G.2.2.2.2 = fun k => G.2.1 + plc k) : ent G.2.2.2.1 G.2.2.2.2 (I0, J0) 111 = some (E5 G E 44) := (eq_44 hA).trans (congrArg some (E5_A (i := 43) rfl).symm)
theorem eq_46 {G : KG} (hA : G.2.2.2.2 = fun k => G.2.1 + plc k) : ent G.2.2.2.1 G.2.2.2.2 (I0, J0) 330 = some (.inr (8, oX8 G (46 + 1))) := by
  rw [hA]
  rfl
theorem en_46 {G : KG} {E : Nat → va_E} (hA : G.2.2.2.2 = fun k => G.2.1 + plc k) : ent G.2.2.2.1 G.2.2.2.2 (I0, J0) 330 = some (E5 G E 46) := (eq_46 hA).trans (congrArg some (E5_A (i := 45) rfl).symm)
theorem eq_47 {G : KG} (hA : G.2.2.2.2 = fun k => G.2.1 + plc k) : ent G.2.2.2.1 G.2.2.2.2 (I0, J0) 331 = some (.inl (G.2.2.2.1.1, (14, .inl (fun _ => iZ 0)))) := by
  rw [hA]
  rfl
theorem en_47 {G : KG} {E : Nat → va_E} (hA : G.2.2.2.2 = fun k => G.2.1 + plc k) : ent G.2.2.2.1 G.2.2.2.2 (I0, J0) 331 = some (E5 G E 47) := (eq_47 hA).trans (congrArg some (E5_A (i := 46) rfl).symm)
theorem eq_48 {G : KG} (hA : G.2.2.2.2 = fun k => G.2.1 + plc k) : ent G.2.2.2.1 G.2.2.2.2 (I0, J0) 332 = some (.inl (G.2.2.2.1.1, (5, .inl (fun _ => iZ 0)))) := by
  rw [hA]
  rfl
theorem en_48 {G : KG} {E : Nat → va_E} (hA : G.2.2.2.2 = fun k => G.2.1 + plc k) : ent G.2.2.2.1 G.2.2.2.2 (I0, J0) 332 = some (E5 G E 48) := (eq_48 hA).trans (congrArg some (E5_A (i := 47) rfl).symm)
theorem eq_49 {G : KG} (hA : G.2.2.2.2 = fun k => G.2.1 + plc k) : ent G.2.2.2.1 G.2.2.2.2 (I0, J0) 333 = some (.inl (G.2.2.2.1.1, (70, .inl (fun _ => iZ 0)))) := by
  rw [hA]
  rfl
theorem en_49 {G : KG} {E : Nat → va_E} (hA : G.2.2.2.2 = fun k => G.2.1 + plc k) : ent G.2.2.2.1 G.2.2.2.2 (I0, J0) 333 = some (E5 G E 49) := (eq_49 hA).trans (congrArg some (E5_A (i := 48) rfl).symm)
theorem eq_50 {G : KG} (hA : G.2.2.2.2 = fun k => G.2.1 + plc k) : ent G.2.2.2.1 G.2.2.2.2 (I0, J0) 334 = some (.inl (G.2.2.2.1.1, (120, .inl (fun _ => iZ 0)))) := by
  rw [hA]
  rfl
theorem en_50 {G : KG} {E : Nat → va_E} (hA : G.2.2.2.2 = fun k => G.2.1 + plc k) : ent G.2.2.2.1 G.2.2.2.2 (I0, J0) 334 = some (E5 G E 50) := (eq_50 hA).trans (congrArg some (E5_A (i := 49) rfl).symm)
theorem eq_51 {G : KG} (hA : G.2.2.2.2 = fun k => G.2.1 + plc k) : ent G.2.2.2.1 G.2.2.2.2 (I0, J0) 340 = some (.inr (8, oX8 G (51 + 1))) := by
  rw [hA]
  rfl
theorem en_51 {G : KG} {E : Nat → va_E} (hA : G.2.2.2.2 = fun k => G.2.1 + plc k) : ent G.2.2.2.1 G.2.2.2.2 (I0, J0) 340 = some (E5 G E 51) := (eq_51 hA).trans (congrArg some (E5_A (i := 50) rfl).symm)
theorem eq_52 {G : KG} (hA : G.2.2.2.2 = fun k => G.2.1 + plc k) : ent G.2.2.2.1 G.2.2.2.2 (I0, J0) 341 = some (.inl (G.2.2.2.1.1, (14, .inl (fun _ => iZ 0)))) := by
  rw [hA]
  rfl
theorem en_52 {G : KG} {E : Nat → va_E} (hA : G.2.2.2.2 = fun k => G.2.1 + plc k) : ent G.2.2.2.1 G.2.2.2.2 (I0, J0) 341 = some (E5 G E 52) := (eq_52 hA).trans (congrArg some (E5_A (i := 51) rfl).symm)
theorem eq_53 {G : KG} (hA : G.2.2.2.2 = fun k => G.2.1 + plc k) : ent G.2.2.2.1 G.2.2.2.2 (I0, J0) 342 = some (.inl (G.2.2.2.1.1, (5, .inl (fun _ => iZ 0)))) := by
  rw [hA]
  rfl
theorem en_53 {G : KG} {E : Nat → va_E} (hA : G.2.2.2.2 = fun k => G.2.1 + plc k) : ent G.2.2.2.1 G.2.2.2.2 (I0, J0) 342 = some (E5 G E 53) := (eq_53 hA).trans (congrArg some (E5_A (i := 52) rfl).symm)
theorem eq_54 {G : KG} (hA : G.2.2.2.2 = fun k => G.2.1 + plc k) : ent G.2.2.2.1 G.2.2.2.2 (I0, J0) 343 = some (.inl (G.2.2.2.1.1, (70, .inl (fun _ => iZ 0)))) := by
  rw [hA]
  rfl
theorem en_54 {G : KG} {E : Nat → va_E} (hA : G.2.2.2.2 = fun k => G.2.1 + plc k) : ent G.2.2.2.1 G.2.2.2.2 (I0, J0) 343 = some (E5 G E 54) := (eq_54 hA).trans (congrArg some (E5_A (i := 53) rfl).symm)
theorem eq_55 {G : KG} (hA : G.2.2.2.2 = fun k => G.2.1 + plc k) : ent G.2.2.2.1 G.2.2.2.2 (I0, J0) 344 = some (.inl (G.2.2.2.1.1, (120, .inl (fun _ => iZ 0)))) := by
  rw [hA]
  rfl
theorem en_55 {G : KG} {E : Nat → va_E} (hA : G.2.2.2.2 = fun k => G.2.1 + plc k) : ent G.2.2.2.1 G.2.2.2.2 (I0, J0) 344 = some (E5 G E 55) := (eq_55 hA).trans (congrArg some (E5_A (i := 54) rfl).symm)
theorem eq_56 {G : KG} (hA : G.2.2.2.2 = fun k => G.2.1 + plc k) : ent G.2.2.2.1 G.2.2.2.2 (I0, J0) 350 = some (.inr (8, oX8 G (56 + 1))) := by
  rw [hA]
  rfl
theorem en_56 {G : KG} {E : Nat → va_E} (hA : G.2.2.2.2 = fun k => G.2.1 + plc k) : ent G.2.2.2.1 G.2.2.2.2 (I0, J0) 350 = some (E5 G E 56) := (eq_56 hA).trans (congrArg some (E5_A (i := 55) rfl).symm)
theorem eq_57 {G : KG} (hA : G.2.2.2.2 = fun k => G.2.1 + plc k) : ent G.2.2.2.1 G.2.2.2.2 (I0, J0) 351 = some (.inl (G.2.2.2.1.1, (14, .inl (fun _ => iZ 0)))) := by
  rw [hA]
  rfl
theorem en_57 {G : KG} {E : Nat → va_E} (hA : G.2.2.2.2 = fun k => G.2.1 + plc k) : ent G.2.2.2.1 G.2.2.2.2 (I0, J0) 351 = some (E5 G E 57) := (eq_57 hA).trans (congrArg some (E5_A (i := 56) rfl).symm)
theorem eq_58 {G : KG} (hA : G.2.2.2.2 = fun k => G.2.1 + plc k) : ent G.2.2.2.1 G.2.2.2.2 (I0, J0) 352 = some (.inl (G.2.2.2.1.1, (5, .inl (fun _ => iZ 0)))) := by
  rw [hA]
  rfl
theorem en_58 {G : KG} {E : Nat → va_E} (hA : G.2.2.2.2 = fun k => G.2.1 + plc k) : ent G.2.2.2.1 G.2.2.2.2 (I0, J0) 352 = some (E5 G E 58) := (eq_58 hA).trans (congrArg some (E5_A (i := 57) rfl).symm)
theorem eq_59 {G : KG} (hA : G.2.2.2.2 = fun k => G.2.1 + plc k) : ent G.2.2.2.1 G.2.2.2.2 (I0, J0) 353 = some (.inl (G.2.2.2.1.1, (70, .inl (fun _ => iZ 0)))) := by
  rw [hA]
  rfl
theorem en_59 {G : KG} {E : Nat → va_E} (hA : G.2.2.2.2 = fun k => G.2.1 + plc k) : ent G.2.2.2.1 G.2.2.2.2 (I0, J0) 353 = some (E5 G E 59) := (eq_59 hA).trans (congrArg some (E5_A (i := 58) rfl).symm)
theorem eq_60 {G : KG} (hA : G.2.2.2.2 = fun k => G.2.1 + plc k) : ent G.2.2.2.1 G.2.2.2.2 (I0, J0) 354 = some (.inl (G.2.2.2.1.1, (120, .inl (fun _ => iZ 0)))) := by
  rw [hA]
  rfl
theorem en_60 {G : KG} {E : Nat → va_E} (hA : G.2.2.2.2 = fun k => G.2.1 + plc k) : ent G.2.2.2.1 G.2.2.2.2 (I0, J0) 354 = some (E5 G E 60) := (eq_60 hA).trans (congrArg some (E5_A (i := 59) rfl).symm)
theorem eq_61 {G : KG} (hA : G.2.2.2.2 = fun k => G.2.1 + plc k) : ent G.2.2.2.1 G.2.2.2.2 (I0, J0) 360 = some (.inr (8, oX8 G (61 + 1))) := by
  rw [hA]
  rfl
theorem en_61 {G : KG} {E : Nat → va_E} (hA : G.2.2.2.2 = fun k => G.2.1 + plc k) : ent G.2.2.2.1 G.2.2.2.2 (I0, J0) 360 = some (E5 G E 61) := (eq_61 hA).trans (congrArg some (E5_A (i := 60) rfl).symm)
theorem eq_62 {G : KG} (hA : G.2.2.2.2 = fun k => G.2.1 + plc k) : ent G.2.2.2.1 G.2.2.2.2 (I0, J0) 361 = some (.inl (G.2.2.2.1.1, (14, .inl (fun _ => iZ 0)))) := by
  rw [hA]
  rfl
theorem en_62 {G : KG} {E : Nat → va_E} (hA : G.2.2.2.2 = fun k => G.2.1 + plc k) : ent G.2.2.2.1 G.2.2.2.2 (I0, J0) 361 = some (E5 G E 62) := (eq_62 hA).trans (congrArg some (E5_A (i := 61) rfl).symm)
theorem eq_63 {G : KG} (hA : G.2.2.2.2 = fun k => G.2.1 + plc k) : ent G.2.2.2.1 G.2.2.2.2 (I0, J0) 362 = some (.inl (G.2.2.2.1.1, (5, .inl (fun _ => iZ 0)))) := by
  rw [hA]
  rfl
theorem en_63 {G : KG} {E : Nat → va_E} (hA : G.2.2.2.2 = fun k => G.2.1 + plc k) : ent G.2.2.2.1 G.2.2.2.2 (I0, J0) 362 = some (E5 G E 63) := (eq_63 hA).trans (congrArg some (E5_A (i := 62) rfl).symm)
theorem eq_64 {G : KG} (hA : G.2.2.2.2 = fun k => G.2.1 + plc k) : ent G.2.2.2.1 G.2.2.2.2 (I0, J0) 363 = some (.inl (G.2.2.2.1.1, (70, .inl (fun _ => iZ 0)))) := by
  rw [hA]
  rfl
theorem en_64 {G : KG} {E : Nat → va_E} (hA : G.2.2.2.2 = fun k => G.2.1 + plc k) : ent G.2.2.2.1 G.2.2.2.2 (I0, J0) 363 = some (E5 G E 64) := (eq_64 hA).trans (congrArg some (E5_A (i := 63) rfl).symm)
theorem eq_65 {G : KG} (hA : G.2.2.2.2 = fun k => G.2.1 + plc k) : ent G.2.2.2.1 G.2.2.2.2 (I0, J0) 364 = some (.inl (G.2.2.2.1.1, (120, .inl (fun _ => iZ 0)))) := by
  rw [hA]
  rfl
theorem en_65 {G : KG} {E : Nat → va_E} (hA : G.2.2.2.2 = fun k => G.2.1 + plc k) : ent G.2.2.2.1 G.2.2.2.2 (I0, J0) 364 = some (E5 G E 65) := (eq_65 hA).trans (congrArg some (E5_A (i := 64) rfl).symm)
theorem eq_66 {G : KG} (hA : G.2.2.2.2 = fun k => G.2.1 + plc k) : ent G.2.2.2.1 G.2.2.2.2 (I0, J0) 370 = some (.inr (8, oX8 G (66 + 1))) := by
  rw [hA]
  rfl
theorem en_66 {G : KG} {E : Nat → va_E} (hA : G.2.2.2.2 = fun k => G.2.1 + plc k) : ent G.2.2.2.1 G.2.2.2.2 (I0, J0) 370 = some (E5 G E 66) := (eq_66 hA).trans (congrArg some (E5_A (i := 65) rfl).symm)
theorem eq_67 {G : KG} (hA : G.2.2.2.2 = fun k => G.2.1 + plc k) : ent G.2.2.2.1 G.2.2.2.2 (I0, J0) 371 = some (.inl (G.2.2.2.1.1, (14, .inl (fun _ => iZ 0)))) := by
  rw [hA]
  rfl
theorem en_67 {G : KG} {E : Nat → va_E} (hA : G.2.2.2.2 = fun k => G.2.1 + plc k) : ent G.2.2.2.1 G.2.2.2.2 (I0, J0) 371 = some (E5 G E 67) := (eq_67 hA).trans (congrArg some (E5_A (i := 66) rfl).symm)
theorem eq_68 {G : KG} (hA : G.2.2.2.2 = fun k => G.2.1 + plc k) : ent G.2.2.2.1 G.2.2.2.2 (I0, J0) 372 = some (.inl (G.2.2.2.1.1, (5, .inl (fun _ => iZ 0)))) := by
  rw [hA]
  rfl
theorem en_68 {G : KG} {E : Nat → va_E} (hA : G.2.2.2.2 = fun k => G.2.1 + plc k) : ent G.2.2.2.1 G.2.2.2.2 (I0, J0) 372 = some (E5 G E 68) := (eq_68 hA).trans (congrArg some (E5_A (i := 67) rfl).symm)
theorem eq_69 {G : KG} (hA : G.2.2.2.2 = fun k => G.2.1 + plc k) : ent G.2.2.2.1 G.2.2.2.2 (I0, J0) 373 = some (.inl (G.2.2.2.1.1, (70, .inl (fun _ => iZ 0)))) := by
  rw [hA]
  rfl
theorem en_69 {G : KG} {E : Nat → va_E} (hA : G.2.2.2.2 = fun k => G.2.1 + plc k) : ent G.2.2.2.1 G.2.2.2.2 (I0, J0) 373 = some (E5 G E 69) := (eq_69 hA).trans (congrArg some (E5_A (i := 68) rfl).symm)
theorem eq_70 {G : KG} (hA : G.2.2.2.2 = fun k => G.2.1 + plc k) : ent G.2.2.2.1 G.2.2.2.2 (I0, J0) 374 = some (.inl (G.2.2.2.1.1, (120, .inl (fun _ => iZ 0)))) := by
  rw [hA]
  rfl
theorem en_70 {G : KG} {E : Nat → va_E} (hA : G.2.2.2.2 = fun k => G.2.1 + plc k) : ent G.2.2.2.1 G.2.2.2.2 (I0, J0) 374 = some (E5 G E 70) := (eq_70 hA).trans (congrArg some (E5_A (i := 69) rfl).symm)
theorem eq_71 {G : KG} (hA : G.2.2.2.2 = fun k => G.2.1 + plc k) : ent G.2.2.2.1 G.2.2.2.2 (I0, J0) 380 = some (.inr (8, oX8 G (71 + 1))) := by
  rw [hA]
  rfl
theorem en_71 {G : KG} {E : Nat → va_E} (hA : G.2.2.2.2 = fun k => G.2.1 + plc k) : ent G.2.2.2.1 G.2.2.2.2 (I0, J0) 380 = some (E5 G E 71) := (eq_71 hA).trans (congrArg some (E5_A (i := 70) rfl).symm)
theorem eq_72 {G : KG} (hA : G.2.2.2.2 = fun k => G.2.1 + plc k) : ent G.2.2.2.1 G.2.2.2.2 (I0, J0) 381 = some (.inl (G.2.2.2.1.1, (14, .inl (fun _ => iZ 0)))) := by
  rw [hA]
  rfl
theorem en_72 {G : KG} {E : Nat → va_E} (hA : G.2.2.2.2 = fun k => G.2.1 + plc k) : ent G.2.2.2.1 G.2.2.2.2 (I0, J0) 381 = some (E5 G E 72) := (eq_72 hA).trans (congrArg some (E5_A (i := 71) rfl).symm)
theorem eq_73 {G : KG} (hA : G.2.2.2.2 = fun k => G.2.1 + plc k) : ent G.2.2.2.1 G.2.2.2.2 (I0, J0) 382 = some (.inl (G.2.2.2.1.1, (5, .inl (fun _ => iZ 0)))) := by
  rw [hA]
  rfl
theorem en_73 {G : KG} {E : Nat → va_E} (hA : G.2.2.2.2 = fun k => G.2.1 + plc k) : ent G.2.2.2.1 G.2.2.2.2 (I0, J0) 382 = some (E5 G E 73) := (eq_73 hA).trans (congrArg some (E5_A (i := 72) rfl).symm)
theorem eq_74 {G : KG} (hA : G.2.2.2.2 = fun k => G.2.1 + plc k) : ent G.2.2.2.1 G.2.2.2.2 (I0, J0) 383 = some (.inl (G.2.2.2.1.1, (70, .inl (fun _ => iZ 0)))) := by
  rw [hA]
  rfl
theorem en_74 {G : KG} {E : Nat → va_E} (hA : G.2.2.2.2 = fun k => G.2.1 + plc k) : ent G.2.2.2.1 G.2.2.2.2 (I0, J0) 383 = some (E5 G E 74) := (eq_74 hA).trans (congrArg some (E5_A (i := 73) rfl).symm)
theorem eq_75 {G : KG} (hA : G.2.2.2.2 = fun k => G.2.1 + plc k) : ent G.2.2.2.1 G.2.2.2.2 (I0, J0) 384 = some (.inl (G.2.2.2.1.1, (120, .inl (fun _ => iZ 0)))) := by
  rw [hA]
  rfl
theorem en_75 {G : KG} {E : Nat → va_E} (hA : G.2.2.2.2 = fun k => G.2.1 + plc k) : ent G.2.2.2.1 G.2.2.2.2 (I0, J0) 384 = some (E5 G E 75) := (eq_75 hA).trans (congrArg some (E5_A (i := 74) rfl).symm)
theorem eq_76 {G : KG} (hA : G.2.2.2.2 = fun k => G.2.1 + plc k) : ent G.2.2.2.1 G.2.2.2.2 (I0, J0) 113 = some (.inr (4, oX4 G (76 + 1))) := by
  rw [hA]
  rfl
theorem en_76 {G : KG} {E : Nat → va_E} (hA : G.2.2.2.2 = fun k => G.2.1 + plc k) : ent G.2.2.2.1 G.2.2.2.2 (I0, J0) 113 = some (E5 G E 76) := (eq_76 hA).trans (congrArg some (E5_A (i := 75) rfl).symm)
theorem eq_77 {G : KG} (hA : G.2.2.2.2 = fun k => G.2.1 + plc k) : ent G.2.2.2.1 G.2.2.2.2 (I0, J0) 114 = some (.inl (G.2.2.2.1.1, (14, .inl (fun _ => iZ 0)))) := by
  rw [hA]
  rfl
theorem en_77 {G : KG} {E : Nat → va_E} (hA : G.2.2.2.2 = fun k => G.2.1 + plc k) : ent G.2.2.2.1 G.2.2.2.2 (I0, J0) 114 = some (E5 G E 77) := (eq_77 hA).trans (congrArg some (E5_A (i := 76) rfl).symm)
theorem eq_78 {G : KG} (hA : G.2.2.2.2 = fun k => G.2.1 + plc k) : ent G.2.2.2.1 G.2.2.2.2 (I0, J0) 115 = some (.inl (G.2.2.2.1.1, (14, .inl (fun _ => iZ 0)))) := by
  rw [hA]
  rfl
theorem en_78 {G : KG} {E : Nat → va_E} (hA : G.2.2.2.2 = fun k => G.2.1 + plc k) : ent G.2.2.2.1 G.2.2.2.2 (I0, J0) 115 = some (E5 G E 78) := (eq_78 hA).trans (congrArg some (E5_A (i := 77) rfl).symm)
theorem eq_79 {G : KG} (hA : G.2.2.2.2 = fun k => G.2.1 + plc k) : ent G.2.2.2.1 G.2.2.2.2 (I0, J0) 116 = some (.inl (G.2.2.2.1.1, (14, .inl (fun _ => iZ 0)))) := by
  rw [hA]
  rfl
theorem en_79 {G : KG} {E : Nat → va_E} (hA : G.2.2.2.2 = fun k => G.2.1 + plc k) : ent G.2.2.2.1 G.2.2.2.2 (I0, J0) 116 = some (E5 G E 79) := (eq_79 hA).trans (congrArg some (E5_A (i := 78) rfl).symm)
theorem eq_80 {G : KG} (hA : G.2.2.2.2 = fun k => G.2.1 + plc k) : ent G.2.2.2.1 G.2.2.2.2 (I0, J0) 117 = some (.inl (G.2.2.2.1.1, (4, .inl (fun _ => iZ 0)))) := by
  rw [hA]
  rfl
theorem en_80 {G : KG} {E : Nat → va_E} (hA : G.2.2.2.2 = fun k => G.2.1 + plc k) : ent G.2.2.2.1 G.2.2.2.2 (I0, J0) 117 = some (E5 G E 80) := (eq_80 hA).trans (congrArg some (E5_A (i := 79) rfl).symm)
theorem eq_81 {G : KG} (hA : G.2.2.2.2 = fun k => G.2.1 + plc k) : ent G.2.2.2.1 G.2.2.2.2 (I0, J0) 118 = some (.inl (G.2.2.2.1.1, (4, .inl (fun _ => iZ 0)))) := by
  rw [hA]
  rfl
theorem en_81 {G : KG} {E : Nat → va_E} (hA : G.2.2.2.2 = fun k => G.2.1 + plc k) : ent G.2.2.2.1 G.2.2.2.2 (I0, J0) 118 = some (E5 G E 81) := (eq_81 hA).trans (congrArg some (E5_A (i := 80) rfl).symm)
theorem eq_82 {G : KG} (hA : G.2.2.2.2 = fun k => G.2.1 + plc k) : ent G.2.2.2.1 G.2.2.2.2 (I0, J0) 119 = some (.inl (G.2.2.2.1.1, (56, .inl (fun _ => iZ 0)))) := by
  rw [hA]
  rfl
theorem en_82 {G : KG} {E : Nat → va_E} (hA : G.2.2.2.2 = fun k => G.2.1 + plc k) : ent G.2.2.2.1 G.2.2.2.2 (I0, J0) 119 = some (E5 G E 82) := (eq_82 hA).trans (congrArg some (E5_A (i := 81) rfl).symm)
theorem eq_83 {G : KG} (hA : G.2.2.2.2 = fun k => G.2.1 + plc k) : ent G.2.2.2.1 G.2.2.2.2 (I0, J0) 120 = some (.inr (5, oX5 G (83 + 1))) := by
  rw [hA]
  rfl
theorem en_83 {G : KG} {E : Nat → va_E} (hA : G.2.2.2.2 = fun k => G.2.1 + plc k) : ent G.2.2.2.1 G.2.2.2.2 (I0, J0) 120 = some (E5 G E 83) := (eq_83 hA).trans (congrArg some (E5_A (i := 82) rfl).symm)
theorem eq_84 {G : KG} (hA : G.2.2.2.2 = fun k => G.2.1 + plc k) : ent G.2.2.2.1 G.2.2.2.2 (I0, J0) 121 = some (.inl (G.2.2.2.1.1, (196, .inl (fun _ => iZ 0)))) := by
  rw [hA]
  rfl
theorem en_84 {G : KG} {E : Nat → va_E} (hA : G.2.2.2.2 = fun k => G.2.1 + plc k) : ent G.2.2.2.1 G.2.2.2.2 (I0, J0) 121 = some (E5 G E 84) := (eq_84 hA).trans (congrArg some (E5_A (i := 83) rfl).symm)
theorem eq_85 {G : KG} (hA : G.2.2.2.2 = fun k => G.2.1 + plc k) : ent G.2.2.2.1 G.2.2.2.2 (I0, J0) 122 = some (.inl (G.2.2.2.1.1, (14, .inl (fun _ => iZ 0)))) := by
  rw [hA]
  rfl
theorem en_85 {G : KG} {E : Nat → va_E} (hA : G.2.2.2.2 = fun k => G.2.1 + plc k) : ent G.2.2.2.1 G.2.2.2.2 (I0, J0) 122 = some (E5 G E 85) := (eq_85 hA).trans (congrArg some (E5_A (i := 84) rfl).symm)
theorem eq_86 {G : KG} (hA : G.2.2.2.2 = fun k => G.2.1 + plc k) : ent G.2.2.2.1 G.2.2.2.2 (I0, J0) 123 = some (.inl (G.2.2.2.1.1, (14, .inl (fun _ => iZ 0)))) := by
  rw [hA]
  rfl
theorem en_86 {G : KG} {E : Nat → va_E} (hA : G.2.2.2.2 = fun k => G.2.1 + plc k) : ent G.2.2.2.1 G.2.2.2.2 (I0, J0) 123 = some (E5 G E 86) := (eq_86 hA).trans (congrArg some (E5_A (i := 85) rfl).symm)
theorem eq_87 {G : KG} (hA : G.2.2.2.2 = fun k => G.2.1 + plc k) : ent G.2.2.2.1 G.2.2.2.2 (I0, J0) 124 = some (.inr (0, oX0 G (87 + 1))) := by
  rw [hA]
  rfl
theorem en_87 {G : KG} {E : Nat → va_E} (hA : G.2.2.2.2 = fun k => G.2.1 + plc k) : ent G.2.2.2.1 G.2.2.2.2 (I0, J0) 124 = some (E5 G E 87) := (eq_87 hA).trans (congrArg some (E5_A (i := 86) rfl).symm)
theorem eq_88 {G : KG} (hA : G.2.2.2.2 = fun k => G.2.1 + plc k) : ent G.2.2.2.1 G.2.2.2.2 (I0, J0) 125 = some (.inl (G.2.2.2.1.1, (7, .inl (fun _ => iZ 0)))) := by
  rw [hA]
  rfl
theorem en_88 {G : KG} {E : Nat → va_E} (hA : G.2.2.2.2 = fun k => G.2.1 + plc k) : ent G.2.2.2.1 G.2.2.2.2 (I0, J0) 125 = some (E5 G E 88) := (eq_88 hA).trans (congrArg some (E5_A (i := 87) rfl).symm)
theorem eq_89 {G : KG} (hA : G.2.2.2.2 = fun k => G.2.1 + plc k) : ent G.2.2.2.1 G.2.2.2.2 (I0, J0) 126 = some (.inl (G.2.2.2.1.1, (7, .inl (fun _ => iZ 0)))) := by
  rw [hA]
  rfl
theorem en_89 {G : KG} {E : Nat → va_E} (hA : G.2.2.2.2 = fun k => G.2.1 + plc k) : ent G.2.2.2.1 G.2.2.2.2 (I0, J0) 126 = some (E5 G E 89) := (eq_89 hA).trans (congrArg some (E5_A (i := 88) rfl).symm)
theorem eq_90 {G : KG} (hA : G.2.2.2.2 = fun k => G.2.1 + plc k) : ent G.2.2.2.1 G.2.2.2.2 (I0, J0) 127 = some (.inl (G.2.2.2.1.1, (4, .inl (fun _ => iZ 0)))) := by
  rw [hA]
  rfl
theorem en_90 {G : KG} {E : Nat → va_E} (hA : G.2.2.2.2 = fun k => G.2.1 + plc k) : ent G.2.2.2.1 G.2.2.2.2 (I0, J0) 127 = some (E5 G E 90) := (eq_90 hA).trans (congrArg some (E5_A (i := 89) rfl).symm)
theorem eq_91 {G : KG} (hA : G.2.2.2.2 = fun k => G.2.1 + plc k) : ent G.2.2.2.1 G.2.2.2.2 (I0, J0) 128 = some (.inr (1, oX1 G (91 + 1))) := by
  rw [hA]
  rfl
theorem en_91 {G : KG} {E : Nat → va_E} (hA : G.2.2.2.2 = fun k => G.2.1 + plc k) : ent G.2.2.2.1 G.2.2.2.2 (I0, J0) 128 = some (E5 G E 91) := (eq_91 hA).trans (congrArg some (E5_A (i := 90) rfl).symm)
theorem eq_92 {G : KG} (hA : G.2.2.2.2 = fun k => G.2.1 + plc k) : ent G.2.2.2.1 G.2.2.2.2 (I0, J0) 129 = some (.inl (G.2.2.2.1.1, (196, .inl (fun _ => iZ 0)))) := by
  rw [hA]
  rfl
theorem en_92 {G : KG} {E : Nat → va_E} (hA : G.2.2.2.2 = fun k => G.2.1 + plc k) : ent G.2.2.2.1 G.2.2.2.2 (I0, J0) 129 = some (E5 G E 92) := (eq_92 hA).trans (congrArg some (E5_A (i := 91) rfl).symm)
theorem eq_93 {G : KG} (hA : G.2.2.2.2 = fun k => G.2.1 + plc k) : ent G.2.2.2.1 G.2.2.2.2 (I0, J0) 130 = some (.inl (G.2.2.2.1.1, (14, .inl (fun _ => iZ 0)))) := by
  rw [hA]
  rfl
theorem en_93 {G : KG} {E : Nat → va_E} (hA : G.2.2.2.2 = fun k => G.2.1 + plc k) : ent G.2.2.2.1 G.2.2.2.2 (I0, J0) 130 = some (E5 G E 93) := (eq_93 hA).trans (congrArg some (E5_A (i := 92) rfl).symm)
theorem eq_94 {G : KG} (hA : G.2.2.2.2 = fun k => G.2.1 + plc k) : ent G.2.2.2.1 G.2.2.2.2 (I0, J0) 131 = some (.inl (G.2.2.2.1.1, (14, .inl (fun _ => iZ 0)))) := by
  rw [hA]
  rfl
theorem en_94 {G : KG} {E : Nat → va_E} (hA : G.2.2.2.2 = fun k => G.2.1 + plc k) : ent G.2.2.2.1 G.2.2.2.2 (I0, J0) 131 = some (E5 G E 94) := (eq_94 hA).trans (congrArg some (E5_A (i := 93) rfl).symm)
theorem eq_95 {G : KG} (hA : G.2.2.2.2 = fun k => G.2.1 + plc k) : ent G.2.2.2.1 G.2.2.2.2 (I0, J0) 132 = some (.inl (G.2.2.2.1.1, (152, .inl (fun _ => iZ 0)))) := by
  rw [hA]
  rfl
theorem en_95 {G : KG} {E : Nat → va_E} (hA : G.2.2.2.2 = fun k => G.2.1 + plc k) : ent G.2.2.2.1 G.2.2.2.2 (I0, J0) 132 = some (E5 G E 95) := (eq_95 hA).trans (congrArg some (E5_A (i := 94) rfl).symm)
theorem eq_96 {G : KG} (hA : G.2.2.2.2 = fun k => G.2.1 + plc k) : ent G.2.2.2.1 G.2.2.2.2 (I0, J0) 0 = some (.inr (12, o12_25 G 97)) := by
  rw [hA]
  show some (Sum.inr (12, List.mapIdx (fun i kd => fldv (fun k => G.2.1 + plc k) (I0, J0) 0 i kd) [0, 3, 0, 0, 0, 0, 0, 0, 0, 0, 0, 0, 0, 0, 1, 4, 5, 6, 7, 8, 9, 10, 11, 0, 0, 0, 0, 0, 12, 13, 14, 15, 16, 17, 0, 0, 18, 19, 20, 21, 22, 0, 0, 0, 0, 23, 0, 0])) = _
  simp only [List.mapIdx_cons, List.mapIdx_nil]
  rfl
theorem en_96 {G : KG} {E : Nat → va_E} (hA : G.2.2.2.2 = fun k => G.2.1 + plc k) : ent G.2.2.2.1 G.2.2.2.2 (I0, J0) 0 = some (E5 G E 96) := (eq_96 hA).trans (congrArg some (E5_96).symm)
theorem eq_97 {G : KG} (hA : G.2.2.2.2 = fun k => G.2.1 + plc k) : ent G.2.2.2.1 G.2.2.2.2 (I0, J0) 1 = some (.inl (G.2.2.2.1.1, (800, .inl (fun _ => iZ 0)))) := by
  rw [hA]
  rfl
theorem en_97 {G : KG} {E : Nat → va_E} (hA : G.2.2.2.2 = fun k => G.2.1 + plc k) : ent G.2.2.2.1 G.2.2.2.2 (I0, J0) 1 = some (E5 G E 97) := (eq_97 hA).trans (congrArg some (E5_B (i := 0) rfl).symm)
theorem eq_98 {G : KG} (hA : G.2.2.2.2 = fun k => G.2.1 + plc k) : ent G.2.2.2.1 G.2.2.2.2 (I0, J0) 2 = some (.inl (G.2.2.2.1.1, (350, .inl sA2))) := by
  rw [hA]
  show some (Sum.inl (G.2.2.2.1.1, (350, Sum.inl (fun i => iZ (I0 2 i))))) = _
  congr 5
  funext q
  show iZ (if q = 2 then 2 else 0) = if q = 2 then iZ 2 else iZ 0
  split <;> rfl
theorem en_98 {G : KG} {E : Nat → va_E} (hA : G.2.2.2.2 = fun k => G.2.1 + plc k) : ent G.2.2.2.1 G.2.2.2.2 (I0, J0) 2 = some (E5 G E 98) := (eq_98 hA).trans (congrArg some (E5_B (i := 1) rfl).symm)
theorem eq_99 {G : KG} (hA : G.2.2.2.2 = fun k => G.2.1 + plc k) : ent G.2.2.2.1 G.2.2.2.2 (I0, J0) 3 = some (.inl (G.2.2.2.1.1, (350, .inl (fun _ => iZ 0)))) := by
  rw [hA]
  rfl
theorem en_99 {G : KG} {E : Nat → va_E} (hA : G.2.2.2.2 = fun k => G.2.1 + plc k) : ent G.2.2.2.1 G.2.2.2.2 (I0, J0) 3 = some (E5 G E 99) := (eq_99 hA).trans (congrArg some (E5_B (i := 2) rfl).symm)
theorem eq_100 {G : KG} (hA : G.2.2.2.2 = fun k => G.2.1 + plc k) : ent G.2.2.2.1 G.2.2.2.2 (I0, J0) 4 = some (.inl (G.2.2.2.1.1, (2100, .inl (fun _ => iZ 0)))) := by
  rw [hA]
  rfl
theorem en_100 {G : KG} {E : Nat → va_E} (hA : G.2.2.2.2 = fun k => G.2.1 + plc k) : ent G.2.2.2.1 G.2.2.2.2 (I0, J0) 4 = some (E5 G E 100) := (eq_100 hA).trans (congrArg some (E5_B (i := 3) rfl).symm)
theorem eq_101 {G : KG} (hA : G.2.2.2.2 = fun k => G.2.1 + plc k) : ent G.2.2.2.1 G.2.2.2.2 (I0, J0) 5 = some (.inl (G.2.2.2.1.1, (350, .inl (fun _ => iZ 0)))) := by
  rw [hA]
  rfl
theorem en_101 {G : KG} {E : Nat → va_E} (hA : G.2.2.2.2 = fun k => G.2.1 + plc k) : ent G.2.2.2.1 G.2.2.2.2 (I0, J0) 5 = some (E5 G E 101) := (eq_101 hA).trans (congrArg some (E5_B (i := 4) rfl).symm)
theorem eq_102 {G : KG} (hA : G.2.2.2.2 = fun k => G.2.1 + plc k) : ent G.2.2.2.1 G.2.2.2.2 (I0, J0) 6 = some (.inl (G.2.2.2.1.1, (350, .inl (fun _ => iZ 0)))) := by
  rw [hA]
  rfl
theorem en_102 {G : KG} {E : Nat → va_E} (hA : G.2.2.2.2 = fun k => G.2.1 + plc k) : ent G.2.2.2.1 G.2.2.2.2 (I0, J0) 6 = some (E5 G E 102) := (eq_102 hA).trans (congrArg some (E5_B (i := 5) rfl).symm)
theorem eq_103 {G : KG} (hA : G.2.2.2.2 = fun k => G.2.1 + plc k) : ent G.2.2.2.1 G.2.2.2.2 (I0, J0) 7 = some (.inl (G.2.2.2.1.2.1, (14, .inr (.inl (fun _ => 0))))) := by
  rw [hA]
  rfl
theorem en_103 {G : KG} {E : Nat → va_E} (hA : G.2.2.2.2 = fun k => G.2.1 + plc k) : ent G.2.2.2.1 G.2.2.2.2 (I0, J0) 7 = some (E5 G E 103) := (eq_103 hA).trans (congrArg some (E5_B (i := 6) rfl).symm)
theorem eq_104 {G : KG} (hA : G.2.2.2.2 = fun k => G.2.1 + plc k) : ent G.2.2.2.1 G.2.2.2.2 (I0, J0) 8 = some (.inl (G.2.2.2.1.2.1, (14, .inr (.inl (fun _ => 0))))) := by
  rw [hA]
  rfl
theorem en_104 {G : KG} {E : Nat → va_E} (hA : G.2.2.2.2 = fun k => G.2.1 + plc k) : ent G.2.2.2.1 G.2.2.2.2 (I0, J0) 8 = some (E5 G E 104) := (eq_104 hA).trans (congrArg some (E5_B (i := 7) rfl).symm)
theorem eq_105 {G : KG} (hA : G.2.2.2.2 = fun k => G.2.1 + plc k) : ent G.2.2.2.1 G.2.2.2.2 (I0, J0) 9 = some (.inl (G.2.2.2.1.2.1, (14, .inr (.inl (fun _ => 0))))) := by
  rw [hA]
  rfl
theorem en_105 {G : KG} {E : Nat → va_E} (hA : G.2.2.2.2 = fun k => G.2.1 + plc k) : ent G.2.2.2.1 G.2.2.2.2 (I0, J0) 9 = some (E5 G E 105) := (eq_105 hA).trans (congrArg some (E5_B (i := 8) rfl).symm)
theorem eq_106 {G : KG} (hA : G.2.2.2.2 = fun k => G.2.1 + plc k) : ent G.2.2.2.1 G.2.2.2.2 (I0, J0) 10 = some (.inl (G.2.2.2.1.1, (14, .inl (fun _ => iZ 0)))) := by
  rw [hA]
  rfl
theorem en_106 {G : KG} {E : Nat → va_E} (hA : G.2.2.2.2 = fun k => G.2.1 + plc k) : ent G.2.2.2.1 G.2.2.2.2 (I0, J0) 10 = some (E5 G E 106) := (eq_106 hA).trans (congrArg some (E5_B (i := 9) rfl).symm)
theorem eq_107 {G : KG} (hA : G.2.2.2.2 = fun k => G.2.1 + plc k) : ent G.2.2.2.1 G.2.2.2.2 (I0, J0) 11 = some (.inl (G.2.2.2.1.1, (49, .inl (fun _ => iZ 0)))) := by
  rw [hA]
  rfl
theorem en_107 {G : KG} {E : Nat → va_E} (hA : G.2.2.2.2 = fun k => G.2.1 + plc k) : ent G.2.2.2.1 G.2.2.2.2 (I0, J0) 11 = some (E5 G E 107) := (eq_107 hA).trans (congrArg some (E5_B (i := 10) rfl).symm)
theorem eq_108 {G : KG} (hA : G.2.2.2.2 = fun k => G.2.1 + plc k) : ent G.2.2.2.1 G.2.2.2.2 (I0, J0) 12 = some (.inl (G.2.2.2.1.1, (7, .inl (fun _ => iZ 0)))) := by
  rw [hA]
  rfl
theorem en_108 {G : KG} {E : Nat → va_E} (hA : G.2.2.2.2 = fun k => G.2.1 + plc k) : ent G.2.2.2.1 G.2.2.2.2 (I0, J0) 12 = some (E5 G E 108) := (eq_108 hA).trans (congrArg some (E5_B (i := 11) rfl).symm)
theorem eq_109 {G : KG} (hA : G.2.2.2.2 = fun k => G.2.1 + plc k) : ent G.2.2.2.1 G.2.2.2.2 (I0, J0) 13 = some (.inl (G.2.2.2.1.1, (7, .inl (fun _ => iZ 0)))) := by
  rw [hA]
  rfl
theorem en_109 {G : KG} {E : Nat → va_E} (hA : G.2.2.2.2 = fun k => G.2.1 + plc k) : ent G.2.2.2.1 G.2.2.2.2 (I0, J0) 13 = some (E5 G E 109) := (eq_109 hA).trans (congrArg some (E5_B (i := 12) rfl).symm)
theorem eq_110 {G : KG} (hA : G.2.2.2.2 = fun k => G.2.1 + plc k) : ent G.2.2.2.1 G.2.2.2.2 (I0, J0) 14 = some (.inl (G.2.2.2.1.1, (7, .inl (fun _ => iZ 0)))) := by
  rw [hA]
  rfl
theorem en_110 {G : KG} {E : Nat → va_E} (hA : G.2.2.2.2 = fun k => G.2.1 + plc k) : ent G.2.2.2.1 G.2.2.2.2 (I0, J0) 14 = some (E5 G E 110) := (eq_110 hA).trans (congrArg some (E5_B (i := 13) rfl).symm)
theorem eq_111 {G : KG} (hA : G.2.2.2.2 = fun k => G.2.1 + plc k) : ent G.2.2.2.1 G.2.2.2.2 (I0, J0) 15 = some (.inl (G.2.2.2.1.1, (4, .inl (fun _ => iZ 0)))) := by
  rw [hA]
  rfl
theorem en_111 {G : KG} {E : Nat → va_E} (hA : G.2.2.2.2 = fun k => G.2.1 + plc k) : ent G.2.2.2.1 G.2.2.2.2 (I0, J0) 15 = some (E5 G E 111) := (eq_111 hA).trans (congrArg some (E5_B (i := 14) rfl).symm)
theorem eq_112 {G : KG} (hA : G.2.2.2.2 = fun k => G.2.1 + plc k) : ent G.2.2.2.1 G.2.2.2.2 (I0, J0) 16 = some (.inl (G.2.2.2.1.1, (60, .inl (fun _ => iZ 0)))) := by
  rw [hA]
  rfl
theorem en_112 {G : KG} {E : Nat → va_E} (hA : G.2.2.2.2 = fun k => G.2.1 + plc k) : ent G.2.2.2.1 G.2.2.2.2 (I0, J0) 16 = some (E5 G E 112) := (eq_112 hA).trans (congrArg some (E5_B (i := 15) rfl).symm)
theorem eq_113 {G : KG} (hA : G.2.2.2.2 = fun k => G.2.1 + plc k) : ent G.2.2.2.1 G.2.2.2.2 (I0, J0) 17 = some (.inl (G.2.2.2.1.1, (60, .inl (fun _ => iZ 0)))) := by
  rw [hA]
  rfl
theorem en_113 {G : KG} {E : Nat → va_E} (hA : G.2.2.2.2 = fun k => G.2.1 + plc k) : ent G.2.2.2.1 G.2.2.2.2 (I0, J0) 17 = some (E5 G E 113) := (eq_113 hA).trans (congrArg some (E5_B (i := 16) rfl).symm)
theorem eq_114 {G : KG} (hA : G.2.2.2.2 = fun k => G.2.1 + plc k) : ent G.2.2.2.1 G.2.2.2.2 (I0, J0) 18 = some (.inl (G.2.2.2.1.1, (60, .inl (fun _ => iZ 0)))) := by
  rw [hA]
  rfl
theorem en_114 {G : KG} {E : Nat → va_E} (hA : G.2.2.2.2 = fun k => G.2.1 + plc k) : ent G.2.2.2.1 G.2.2.2.2 (I0, J0) 18 = some (E5 G E 114) := (eq_114 hA).trans (congrArg some (E5_B (i := 17) rfl).symm)
theorem eq_115 {G : KG} (hA : G.2.2.2.2 = fun k => G.2.1 + plc k) : ent G.2.2.2.1 G.2.2.2.2 (I0, J0) 19 = some (.inl (G.2.2.2.1.1, (2, .inl (fun _ => iZ 0)))) := by
  rw [hA]
  rfl
theorem en_115 {G : KG} {E : Nat → va_E} (hA : G.2.2.2.2 = fun k => G.2.1 + plc k) : ent G.2.2.2.1 G.2.2.2.2 (I0, J0) 19 = some (E5 G E 115) := (eq_115 hA).trans (congrArg some (E5_B (i := 18) rfl).symm)
theorem eq_116 {G : KG} (hA : G.2.2.2.2 = fun k => G.2.1 + plc k) : ent G.2.2.2.1 G.2.2.2.2 (I0, J0) 20 = some (.inl (G.2.2.2.1.1, (2, .inl (fun _ => iZ 0)))) := by
  rw [hA]
  rfl
theorem en_116 {G : KG} {E : Nat → va_E} (hA : G.2.2.2.2 = fun k => G.2.1 + plc k) : ent G.2.2.2.1 G.2.2.2.2 (I0, J0) 20 = some (E5 G E 116) := (eq_116 hA).trans (congrArg some (E5_B (i := 19) rfl).symm)
theorem eq_117 {G : KG} (hA : G.2.2.2.2 = fun k => G.2.1 + plc k) : ent G.2.2.2.1 G.2.2.2.2 (I0, J0) 21 = some (.inl (G.2.2.2.1.1, (300, .inl (fun _ => iZ 0)))) := by
  rw [hA]
  rfl
theorem en_117 {G : KG} {E : Nat → va_E} (hA : G.2.2.2.2 = fun k => G.2.1 + plc k) : ent G.2.2.2.1 G.2.2.2.2 (I0, J0) 21 = some (E5 G E 117) := (eq_117 hA).trans (congrArg some (E5_B (i := 20) rfl).symm)
theorem eq_118 {G : KG} (hA : G.2.2.2.2 = fun k => G.2.1 + plc k) : ent G.2.2.2.1 G.2.2.2.2 (I0, J0) 50 = some (.inl (G.2.2.2.1.2.1, (1, .inr (.inl (fun _ => 0))))) := by
  rw [hA]
  rfl
theorem en_118 {G : KG} {E : Nat → va_E} (hA : G.2.2.2.2 = fun k => G.2.1 + plc k) : ent G.2.2.2.1 G.2.2.2.2 (I0, J0) 50 = some (E5 G E 118) := (eq_118 hA).trans (congrArg some (E5_118).symm)
