/-! ===== building: the cells at the start, one list ===== -/
def LA (G : KG) : List va_E := [.inr (10, oX10 G (1 + 1)), .inl (G.2.2.2.1.1, (800, .inl (fun _ => iZ 0))), .inr (9, oX9 G (3 + 1)), .inr (7, oX7 G (4 + 1)), .inl (G.2.2.2.1.1, (2, .inl (fun _ => iZ 0))), .inr (6, oX6 G (6 + 1)), .inl (G.2.2.2.1.1, (60, .inl (fun _ => iZ 0))), .inl (G.2.2.2.1.1, (60, .inl (fun _ => iZ 0))), .inl (G.2.2.2.1.1, (60, .inl (fun _ => iZ 0))), .inl (G.2.2.2.1.1, (60, .inl (fun _ => iZ 0))), .inr (2, oX2 G (11 + 1)), .inl (G.2.2.2.1.2.1, (14, .inr (.inl (fun _ => 0)))), .inl (G.2.2.2.1.1, (14, .inl (fun _ => iZ 0))), .inl (G.2.2.2.1.1, (40, .inl (fun _ => iZ 0))), .inl (G.2.2.2.1.1, (40, .inl (fun _ => iZ 0))), .inl (G.2.2.2.1.1, (40, .inl (fun _ => iZ 0))), .inr (2, oX2 G (17 + 1)), .inl (G.2.2.2.1.2.1, (14, .inr (.inl (fun _ => 0)))), .inl (G.2.2.2.1.1, (14, .inl (fun _ => iZ 0))), .inl (G.2.2.2.1.1, (40, .inl (fun _ => iZ 0))), .inl (G.2.2.2.1.1, (40, .inl (fun _ => iZ 0))), .inl (G.2.2.2.1.1, (40, .inl (fun _ => iZ 0))), .inr (2, oX2 G (23 + 1)), .inl (G.2.2.2.1.2.1, (14, .inr (.inl (fun _ => 0)))), .inl (G.2.2.2.1.1, (14, .inl (fun _ => iZ 0))), .inl (G.2.2.2.1.1, (40, .inl (fun _ => iZ 0))), .inl (G.2.2.2.1.1, (40, .inl (fun _ => iZ 0))), .inl (G.2.2.2.1.1, (40, .inl (fun _ => iZ 0))), .inr (8, oX8 G (29 + 1)), .inl (G.2.2.2.1.1, (14, .inl (fun _ => iZ 0))), .inl (G.2.2.2.1.1, (5, .inl (fun _ => iZ 0))), .inl (G.2.2.2.1.1, (70, .inl (fun _ => iZ 0))), .inl (G.2.2.2.1.1, (120, .inl (fun _ => iZ 0))), .inr (8, oX8 G (34 + 1)), .inl (G.2.2.2.1.1, (14, .inl (fun _ => iZ 0))), .inl (G.2.2.2.1.1, (5, .inl (fun _ => iZ 0))), .inl (G.2.2.2.1.1, (70, .inl (fun _ => iZ 0))), .inl (G.2.2.2.1.1, (120, .inl (fun _ => iZ 0))), .inr (8, oX8 G (39 + 1)), .inl (G.2.2.2.1.1, (14, .inl (fun _ => iZ 0))), .inl (G.2.2.2.1.1, (5, .inl (fun _ => iZ 0))), .inl (G.2.2.2.1.1, (70, .inl (fun _ => iZ 0))), .inl (G.2.2.2.1.1, (120, .inl (fun _ => iZ 0))), .inr (3, oX3 G (44 + 1)), aX3 G (44 + 1) 6, .inr (8, oX8 G (46 + 1)), .inl (G.2.2.2.1.1, (14, .inl (fun _ => iZ 0))), .inl (G.2.2.2.1.1, (5, .inl (fun _ => iZ 0))), .inl (G.2.2.2.1.1, (70, .inl (fun _ => iZ 0))), .inl (G.2.2.2.1.1, (120, .inl (fun _ => iZ 0))), .inr (8, oX8 G (51 + 1)), .inl (G.2.2.2.1.1, (14, .inl (fun _ => iZ 0))), .inl (G.2.2.2.1.1, (5, .inl (fun _ => iZ 0))), .inl (G.2.2.2.1.1, (70, .inl (fun _ => iZ 0))), .inl (G.2.2.2.1.1, (120, .inl (fun _ => iZ 0))), .inr (8, oX8 G (56 + 1)), .inl (G.2.2.2.1.1, (14, .inl (fun _ => iZ 0))), .inl (G.2.2.2.1.1, (5, .inl (fun _ => iZ 0))), .inl (G.2.2.2.1.1, (70, .inl (fun _ => iZ 0))), .inl (G.2.2.2.1.1, (120, .inl (fun _ => iZ 0))), .inr (8, oX8 G (61 + 1)), .inl (G.2.2.2.1.1, (14, .inl (fun _ => iZ 0))), .inl (G.2.2.2.1.1, (5, .inl (fun _ => iZ 0))), .inl (G.2.2.2.1.1, (70, .inl (fun _ => iZ 0))), .inl (G.2.2.2.1.1, (120, .inl (fun _ => iZ 0))), .inr (8, oX8 G (66 + 1)), .inl (G.2.2.2.1.1, (14, .inl (fun _ => iZ 0))), .inl (G.2.2.2.1.1, (5, .inl (fun _ => iZ 0))), .inl (G.2.2.2.1.1, (70, .inl (fun _ => iZ 0))), .inl (G.2.2.2.1.1, (120, .inl (fun _ => iZ 0))), .inr (8, oX8 G (71 + 1)), .inl (G.2.2.2.1.1, (14, .inl (fun _ => iZ 0))), .inl (G.2.2.2.1.1, (5, .inl (fun _ => iZ 0))), .inl (G.2.2.2.1.1, (70, .inl (fun _ => iZ 0))), .inl (G.2.2.2.1.1, (120, .inl (fun _ => iZ 0))), .inr (4, oX4 G (76 + 1)), .inl (G.2.2.2.1.1, (14, .inl (fun _ => iZ 0))), .inl (G.2.2.2.1.1, (14, .inl (fun _ => iZ 0))), .inl (G.2.2.2.1.1, (14, .inl (fun _ => iZ 0))), .inl (G.2.2.2.1.1, (4, .inl (fun _ => iZ 0))), .inl (G.2.2.2.1.1, (4, .inl (fun _ => iZ 0))), .inl (G.2.2.2.1.1, (56, .inl (fun _ => iZ 0))), .inr (5, oX5 G (83 + 1)), .inl (G.2.2.2.1.1, (196, .inl (fun _ => iZ 0))), .inl (G.2.2.2.1.1, (14, .inl (fun _ => iZ 0))), .inl (G.2.2.2.1.1, (14, .inl (fun _ => iZ 0))), .inr (0, oX0 G (87 + 1)), .inl (G.2.2.2.1.1, (7, .inl (fun _ => iZ 0))), .inl (G.2.2.2.1.1, (7, .inl (fun _ => iZ 0))), .inl (G.2.2.2.1.1, (4, .inl (fun _ => iZ 0))), .inr (1, oX1 G (91 + 1)), .inl (G.2.2.2.1.1, (196, .inl (fun _ => iZ 0))), .inl (G.2.2.2.1.1, (14, .inl (fun _ => iZ 0))), .inl (G.2.2.2.1.1, (14, .inl (fun _ => iZ 0))), .inl (G.2.2.2.1.1, (152, .inl (fun _ => iZ 0)))]
def LB (G : KG) : List va_E := [.inl (G.2.2.2.1.1, (800, .inl (fun _ => iZ 0))), .inl (G.2.2.2.1.1, (350, .inl sA2)), .inl (G.2.2.2.1.1, (350, .inl (fun _ => iZ 0))), .inl (G.2.2.2.1.1, (2100, .inl (fun _ => iZ 0))), .inl (G.2.2.2.1.1, (350, .inl (fun _ => iZ 0))), .inl (G.2.2.2.1.1, (350, .inl (fun _ => iZ 0))), .inl (G.2.2.2.1.2.1, (14, .inr (.inl (fun _ => 0)))), .inl (G.2.2.2.1.2.1, (14, .inr (.inl (fun _ => 0)))), .inl (G.2.2.2.1.2.1, (14, .inr (.inl (fun _ => 0)))), .inl (G.2.2.2.1.1, (14, .inl (fun _ => iZ 0))), .inl (G.2.2.2.1.1, (49, .inl (fun _ => iZ 0))), .inl (G.2.2.2.1.1, (7, .inl (fun _ => iZ 0))), .inl (G.2.2.2.1.1, (7, .inl (fun _ => iZ 0))), .inl (G.2.2.2.1.1, (7, .inl (fun _ => iZ 0))), .inl (G.2.2.2.1.1, (4, .inl (fun _ => iZ 0))), .inl (G.2.2.2.1.1, (60, .inl (fun _ => iZ 0))), .inl (G.2.2.2.1.1, (60, .inl (fun _ => iZ 0))), .inl (G.2.2.2.1.1, (60, .inl (fun _ => iZ 0))), .inl (G.2.2.2.1.1, (2, .inl (fun _ => iZ 0))), .inl (G.2.2.2.1.1, (2, .inl (fun _ => iZ 0))), .inl (G.2.2.2.1.1, (300, .inl (fun _ => iZ 0)))]
theorem fl11 (G : KG) : n11_16 G 1 = LA G := by
  simp only [n11_16, n11_15, n11_14, n11_13, n11_12, n11_11, n11_10, n11_9, n11_8, n11_7, n11_6, n11_5, n11_4, n11_3, n11_2, n11_1, n11_0, nX10, nX9, nX7, nX6, nX8, nX4, nX5, nX0, nX1, nX2, nX3, tX3, sX3, List.nil_append, List.cons_append, List.append_assoc]
  rfl
theorem fl12 (G : KG) : (n12_25 G 97).set 1 (.inl (G.2.2.2.1.1, (350, .inl sA2))) = LB G := by
  simp only [n12_25, n12_24, n12_23, n12_22, n12_21, n12_20, n12_19, n12_18, n12_17, n12_16, n12_15, n12_14, n12_13, n12_12, n12_11, n12_10, n12_9, n12_8, n12_7, n12_6, n12_5, n12_4, n12_3, n12_2, n12_1, n12_0, List.nil_append, List.cons_append, List.append_assoc]
  rfl
theorem LA_len (G : KG) : (LA G).length = 95 := rfl
theorem LB_len (G : KG) : (LB G).length = 21 := rfl
theorem E5_A {G : KG} {E : Nat → va_E} {i : Nat} {e : va_E} (h : (LA G)[i]? = some e) : E5 G E (1 + i) = e := by
  have hi : i < 95 := by have := (List.getElem?_eq_some_iff.mp h).1; rwa [LA_len] at this
  have h4 : E4 G E (1 + i) = E3 G E (1 + i) := by
    unfold E4 bld
    rw [if_neg (by omega), if_neg (by omega)]
  have h3 : E3 G E (1 + i) = E2 G E (1 + i) := by unfold E3 bup; rw [if_neg (by omega)]
  have h5 : E5 G E (1 + i) = E4 G E (1 + i) := by unfold E5 bup; rw [if_neg (by omega)]
  rw [h5, h4, h3]
  unfold E2
  exact bld_at (by decide) (by rw [fl11]; exact h)
theorem E5_B {G : KG} {E : Nat → va_E} {i : Nat} {e : va_E} (h : (LB G)[i]? = some e) : E5 G E (97 + i) = e := by
  have hi : i < 21 := by have := (List.getElem?_eq_some_iff.mp h).1; rwa [LB_len] at this
  have h5 : E5 G E (97 + i) = E4 G E (97 + i) := by unfold E5 bup; rw [if_neg (by omega)]
  rw [h5]
  unfold E4
  exact bld_at (by decide) (by rw [fl12]; exact h)
theorem E5_0 {G : KG} {E : Nat → va_E} : E5 G E 0 = .inr (11, o11_16 G 1) := by
  have h5 : E5 G E 0 = E4 G E 0 := by unfold E5 bup; rw [if_neg (by decide)]
  have h4 : E4 G E 0 = E3 G E 0 := by
    unfold E4 bld
    rw [if_neg (by decide), if_neg (by omega)]
  have h3 : E3 G E 0 = E2 G E 0 := by unfold E3 bup; rw [if_neg (by decide)]
  rw [h5, h4, h3]
  unfold E2
  exact bld_o
theorem E5_96 {G : KG} {E : Nat → va_E} : E5 G E 96 = .inr (12, o12_25 G 97) := by
  have h5 : E5 G E 96 = E4 G E 96 := by unfold E5 bup; rw [if_neg (by decide)]
  rw [h5]
  unfold E4
  exact bld_o
theorem E5_118 {G : KG} {E : Nat → va_E} : E5 G E 118 = .inl (G.2.2.2.1.2.1, (1, .inr (.inl (fun _ => 0)))) := by
  unfold E5 bup
  rw [if_pos rfl]
/-- the place of a key, the key of a place -/
def plcL : List Nat := [96, 97, 98, 99, 100, 101, 102, 103, 104, 105, 106, 107, 108, 109, 110, 111, 112, 113, 114, 115, 116, 117, 999, 999, 999, 999, 999, 999, 999, 999, 999, 999, 999, 999, 999, 999, 999, 999, 999, 999, 999, 999, 999, 999, 999, 999, 999, 999, 999, 999, 118, 999, 999, 999, 999, 999, 999, 999, 999, 999, 999, 999, 999, 999, 999, 999, 999, 999, 999, 999, 999, 999, 999, 999, 999, 999, 999, 999, 999, 999, 999, 999, 999, 999, 999, 999, 999, 999, 999, 999, 999, 999, 999, 999, 999, 999, 999, 999, 999, 999, 0, 1, 2, 3, 4, 5, 6, 7, 8, 9, 10, 44, 45, 76, 77, 78, 79, 80, 81, 82, 83, 84, 85, 86, 87, 88, 89, 90, 91, 92, 93, 94, 95, 999, 999, 999, 999, 999, 999, 999, 999, 999, 999, 999, 999, 999, 999, 999, 999, 999, 999, 999, 999, 999, 999, 999, 999, 999, 999, 999, 999, 999, 999, 999, 999, 999, 999, 999, 999, 999, 999, 999, 999, 999, 999, 999, 999, 999, 999, 999, 999, 999, 999, 999, 999, 999, 999, 999, 999, 999, 999, 999, 999, 999, 999, 999, 999, 999, 999, 999, 11, 12, 13, 14, 15, 16, 999, 999, 999, 999, 17, 18, 19, 20, 21, 22, 999, 999, 999, 999, 23, 24, 25, 26, 27, 28, 999, 999, 999, 999, 999, 999, 999, 999, 999, 999, 999, 999, 999, 999, 999, 999, 999, 999, 999, 999, 999, 999, 999, 999, 999, 999, 999, 999, 999, 999, 999, 999, 999, 999, 999, 999, 999, 999, 999, 999, 999, 999, 999, 999, 999, 999, 999, 999, 999, 999, 999, 999, 999, 999, 999, 999, 999, 999, 999, 999, 999, 999, 999, 999, 999, 999, 999, 999, 999, 999, 999, 999, 999, 999, 29, 30, 31, 32, 33, 999, 999, 999, 999, 999, 34, 35, 36, 37, 38, 999, 999, 999, 999, 999, 39, 40, 41, 42, 43, 999, 999, 999, 999, 999, 46, 47, 48, 49, 50, 999, 999, 999, 999, 999, 51, 52, 53, 54, 55, 999, 999, 999, 999, 999, 56, 57, 58, 59, 60, 999, 999, 999, 999, 999, 61, 62, 63, 64, 65, 999, 999, 999, 999, 999, 66, 67, 68, 69, 70, 999, 999, 999, 999, 999, 71, 72, 73, 74, 75, 999, 999, 999, 999, 999]
def plc (k : Nat) : Nat := plcL.getD k 999
def kycL : List Nat := [100, 101, 102, 103, 104, 105, 106, 107, 108, 109, 110, 200, 201, 202, 203, 204, 205, 210, 211, 212, 213, 214, 215, 220, 221, 222, 223, 224, 225, 300, 301, 302, 303, 304, 310, 311, 312, 313, 314, 320, 321, 322, 323, 324, 111, 112, 330, 331, 332, 333, 334, 340, 341, 342, 343, 344, 350, 351, 352, 353, 354, 360, 361, 362, 363, 364, 370, 371, 372, 373, 374, 380, 381, 382, 383, 384, 113, 114, 115, 116, 117, 118, 119, 120, 121, 122, 123, 124, 125, 126, 127, 128, 129, 130, 131, 132, 0, 1, 2, 3, 4, 5, 6, 7, 8, 9, 10, 11, 12, 13, 14, 15, 16, 17, 18, 19, 20, 21, 50]
theorem plc_ky : ∀ k, k < 390 → (shp k).isSome = true → plc k < 119 ∧ kycL.getD (plc k) 0 = k := by decide +kernel
theorem shp_lt {k : Nat} (h : shp k ≠ none) : k < 390 := by
  by_cases c : k < 390
  · exact c
  · exact absurd (by unfold shp; rw [if_neg (by omega), if_neg (by omega), if_neg (by omega), if_neg (by omega), if_neg c]) h
theorem plc_inj {k k' : Nat} (h : shp k ≠ none) (h' : shp k' ≠ none) (e : plc k = plc k') : k = k' := by
  rw [← (plc_ky k (shp_lt h) (Option.isSome_iff_ne_none.mpr h)).2, ← (plc_ky k' (shp_lt h') (Option.isSome_iff_ne_none.mpr h')).2, e]
theorem Kok_of {G : KG} (hA : G.2.2.2.2 = fun k => G.2.1 + plc k) : Kok G := by
  refine ⟨fun k k' h h' e => plc_inj h h' ?_, fun k _ => ?_⟩
  · show plc k = plc k'
    have e1 : G.2.2.2.2 k = G.2.2.2.2 k' := e
    rw [hA] at e1
    have e1 : G.2.1 + plc k = G.2.1 + plc k' := e1
    omega
  · show G.2.1 ≤ G.2.2.2.2 k
    rw [hA]
    show G.2.1 ≤ G.2.1 + plc k
    omega
