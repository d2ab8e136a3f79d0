theorem in_bX12 : ∀ w ∈ wsX120, w ∈ wsX12_init := by decide +kernel
theorem in_bX12L : ∀ w ∈ wsJx4a65c0, w ∈ wsX12_init := by decide +kernel
theorem bf_X12_7 : FLk wsX12_init RX12 7 15 1 := flk 15 1 rfl tyX12_ok nmX12 in_bX12 (by decide) (by decide +kernel)
theorem fpb_X12_1 : FPk 15 1 (.int) := fun C9 T9 N9 h => by
  have h : some (RX12, TX12, 13) = some (C9, T9, N9) := h
  cases h
  exact ⟨rfl, by decide +kernel⟩
theorem bf_X12_13 : FLk wsX12_init RX12 13 15 5 := flk 15 5 rfl tyX12_ok nmX12 in_bX12 (by decide) (by decide +kernel)
theorem fpb_X12_5 : FPk 15 5 (.array .int) := fun C9 T9 N9 h => by
  have h : some (RX12, TX12, 13) = some (C9, T9, N9) := h
  cases h
  exact ⟨rfl, by decide +kernel⟩
theorem bf_X12_17 : FLk wsX12_init RX12 17 15 6 := flk 15 6 rfl tyX12_ok nmX12 in_bX12 (by decide) (by decide +kernel)
theorem fpb_X12_6 : FPk 15 6 (.array .int) := fun C9 T9 N9 h => by
  have h : some (RX12, TX12, 13) = some (C9, T9, N9) := h
  cases h
  exact ⟨rfl, by decide +kernel⟩
theorem bf_X12_20 : FLk wsX12_init RX12 20 15 7 := flk 15 7 rfl tyX12_ok nmX12 in_bX12 (by decide) (by decide +kernel)
theorem fpb_X12_7 : FPk 15 7 (.array .int) := fun C9 T9 N9 h => by
  have h : some (RX12, TX12, 13) = some (C9, T9, N9) := h
  cases h
  exact ⟨rfl, by decide +kernel⟩
theorem bf_X12_23 : FLk wsX12_init RX12 23 15 8 := flk 15 8 rfl tyX12_ok nmX12 in_bX12 (by decide) (by decide +kernel)
theorem fpb_X12_8 : FPk 15 8 (.array .int) := fun C9 T9 N9 h => by
  have h : some (RX12, TX12, 13) = some (C9, T9, N9) := h
  cases h
  exact ⟨rfl, by decide +kernel⟩
theorem bf_X12_28 : FLk wsX12_init RX12 28 15 9 := flk 15 9 rfl tyX12_ok nmX12 in_bX12 (by decide) (by decide +kernel)
theorem fpb_X12_9 : FPk 15 9 (.array (.array .int)) := fun C9 T9 N9 h => by
  have h : some (RX12, TX12, 13) = some (C9, T9, N9) := h
  cases h
  exact ⟨rfl, by decide +kernel⟩
theorem bf_X12_34 : FLk wsX12_init RX12 34 15 10 := flk 15 10 rfl tyX12_ok nmX12 in_bX12 (by decide) (by decide +kernel)
theorem fpb_X12_10 : FPk 15 10 (.object "java/util/List") := fun C9 T9 N9 h => by
  have h : some (RX12, TX12, 13) = some (C9, T9, N9) := h
  cases h
  exact ⟨rfl, by decide +kernel⟩
theorem bf_X12_38 : FLk wsX12_init RX12 38 15 11 := flk 15 11 rfl tyX12_ok nmX12 in_bX12 (by decide) (by decide +kernel)
theorem fpb_X12_11 : FPk 15 11 (.object "java/util/List") := fun C9 T9 N9 h => by
  have h : some (RX12, TX12, 13) = some (C9, T9, N9) := h
  cases h
  exact ⟨rfl, by decide +kernel⟩
theorem bf_X12_43 : FLk wsX12_init RX12 43 15 12 := flk 15 12 rfl tyX12_ok nmX12 in_bX12 (by decide) (by decide +kernel)
theorem fpb_X12_12 : FPk 15 12 (.object "java/lang/String") := fun C9 T9 N9 h => by
  have h : some (RX12, TX12, 13) = some (C9, T9, N9) := h
  cases h
  exact ⟨rfl, by decide +kernel⟩
def zX12 : List Value := [.int 0, .int 0, .int 0, .int 0, .int 0, .null, .null, .null, .null, .null, .null, .null, .null]
theorem hfAL : ∀ j, j < 3 → defaultValue (tyJx4a65c j) = vp_V zAL j := by
  intro j hj
  have : j = 0 ∨ j = 1 ∨ j = 2 := by omega
  rcases this with rfl | rfl | rfl <;> rfl
def rbX12 : Room := { frames := 4, cells := 21, slots := 400, locals := 90 }
def oX12 (G : KG) (n : Nat) : List Value := [.int 0, .int (iZ 2), .int 0, .int 0, .int 0, .ref (G.2.1 + (n + 0)), .ref (G.2.1 + (n + 1)), .ref (G.2.1 + (n + 2)), .ref (G.2.1 + (n + 3)), .ref (G.2.1 + (n + 4)), .ref (G.2.1 + (n + 19)), .ref (G.2.1 + (n + 20)), .ref (kadr G 918)]
def rwE (G : KG) (z : Nat) : va_E := .inl (G.2.2.2.1.1, (z, .inl (fun _ => iZ 0)))
def nX12 (G : KG) (n : Nat) : List va_E := [rwE G 14, rwE G 14, rwE G 40, rwE G 40] ++ tabL G (n + 4) ++ [.inr (2, oAL G)] ++ [] ++ [.inr (2, oAL G)] ++ []
theorem c_X12 {G : KG} (hW : KWx G) {o n : Nat} {E : Nat → va_E} (h : E o = .inr (15, zX12)) (ho : o < n) : CtrB G yX12_init wsX12_init rbX12 [.ref (G.2.1 + o)] n E (n + 21) (bld E o (15, oX12 G n) n (nX12 G n)) := by
  refine CtrB.of (cc := cX12_init) (nL := 1) (ret := none) [some (.ref (G.2.1 + o))] (by decide +kernel) rfl rfl (Nat.le_of_ble_eq_true rfl) (Nat.le_of_ble_eq_true rfl) (by rintro q (_ | ⟨_, _ | ⟨⟩⟩); exact List.Mem.head _) (fun X hX C => ?_)
  refine wb_aload_n C (j := 0) rfl rfl dX12_init_0 ?_
  refine wb_obj C (by decide +kernel) (by decide +kernel) (by decide +kernel) (by rw [hX]; exact ⟨by decide, by decide⟩) dX12_init_1 ?_
  refine wl_start h ?_
  refine wb_aload_n C (j := 0) rfl rfl dX12_init_4 ?_
  refine wb_iconst C dX12_init_5 ?_
  refine wl_put C (k := 0) bf_X12_7 fpb_X12_1 ho rfl rfl (Nat.le_of_ble_eq_true rfl) dX12_init_6 ?_
  refine wb_aload_n C (j := 0) rfl rfl dX12_init_9 ?_
  refine wb_bipush C rfl dX12_init_10 ?_
  refine wl_newI C (k := 0) (N := 14) (a' := 20) (b' := 386) ho rfl rfl (by decide) (by decide +kernel) dX12_init_12 rfl rfl ?_
  refine wl_put C (k := 1) bf_X12_13 fpb_X12_5 ho rfl rfl (Nat.le_of_ble_eq_true rfl) dX12_init_14 ?_
  refine wb_aload_n C (j := 0) rfl rfl dX12_init_17 ?_
  refine wb_bipush C rfl dX12_init_18 ?_
  refine wl_newI C (k := 1) (N := 14) (a' := 19) (b' := 372) ho rfl rfl (by decide) (by decide +kernel) dX12_init_20 rfl rfl ?_
  refine wl_put C (k := 2) bf_X12_17 fpb_X12_6 ho rfl rfl (Nat.le_of_ble_eq_true rfl) dX12_init_22 ?_
  refine wb_aload_n C (j := 0) rfl rfl dX12_init_25 ?_
  refine wb_bipush C rfl dX12_init_26 ?_
  refine wl_newI C (k := 2) (N := 40) (a' := 18) (b' := 332) ho rfl rfl (by decide) (by decide +kernel) dX12_init_28 rfl rfl ?_
  refine wl_put C (k := 3) bf_X12_20 fpb_X12_7 ho rfl rfl (Nat.le_of_ble_eq_true rfl) dX12_init_30 ?_
  refine wb_aload_n C (j := 0) rfl rfl dX12_init_33 ?_
  refine wb_bipush C rfl dX12_init_34 ?_
  refine wl_newI C (k := 3) (N := 40) (a' := 17) (b' := 292) ho rfl rfl (by decide) (by decide +kernel) dX12_init_36 rfl rfl ?_
  refine wl_put C (k := 4) bf_X12_23 fpb_X12_8 ho rfl rfl (Nat.le_of_ble_eq_true rfl) dX12_init_38 ?_
  refine wb_aload_n C (j := 0) rfl rfl dX12_init_41 ?_
  refine wb_bipush C rfl dX12_init_42 ?_
  refine wb_bipush C rfl dX12_init_44 ?_
  refine wl_mna C hW (k := 4) (a' := 2) (b' := 82) ho rfl (by decide +kernel) (by decide +kernel) dX12_init_46 rfl rfl ?_
  refine wl_put C (k := 19) bf_X12_28 fpb_X12_9 ho rfl rfl (Nat.le_of_ble_eq_true rfl) dX12_init_50 ?_
  refine wb_aload_n C (j := 0) rfl rfl dX12_init_53 ?_
  refine wl_newO C (k := 19) (ci := 2) (Cn := RJx4a65c) (T := TJx4a65c) (N := 3) (fs := zAL) (a' := 1) (b' := 79) ho rfl tyJx4a65c rfl in_bX12L tyJx4a65c_ok (by decide +kernel) (by decide +kernel) (by decide +kernel) hfAL dX12_init_54 rfl rfl ?_
  refine wb_dup C dX12_init_57 ?_
  refine wl_init C (k := 19) (K := 0) (z := (2, zAL)) (y' := (2, oAL G)) (news := []) (a' := 1) (b' := 79) ho rfl (c_JR hW (bld_at ho rfl) (by omega)) gX12_init_Jx4a65c_init_da8c8 (by decide +kernel) (by decide +kernel) (by decide +kernel) rfl rfl (by decide) (by rw [hX]; exact ⟨by decide, by decide⟩) (Nat.le_of_ble_eq_true rfl) (by show 0 + _ = _; omega) (by show 0 + _ = _; omega) dX12_init_58 ?_
  refine wl_put C (k := 20) bf_X12_34 fpb_X12_10 ho rfl rfl (Nat.le_of_ble_eq_true rfl) dX12_init_61 ?_
  refine wb_aload_n C (j := 0) rfl rfl dX12_init_64 ?_
  refine wl_newO C (k := 20) (ci := 2) (Cn := RJx4a65c) (T := TJx4a65c) (N := 3) (fs := zAL) (a' := 0) (b' := 76) ho rfl tyJx4a65c rfl in_bX12L tyJx4a65c_ok (by decide +kernel) (by decide +kernel) (by decide +kernel) hfAL dX12_init_65 rfl rfl ?_
  refine wb_dup C dX12_init_68 ?_
  refine wl_init C (k := 20) (K := 0) (z := (2, zAL)) (y' := (2, oAL G)) (news := []) (a' := 0) (b' := 76) ho rfl (c_JR hW (bld_at ho rfl) (by omega)) gX12_init_Jx4a65c_init_da8c8 (by decide +kernel) (by decide +kernel) (by decide +kernel) rfl rfl (by decide) (by rw [hX]; exact ⟨by decide, by decide⟩) (Nat.le_of_ble_eq_true rfl) (by show 0 + _ = _; omega) (by show 0 + _ = _; omega) dX12_init_69 ?_
  refine wl_put C (k := 21) bf_X12_38 fpb_X12_11 ho rfl rfl (Nat.le_of_ble_eq_true rfl) dX12_init_72 ?_
  refine wb_aload_n C (j := 0) rfl rfl dX12_init_75 ?_
  refine wb_ldcS C hW (tx := "") (q := 918) (by decide +kernel) dX12_init_76 ?_
  refine wl_put C (k := 21) bf_X12_43 fpb_X12_12 ho rfl rfl (Nat.le_of_ble_eq_true rfl) dX12_init_78 ?_
  exact wb_vret C dX12_init_81
