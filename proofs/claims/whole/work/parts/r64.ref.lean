/-! ===== building: the reference's object ===== -/
theorem in_bX12 : ∀ w ∈ wsX120, w ∈ wsX12_init := by decide +kernel
theorem bf_X12_7 : FLk wsX12_init RX12 7 12 1 := flk 12 1 rfl tyX12_ok nmX12 in_bX12 (by decide) (by decide +kernel)
theorem fqb_X12_1 : FQk 12 1 RX12 (.array .int) := fun C9 T9 N9 h => by
  have h : some (RX12, TX12, 48) = some (C9, T9, N9) := h
  cases h
  exact ⟨rfl, rfl, by decide +kernel⟩
theorem bf_X12_13 : FLk wsX12_init RX12 13 12 9 := flk 12 9 rfl tyX12_ok nmX12 in_bX12 (by decide) (by decide +kernel)
theorem fpb_X12_9 : FPk 12 9 (.int) := fun C9 T9 N9 h => by
  have h : some (RX12, TX12, 48) = some (C9, T9, N9) := h
  cases h
  exact ⟨rfl, by decide +kernel⟩
theorem bf_X12_17 : FLk wsX12_init RX12 17 12 10 := flk 12 10 rfl tyX12_ok nmX12 in_bX12 (by decide) (by decide +kernel)
theorem fpb_X12_10 : FPk 12 10 (.int) := fun C9 T9 N9 h => by
  have h : some (RX12, TX12, 48) = some (C9, T9, N9) := h
  cases h
  exact ⟨rfl, by decide +kernel⟩
theorem bf_X12_20 : FLk wsX12_init RX12 20 12 12 := flk 12 12 rfl tyX12_ok nmX12 in_bX12 (by decide) (by decide +kernel)
theorem fpb_X12_12 : FPk 12 12 (.int) := fun C9 T9 N9 h => by
  have h : some (RX12, TX12, 48) = some (C9, T9, N9) := h
  cases h
  exact ⟨rfl, by decide +kernel⟩
theorem bf_X12_23 : FLk wsX12_init RX12 23 12 13 := flk 12 13 rfl tyX12_ok nmX12 in_bX12 (by decide) (by decide +kernel)
theorem fpb_X12_13 : FPk 12 13 (.int) := fun C9 T9 N9 h => by
  have h : some (RX12, TX12, 48) = some (C9, T9, N9) := h
  cases h
  exact ⟨rfl, by decide +kernel⟩
theorem bf_X12_26 : FLk wsX12_init RX12 26 12 15 := flk 12 15 rfl tyX12_ok nmX12 in_bX12 (by decide) (by decide +kernel)
theorem fqb_X12_15 : FQk 12 15 RX12 (.array .int) := fun C9 T9 N9 h => by
  have h : some (RX12, TX12, 48) = some (C9, T9, N9) := h
  cases h
  exact ⟨rfl, rfl, by decide +kernel⟩
theorem bf_X12_29 : FLk wsX12_init RX12 29 12 16 := flk 12 16 rfl tyX12_ok nmX12 in_bX12 (by decide) (by decide +kernel)
theorem fqb_X12_16 : FQk 12 16 RX12 (.array .int) := fun C9 T9 N9 h => by
  have h : some (RX12, TX12, 48) = some (C9, T9, N9) := h
  cases h
  exact ⟨rfl, rfl, by decide +kernel⟩
theorem bf_X12_32 : FLk wsX12_init RX12 32 12 17 := flk 12 17 rfl tyX12_ok nmX12 in_bX12 (by decide) (by decide +kernel)
theorem fqb_X12_17 : FQk 12 17 RX12 (.array .int) := fun C9 T9 N9 h => by
  have h : some (RX12, TX12, 48) = some (C9, T9, N9) := h
  cases h
  exact ⟨rfl, rfl, by decide +kernel⟩
theorem bf_X12_35 : FLk wsX12_init RX12 35 12 18 := flk 12 18 rfl tyX12_ok nmX12 in_bX12 (by decide) (by decide +kernel)
theorem fqb_X12_18 : FQk 12 18 RX12 (.array .int) := fun C9 T9 N9 h => by
  have h : some (RX12, TX12, 48) = some (C9, T9, N9) := h
  cases h
  exact ⟨rfl, rfl, by decide +kernel⟩
theorem bf_X12_38 : FLk wsX12_init RX12 38 12 19 := flk 12 19 rfl tyX12_ok nmX12 in_bX12 (by decide) (by decide +kernel)
theorem fqb_X12_19 : FQk 12 19 RX12 (.array .int) := fun C9 T9 N9 h => by
  have h : some (RX12, TX12, 48) = some (C9, T9, N9) := h
  cases h
  exact ⟨rfl, rfl, by decide +kernel⟩
theorem bf_X12_41 : FLk wsX12_init RX12 41 12 20 := flk 12 20 rfl tyX12_ok nmX12 in_bX12 (by decide) (by decide +kernel)
theorem fqb_X12_20 : FQk 12 20 RX12 (.array .long) := fun C9 T9 N9 h => by
  have h : some (RX12, TX12, 48) = some (C9, T9, N9) := h
  cases h
  exact ⟨rfl, rfl, by decide +kernel⟩
theorem bf_X12_45 : FLk wsX12_init RX12 45 12 21 := flk 12 21 rfl tyX12_ok nmX12 in_bX12 (by decide) (by decide +kernel)
theorem fqb_X12_21 : FQk 12 21 RX12 (.array .long) := fun C9 T9 N9 h => by
  have h : some (RX12, TX12, 48) = some (C9, T9, N9) := h
  cases h
  exact ⟨rfl, rfl, by decide +kernel⟩
theorem bf_X12_48 : FLk wsX12_init RX12 48 12 22 := flk 12 22 rfl tyX12_ok nmX12 in_bX12 (by decide) (by decide +kernel)
theorem fqb_X12_22 : FQk 12 22 RX12 (.array .long) := fun C9 T9 N9 h => by
  have h : some (RX12, TX12, 48) = some (C9, T9, N9) := h
  cases h
  exact ⟨rfl, rfl, by decide +kernel⟩
theorem bf_X12_51 : FLk wsX12_init RX12 51 12 28 := flk 12 28 rfl tyX12_ok nmX12 in_bX12 (by decide) (by decide +kernel)
theorem fqb_X12_28 : FQk 12 28 RX12 (.array .int) := fun C9 T9 N9 h => by
  have h : some (RX12, TX12, 48) = some (C9, T9, N9) := h
  cases h
  exact ⟨rfl, rfl, by decide +kernel⟩
theorem bf_X12_54 : FLk wsX12_init RX12 54 12 29 := flk 12 29 rfl tyX12_ok nmX12 in_bX12 (by decide) (by decide +kernel)
theorem fqb_X12_29 : FQk 12 29 RX12 (.array .int) := fun C9 T9 N9 h => by
  have h : some (RX12, TX12, 48) = some (C9, T9, N9) := h
  cases h
  exact ⟨rfl, rfl, by decide +kernel⟩
theorem bf_X12_57 : FLk wsX12_init RX12 57 12 30 := flk 12 30 rfl tyX12_ok nmX12 in_bX12 (by decide) (by decide +kernel)
theorem fqb_X12_30 : FQk 12 30 RX12 (.array .int) := fun C9 T9 N9 h => by
  have h : some (RX12, TX12, 48) = some (C9, T9, N9) := h
  cases h
  exact ⟨rfl, rfl, by decide +kernel⟩
theorem bf_X12_60 : FLk wsX12_init RX12 60 12 31 := flk 12 31 rfl tyX12_ok nmX12 in_bX12 (by decide) (by decide +kernel)
theorem fqb_X12_31 : FQk 12 31 RX12 (.array .int) := fun C9 T9 N9 h => by
  have h : some (RX12, TX12, 48) = some (C9, T9, N9) := h
  cases h
  exact ⟨rfl, rfl, by decide +kernel⟩
theorem bf_X12_63 : FLk wsX12_init RX12 63 12 32 := flk 12 32 rfl tyX12_ok nmX12 in_bX12 (by decide) (by decide +kernel)
theorem fqb_X12_32 : FQk 12 32 RX12 (.array .int) := fun C9 T9 N9 h => by
  have h : some (RX12, TX12, 48) = some (C9, T9, N9) := h
  cases h
  exact ⟨rfl, rfl, by decide +kernel⟩
theorem bf_X12_66 : FLk wsX12_init RX12 66 12 33 := flk 12 33 rfl tyX12_ok nmX12 in_bX12 (by decide) (by decide +kernel)
theorem fqb_X12_33 : FQk 12 33 RX12 (.array .int) := fun C9 T9 N9 h => by
  have h : some (RX12, TX12, 48) = some (C9, T9, N9) := h
  cases h
  exact ⟨rfl, rfl, by decide +kernel⟩
theorem bf_X12_69 : FLk wsX12_init RX12 69 12 36 := flk 12 36 rfl tyX12_ok nmX12 in_bX12 (by decide) (by decide +kernel)
theorem fqb_X12_36 : FQk 12 36 RX12 (.array .int) := fun C9 T9 N9 h => by
  have h : some (RX12, TX12, 48) = some (C9, T9, N9) := h
  cases h
  exact ⟨rfl, rfl, by decide +kernel⟩
theorem bf_X12_72 : FLk wsX12_init RX12 72 12 37 := flk 12 37 rfl tyX12_ok nmX12 in_bX12 (by decide) (by decide +kernel)
theorem fqb_X12_37 : FQk 12 37 RX12 (.array .int) := fun C9 T9 N9 h => by
  have h : some (RX12, TX12, 48) = some (C9, T9, N9) := h
  cases h
  exact ⟨rfl, rfl, by decide +kernel⟩
theorem bf_X12_75 : FLk wsX12_init RX12 75 12 38 := flk 12 38 rfl tyX12_ok nmX12 in_bX12 (by decide) (by decide +kernel)
theorem fqb_X12_38 : FQk 12 38 RX12 (.array .int) := fun C9 T9 N9 h => by
  have h : some (RX12, TX12, 48) = some (C9, T9, N9) := h
  cases h
  exact ⟨rfl, rfl, by decide +kernel⟩
theorem bf_X12_78 : FLk wsX12_init RX12 78 12 39 := flk 12 39 rfl tyX12_ok nmX12 in_bX12 (by decide) (by decide +kernel)
theorem fqb_X12_39 : FQk 12 39 RX12 (.array .int) := fun C9 T9 N9 h => by
  have h : some (RX12, TX12, 48) = some (C9, T9, N9) := h
  cases h
  exact ⟨rfl, rfl, by decide +kernel⟩
theorem bf_X12_81 : FLk wsX12_init RX12 81 12 40 := flk 12 40 rfl tyX12_ok nmX12 in_bX12 (by decide) (by decide +kernel)
theorem fqb_X12_40 : FQk 12 40 RX12 (.array .int) := fun C9 T9 N9 h => by
  have h : some (RX12, TX12, 48) = some (C9, T9, N9) := h
  cases h
  exact ⟨rfl, rfl, by decide +kernel⟩
theorem bf_X12_84 : FLk wsX12_init RX12 84 12 45 := flk 12 45 rfl tyX12_ok nmX12 in_bX12 (by decide) (by decide +kernel)
theorem fqb_X12_45 : FQk 12 45 RX12 (.array .int) := fun C9 T9 N9 h => by
  have h : some (RX12, TX12, 48) = some (C9, T9, N9) := h
  cases h
  exact ⟨rfl, rfl, by decide +kernel⟩
def zX12 : List Value := [.int 0, .null, .int 0, .int 0, .int 0, .int 0, .int 0, .int 0, .int 0, .int 0, .int 0, .int 0, .int 0, .int 0, .long 0, .null, .null, .null, .null, .null, .null, .null, .null, .int 0, .int 0, .int 0, .int 0, .int 0, .null, .null, .null, .null, .null, .null, .int 0, .int 0, .null, .null, .null, .null, .null, .int 0, .int 0, .int 0, .int 0, .null, .int 0, .int 0]
def rbX12 : Room := { frames := 2, cells := 21, slots := 4914, locals := 41 }
def o12_0 (G : KG) (n : Nat) : List Value := zX12
def n12_0 (G : KG) (n : Nat) : List va_E := []
theorem l12_0 (G : KG) (n : Nat) : (n12_0 G n).length = 0 := rfl
def o12_1 (G : KG) (n : Nat) : List Value := [.int 0, .ref (G.2.1 + (n + 0)), .int 0, .int 0, .int 0, .int 0, .int 0, .int 0, .int 0, .int 0, .int 0, .int 0, .int 0, .int 0, .long 0, .null, .null, .null, .null, .null, .null, .null, .null, .int 0, .int 0, .int 0, .int 0, .int 0, .null, .null, .null, .null, .null, .null, .int 0, .int 0, .null, .null, .null, .null, .null, .int 0, .int 0, .int 0, .int 0, .null, .int 0, .int 0]
def n12_1 (G : KG) (n : Nat) : List va_E := n12_0 G n ++ [.inl (G.2.2.2.1.1, (800, .inl (fun _ => iZ 0)))]
theorem l12_1 (G : KG) (n : Nat) : (n12_1 G n).length = 1 := by
  unfold n12_1
  rw [List.length_append, l12_0]
  rfl
theorem s12_0 {G : KG} {X : KX} {Qs : State → Prop} {o n a b : Nat} {E : Nat → va_E} (C : FrB G X cX12_init 1 RX12 none wsX12_init true) (ho : o < n) (k : Wb G X 1 Qs a b 13 [some (.ref (G.2.1 + o))] [] (n + 1) (bld E o (12, o12_1 G n) n (n12_1 G n))) : Wb G X 1 Qs (1 + a) (800 + b) 4 [some (.ref (G.2.1 + o))] [] (n + 0) (bld E o (12, o12_0 G n) n (n12_0 G n)) := by
  refine wb_aload_n C (j := 0) rfl rfl dX12_init_4 ?_
  refine wb_sipush C rfl dX12_init_5 ?_
  refine wl_newI C (k := 0) (N := 800) (a' := a) (b' := b) ho (l12_0 G n) rfl (by decide) (by decide +kernel) dX12_init_8 rfl rfl ?_
  refine wl_putF C (k := 1) bf_X12_7 fqb_X12_1 ho rfl rfl (Nat.le_of_ble_eq_true rfl) dX12_init_10 ?_
  exact k
def o12_2 (G : KG) (n : Nat) : List Value := [.int 0, .ref (G.2.1 + (n + 0)), .int 0, .int 0, .int 0, .int 0, .int 0, .int 0, .int 0, .int (iZ (-1)), .int 0, .int 0, .int 0, .int 0, .long 0, .null, .null, .null, .null, .null, .null, .null, .null, .int 0, .int 0, .int 0, .int 0, .int 0, .null, .null, .null, .null, .null, .null, .int 0, .int 0, .null, .null, .null, .null, .null, .int 0, .int 0, .int 0, .int 0, .null, .int 0, .int 0]
def n12_2 (G : KG) (n : Nat) : List va_E := n12_1 G n
theorem l12_2 (G : KG) (n : Nat) : (n12_2 G n).length = 1 := by
  unfold n12_2
  rw [l12_1]
theorem s12_1 {G : KG} {X : KX} {Qs : State → Prop} {o n a b : Nat} {E : Nat → va_E} (C : FrB G X cX12_init 1 RX12 none wsX12_init true) (ho : o < n) (k : Wb G X 1 Qs a b 18 [some (.ref (G.2.1 + o))] [] (n + 1) (bld E o (12, o12_2 G n) n (n12_2 G n))) : Wb G X 1 Qs a b 13 [some (.ref (G.2.1 + o))] [] (n + 1) (bld E o (12, o12_1 G n) n (n12_1 G n)) := by
  refine wb_aload_n C (j := 0) rfl rfl dX12_init_13 ?_
  refine wb_iconst C dX12_init_14 ?_
  refine wl_put C (k := 1) bf_X12_13 fpb_X12_9 ho rfl rfl (Nat.le_of_ble_eq_true rfl) dX12_init_15 ?_
  exact k
def o12_3 (G : KG) (n : Nat) : List Value := [.int 0, .ref (G.2.1 + (n + 0)), .int 0, .int 0, .int 0, .int 0, .int 0, .int 0, .int 0, .int (iZ (-1)), .int (iZ (-1)), .int 0, .int 0, .int 0, .long 0, .null, .null, .null, .null, .null, .null, .null, .null, .int 0, .int 0, .int 0, .int 0, .int 0, .null, .null, .null, .null, .null, .null, .int 0, .int 0, .null, .null, .null, .null, .null, .int 0, .int 0, .int 0, .int 0, .null, .int 0, .int 0]
def n12_3 (G : KG) (n : Nat) : List va_E := n12_2 G n
theorem l12_3 (G : KG) (n : Nat) : (n12_3 G n).length = 1 := by
  unfold n12_3
  rw [l12_2]
theorem s12_2 {G : KG} {X : KX} {Qs : State → Prop} {o n a b : Nat} {E : Nat → va_E} (C : FrB G X cX12_init 1 RX12 none wsX12_init true) (ho : o < n) (k : Wb G X 1 Qs a b 23 [some (.ref (G.2.1 + o))] [] (n + 1) (bld E o (12, o12_3 G n) n (n12_3 G n))) : Wb G X 1 Qs a b 18 [some (.ref (G.2.1 + o))] [] (n + 1) (bld E o (12, o12_2 G n) n (n12_2 G n)) := by
  refine wb_aload_n C (j := 0) rfl rfl dX12_init_18 ?_
  refine wb_iconst C dX12_init_19 ?_
  refine wl_put C (k := 1) bf_X12_17 fpb_X12_10 ho rfl rfl (Nat.le_of_ble_eq_true rfl) dX12_init_20 ?_
  exact k
def o12_4 (G : KG) (n : Nat) : List Value := [.int 0, .ref (G.2.1 + (n + 0)), .int 0, .int 0, .int 0, .int 0, .int 0, .int 0, .int 0, .int (iZ (-1)), .int (iZ (-1)), .int 0, .int (iZ (-1)), .int 0, .long 0, .null, .null, .null, .null, .null, .null, .null, .null, .int 0, .int 0, .int 0, .int 0, .int 0, .null, .null, .null, .null, .null, .null, .int 0, .int 0, .null, .null, .null, .null, .null, .int 0, .int 0, .int 0, .int 0, .null, .int 0, .int 0]
def n12_4 (G : KG) (n : Nat) : List va_E := n12_3 G n
theorem l12_4 (G : KG) (n : Nat) : (n12_4 G n).length = 1 := by
  unfold n12_4
  rw [l12_3]
theorem s12_3 {G : KG} {X : KX} {Qs : State → Prop} {o n a b : Nat} {E : Nat → va_E} (C : FrB G X cX12_init 1 RX12 none wsX12_init true) (ho : o < n) (k : Wb G X 1 Qs a b 28 [some (.ref (G.2.1 + o))] [] (n + 1) (bld E o (12, o12_4 G n) n (n12_4 G n))) : Wb G X 1 Qs a b 23 [some (.ref (G.2.1 + o))] [] (n + 1) (bld E o (12, o12_3 G n) n (n12_3 G n)) := by
  refine wb_aload_n C (j := 0) rfl rfl dX12_init_23 ?_
  refine wb_iconst C dX12_init_24 ?_
  refine wl_put C (k := 1) bf_X12_20 fpb_X12_12 ho rfl rfl (Nat.le_of_ble_eq_true rfl) dX12_init_25 ?_
  exact k
def o12_5 (G : KG) (n : Nat) : List Value := [.int 0, .ref (G.2.1 + (n + 0)), .int 0, .int 0, .int 0, .int 0, .int 0, .int 0, .int 0, .int (iZ (-1)), .int (iZ (-1)), .int 0, .int (iZ (-1)), .int (iZ (-1)), .long 0, .null, .null, .null, .null, .null, .null, .null, .null, .int 0, .int 0, .int 0, .int 0, .int 0, .null, .null, .null, .null, .null, .null, .int 0, .int 0, .null, .null, .null, .null, .null, .int 0, .int 0, .int 0, .int 0, .null, .int 0, .int 0]
def n12_5 (G : KG) (n : Nat) : List va_E := n12_4 G n
theorem l12_5 (G : KG) (n : Nat) : (n12_5 G n).length = 1 := by
  unfold n12_5
  rw [l12_4]
theorem s12_4 {G : KG} {X : KX} {Qs : State → Prop} {o n a b : Nat} {E : Nat → va_E} (C : FrB G X cX12_init 1 RX12 none wsX12_init true) (ho : o < n) (k : Wb G X 1 Qs a b 33 [some (.ref (G.2.1 + o))] [] (n + 1) (bld E o (12, o12_5 G n) n (n12_5 G n))) : Wb G X 1 Qs a b 28 [some (.ref (G.2.1 + o))] [] (n + 1) (bld E o (12, o12_4 G n) n (n12_4 G n)) := by
  refine wb_aload_n C (j := 0) rfl rfl dX12_init_28 ?_
  refine wb_iconst C dX12_init_29 ?_
  refine wl_put C (k := 1) bf_X12_23 fpb_X12_13 ho rfl rfl (Nat.le_of_ble_eq_true rfl) dX12_init_30 ?_
  exact k
def o12_6 (G : KG) (n : Nat) : List Value := [.int 0, .ref (G.2.1 + (n + 0)), .int 0, .int 0, .int 0, .int 0, .int 0, .int 0, .int 0, .int (iZ (-1)), .int (iZ (-1)), .int 0, .int (iZ (-1)), .int (iZ (-1)), .long 0, .ref (G.2.1 + (n + 1)), .null, .null, .null, .null, .null, .null, .null, .int 0, .int 0, .int 0, .int 0, .int 0, .null, .null, .null, .null, .null, .null, .int 0, .int 0, .null, .null, .null, .null, .null, .int 0, .int 0, .int 0, .int 0, .null, .int 0, .int 0]
def n12_6 (G : KG) (n : Nat) : List va_E := n12_5 G n ++ [.inl (G.2.2.2.1.1, (350, .inl (fun _ => iZ 0)))]
theorem l12_6 (G : KG) (n : Nat) : (n12_6 G n).length = 2 := by
  unfold n12_6
  rw [List.length_append, l12_5]
  rfl
theorem s12_5 {G : KG} {X : KX} {Qs : State → Prop} {o n a b : Nat} {E : Nat → va_E} (C : FrB G X cX12_init 1 RX12 none wsX12_init true) (ho : o < n) (k : Wb G X 1 Qs a b 42 [some (.ref (G.2.1 + o))] [] (n + 2) (bld E o (12, o12_6 G n) n (n12_6 G n))) : Wb G X 1 Qs (1 + a) (350 + b) 33 [some (.ref (G.2.1 + o))] [] (n + 1) (bld E o (12, o12_5 G n) n (n12_5 G n)) := by
  refine wb_aload_n C (j := 0) rfl rfl dX12_init_33 ?_
  refine wb_sipush C rfl dX12_init_34 ?_
  refine wl_newI C (k := 1) (N := 350) (a' := a) (b' := b) ho (l12_5 G n) rfl (by decide) (by decide +kernel) dX12_init_37 rfl rfl ?_
  refine wl_putF C (k := 2) bf_X12_26 fqb_X12_15 ho rfl rfl (Nat.le_of_ble_eq_true rfl) dX12_init_39 ?_
  exact k
def o12_7 (G : KG) (n : Nat) : List Value := [.int 0, .ref (G.2.1 + (n + 0)), .int 0, .int 0, .int 0, .int 0, .int 0, .int 0, .int 0, .int (iZ (-1)), .int (iZ (-1)), .int 0, .int (iZ (-1)), .int (iZ (-1)), .long 0, .ref (G.2.1 + (n + 1)), .ref (G.2.1 + (n + 2)), .null, .null, .null, .null, .null, .null, .int 0, .int 0, .int 0, .int 0, .int 0, .null, .null, .null, .null, .null, .null, .int 0, .int 0, .null, .null, .null, .null, .null, .int 0, .int 0, .int 0, .int 0, .null, .int 0, .int 0]
def n12_7 (G : KG) (n : Nat) : List va_E := n12_6 G n ++ [.inl (G.2.2.2.1.1, (350, .inl (fun _ => iZ 0)))]
theorem l12_7 (G : KG) (n : Nat) : (n12_7 G n).length = 3 := by
  unfold n12_7
  rw [List.length_append, l12_6]
  rfl
theorem s12_6 {G : KG} {X : KX} {Qs : State → Prop} {o n a b : Nat} {E : Nat → va_E} (C : FrB G X cX12_init 1 RX12 none wsX12_init true) (ho : o < n) (k : Wb G X 1 Qs a b 51 [some (.ref (G.2.1 + o))] [] (n + 3) (bld E o (12, o12_7 G n) n (n12_7 G n))) : Wb G X 1 Qs (1 + a) (350 + b) 42 [some (.ref (G.2.1 + o))] [] (n + 2) (bld E o (12, o12_6 G n) n (n12_6 G n)) := by
  refine wb_aload_n C (j := 0) rfl rfl dX12_init_42 ?_
  refine wb_sipush C rfl dX12_init_43 ?_
  refine wl_newI C (k := 2) (N := 350) (a' := a) (b' := b) ho (l12_6 G n) rfl (by decide) (by decide +kernel) dX12_init_46 rfl rfl ?_
  refine wl_putF C (k := 3) bf_X12_29 fqb_X12_16 ho rfl rfl (Nat.le_of_ble_eq_true rfl) dX12_init_48 ?_
  exact k
def o12_8 (G : KG) (n : Nat) : List Value := [.int 0, .ref (G.2.1 + (n + 0)), .int 0, .int 0, .int 0, .int 0, .int 0, .int 0, .int 0, .int (iZ (-1)), .int (iZ (-1)), .int 0, .int (iZ (-1)), .int (iZ (-1)), .long 0, .ref (G.2.1 + (n + 1)), .ref (G.2.1 + (n + 2)), .ref (G.2.1 + (n + 3)), .null, .null, .null, .null, .null, .int 0, .int 0, .int 0, .int 0, .int 0, .null, .null, .null, .null, .null, .null, .int 0, .int 0, .null, .null, .null, .null, .null, .int 0, .int 0, .int 0, .int 0, .null, .int 0, .int 0]
def n12_8 (G : KG) (n : Nat) : List va_E := n12_7 G n ++ [.inl (G.2.2.2.1.1, (2100, .inl (fun _ => iZ 0)))]
theorem l12_8 (G : KG) (n : Nat) : (n12_8 G n).length = 4 := by
  unfold n12_8
  rw [List.length_append, l12_7]
  rfl
theorem s12_7 {G : KG} {X : KX} {Qs : State → Prop} {o n a b : Nat} {E : Nat → va_E} (C : FrB G X cX12_init 1 RX12 none wsX12_init true) (ho : o < n) (k : Wb G X 1 Qs a b 60 [some (.ref (G.2.1 + o))] [] (n + 4) (bld E o (12, o12_8 G n) n (n12_8 G n))) : Wb G X 1 Qs (1 + a) (2100 + b) 51 [some (.ref (G.2.1 + o))] [] (n + 3) (bld E o (12, o12_7 G n) n (n12_7 G n)) := by
  refine wb_aload_n C (j := 0) rfl rfl dX12_init_51 ?_
  refine wb_sipush C rfl dX12_init_52 ?_
  refine wl_newI C (k := 3) (N := 2100) (a' := a) (b' := b) ho (l12_7 G n) rfl (by decide) (by decide +kernel) dX12_init_55 rfl rfl ?_
  refine wl_putF C (k := 4) bf_X12_32 fqb_X12_17 ho rfl rfl (Nat.le_of_ble_eq_true rfl) dX12_init_57 ?_
  exact k
def o12_9 (G : KG) (n : Nat) : List Value := [.int 0, .ref (G.2.1 + (n + 0)), .int 0, .int 0, .int 0, .int 0, .int 0, .int 0, .int 0, .int (iZ (-1)), .int (iZ (-1)), .int 0, .int (iZ (-1)), .int (iZ (-1)), .long 0, .ref (G.2.1 + (n + 1)), .ref (G.2.1 + (n + 2)), .ref (G.2.1 + (n + 3)), .ref (G.2.1 + (n + 4)), .null, .null, .null, .null, .int 0, .int 0, .int 0, .int 0, .int 0, .null, .null, .null, .null, .null, .null, .int 0, .int 0, .null, .null, .null, .null, .null, .int 0, .int 0, .int 0, .int 0, .null, .int 0, .int 0]
def n12_9 (G : KG) (n : Nat) : List va_E := n12_8 G n ++ [.inl (G.2.2.2.1.1, (350, .inl (fun _ => iZ 0)))]
theorem l12_9 (G : KG) (n : Nat) : (n12_9 G n).length = 5 := by
  unfold n12_9
  rw [List.length_append, l12_8]
  rfl
theorem s12_8 {G : KG} {X : KX} {Qs : State → Prop} {o n a b : Nat} {E : Nat → va_E} (C : FrB G X cX12_init 1 RX12 none wsX12_init true) (ho : o < n) (k : Wb G X 1 Qs a b 69 [some (.ref (G.2.1 + o))] [] (n + 5) (bld E o (12, o12_9 G n) n (n12_9 G n))) : Wb G X 1 Qs (1 + a) (350 + b) 60 [some (.ref (G.2.1 + o))] [] (n + 4) (bld E o (12, o12_8 G n) n (n12_8 G n)) := by
  refine wb_aload_n C (j := 0) rfl rfl dX12_init_60 ?_
  refine wb_sipush C rfl dX12_init_61 ?_
  refine wl_newI C (k := 4) (N := 350) (a' := a) (b' := b) ho (l12_8 G n) rfl (by decide) (by decide +kernel) dX12_init_64 rfl rfl ?_
  refine wl_putF C (k := 5) bf_X12_35 fqb_X12_18 ho rfl rfl (Nat.le_of_ble_eq_true rfl) dX12_init_66 ?_
  exact k
def o12_10 (G : KG) (n : Nat) : List Value := [.int 0, .ref (G.2.1 + (n + 0)), .int 0, .int 0, .int 0, .int 0, .int 0, .int 0, .int 0, .int (iZ (-1)), .int (iZ (-1)), .int 0, .int (iZ (-1)), .int (iZ (-1)), .long 0, .ref (G.2.1 + (n + 1)), .ref (G.2.1 + (n + 2)), .ref (G.2.1 + (n + 3)), .ref (G.2.1 + (n + 4)), .ref (G.2.1 + (n + 5)), .null, .null, .null, .int 0, .int 0, .int 0, .int 0, .int 0, .null, .null, .null, .null, .null, .null, .int 0, .int 0, .null, .null, .null, .null, .null, .int 0, .int 0, .int 0, .int 0, .null, .int 0, .int 0]
def n12_10 (G : KG) (n : Nat) : List va_E := n12_9 G n ++ [.inl (G.2.2.2.1.1, (350, .inl (fun _ => iZ 0)))]
theorem l12_10 (G : KG) (n : Nat) : (n12_10 G n).length = 6 := by
  unfold n12_10
  rw [List.length_append, l12_9]
  rfl
theorem s12_9 {G : KG} {X : KX} {Qs : State → Prop} {o n a b : Nat} {E : Nat → va_E} (C : FrB G X cX12_init 1 RX12 none wsX12_init true) (ho : o < n) (k : Wb G X 1 Qs a b 78 [some (.ref (G.2.1 + o))] [] (n + 6) (bld E o (12, o12_10 G n) n (n12_10 G n))) : Wb G X 1 Qs (1 + a) (350 + b) 69 [some (.ref (G.2.1 + o))] [] (n + 5) (bld E o (12, o12_9 G n) n (n12_9 G n)) := by
  refine wb_aload_n C (j := 0) rfl rfl dX12_init_69 ?_
  refine wb_sipush C rfl dX12_init_70 ?_
  refine wl_newI C (k := 5) (N := 350) (a' := a) (b' := b) ho (l12_9 G n) rfl (by decide) (by decide +kernel) dX12_init_73 rfl rfl ?_
  refine wl_putF C (k := 6) bf_X12_38 fqb_X12_19 ho rfl rfl (Nat.le_of_ble_eq_true rfl) dX12_init_75 ?_
  exact k
def o12_11 (G : KG) (n : Nat) : List Value := [.int 0, .ref (G.2.1 + (n + 0)), .int 0, .int 0, .int 0, .int 0, .int 0, .int 0, .int 0, .int (iZ (-1)), .int (iZ (-1)), .int 0, .int (iZ (-1)), .int (iZ (-1)), .long 0, .ref (G.2.1 + (n + 1)), .ref (G.2.1 + (n + 2)), .ref (G.2.1 + (n + 3)), .ref (G.2.1 + (n + 4)), .ref (G.2.1 + (n + 5)), .ref (G.2.1 + (n + 6)), .null, .null, .int 0, .int 0, .int 0, .int 0, .int 0, .null, .null, .null, .null, .null, .null, .int 0, .int 0, .null, .null, .null, .null, .null, .int 0, .int 0, .int 0, .int 0, .null, .int 0, .int 0]
def n12_11 (G : KG) (n : Nat) : List va_E := n12_10 G n ++ [.inl (G.2.2.2.1.2.1, (14, .inr (.inl (fun _ => 0))))]
theorem l12_11 (G : KG) (n : Nat) : (n12_11 G n).length = 7 := by
  unfold n12_11
  rw [List.length_append, l12_10]
  rfl
theorem s12_10 {G : KG} {X : KX} {Qs : State → Prop} {o n a b : Nat} {E : Nat → va_E} (C : FrB G X cX12_init 1 RX12 none wsX12_init true) (ho : o < n) (k : Wb G X 1 Qs a b 86 [some (.ref (G.2.1 + o))] [] (n + 7) (bld E o (12, o12_11 G n) n (n12_11 G n))) : Wb G X 1 Qs (1 + a) (14 + b) 78 [some (.ref (G.2.1 + o))] [] (n + 6) (bld E o (12, o12_10 G n) n (n12_10 G n)) := by
  refine wb_aload_n C (j := 0) rfl rfl dX12_init_78 ?_
  refine wb_bipush C rfl dX12_init_79 ?_
  refine wl_newJ C (k := 6) (N := 14) (a' := a) (b' := b) ho (l12_10 G n) rfl (by decide) (by decide +kernel) dX12_init_81 rfl rfl ?_
  refine wl_putF C (k := 7) bf_X12_41 fqb_X12_20 ho rfl rfl (Nat.le_of_ble_eq_true rfl) dX12_init_83 ?_
  exact k
def o12_12 (G : KG) (n : Nat) : List Value := [.int 0, .ref (G.2.1 + (n + 0)), .int 0, .int 0, .int 0, .int 0, .int 0, .int 0, .int 0, .int (iZ (-1)), .int (iZ (-1)), .int 0, .int (iZ (-1)), .int (iZ (-1)), .long 0, .ref (G.2.1 + (n + 1)), .ref (G.2.1 + (n + 2)), .ref (G.2.1 + (n + 3)), .ref (G.2.1 + (n + 4)), .ref (G.2.1 + (n + 5)), .ref (G.2.1 + (n + 6)), .ref (G.2.1 + (n + 7)), .null, .int 0, .int 0, .int 0, .int 0, .int 0, .null, .null, .null, .null, .null, .null, .int 0, .int 0, .null, .null, .null, .null, .null, .int 0, .int 0, .int 0, .int 0, .null, .int 0, .int 0]
def n12_12 (G : KG) (n : Nat) : List va_E := n12_11 G n ++ [.inl (G.2.2.2.1.2.1, (14, .inr (.inl (fun _ => 0))))]
theorem l12_12 (G : KG) (n : Nat) : (n12_12 G n).length = 8 := by
  unfold n12_12
  rw [List.length_append, l12_11]
  rfl
theorem s12_11 {G : KG} {X : KX} {Qs : State → Prop} {o n a b : Nat} {E : Nat → va_E} (C : FrB G X cX12_init 1 RX12 none wsX12_init true) (ho : o < n) (k : Wb G X 1 Qs a b 94 [some (.ref (G.2.1 + o))] [] (n + 8) (bld E o (12, o12_12 G n) n (n12_12 G n))) : Wb G X 1 Qs (1 + a) (14 + b) 86 [some (.ref (G.2.1 + o))] [] (n + 7) (bld E o (12, o12_11 G n) n (n12_11 G n)) := by
  refine wb_aload_n C (j := 0) rfl rfl dX12_init_86 ?_
  refine wb_bipush C rfl dX12_init_87 ?_
  refine wl_newJ C (k := 7) (N := 14) (a' := a) (b' := b) ho (l12_11 G n) rfl (by decide) (by decide +kernel) dX12_init_89 rfl rfl ?_
  refine wl_putF C (k := 8) bf_X12_45 fqb_X12_21 ho rfl rfl (Nat.le_of_ble_eq_true rfl) dX12_init_91 ?_
  exact k
def o12_13 (G : KG) (n : Nat) : List Value := [.int 0, .ref (G.2.1 + (n + 0)), .int 0, .int 0, .int 0, .int 0, .int 0, .int 0, .int 0, .int (iZ (-1)), .int (iZ (-1)), .int 0, .int (iZ (-1)), .int (iZ (-1)), .long 0, .ref (G.2.1 + (n + 1)), .ref (G.2.1 + (n + 2)), .ref (G.2.1 + (n + 3)), .ref (G.2.1 + (n + 4)), .ref (G.2.1 + (n + 5)), .ref (G.2.1 + (n + 6)), .ref (G.2.1 + (n + 7)), .ref (G.2.1 + (n + 8)), .int 0, .int 0, .int 0, .int 0, .int 0, .null, .null, .null, .null, .null, .null, .int 0, .int 0, .null, .null, .null, .null, .null, .int 0, .int 0, .int 0, .int 0, .null, .int 0, .int 0]
def n12_13 (G : KG) (n : Nat) : List va_E := n12_12 G n ++ [.inl (G.2.2.2.1.2.1, (14, .inr (.inl (fun _ => 0))))]
theorem l12_13 (G : KG) (n : Nat) : (n12_13 G n).length = 9 := by
  unfold n12_13
  rw [List.length_append, l12_12]
  rfl
theorem s12_12 {G : KG} {X : KX} {Qs : State → Prop} {o n a b : Nat} {E : Nat → va_E} (C : FrB G X cX12_init 1 RX12 none wsX12_init true) (ho : o < n) (k : Wb G X 1 Qs a b 102 [some (.ref (G.2.1 + o))] [] (n + 9) (bld E o (12, o12_13 G n) n (n12_13 G n))) : Wb G X 1 Qs (1 + a) (14 + b) 94 [some (.ref (G.2.1 + o))] [] (n + 8) (bld E o (12, o12_12 G n) n (n12_12 G n)) := by
  refine wb_aload_n C (j := 0) rfl rfl dX12_init_94 ?_
  refine wb_bipush C rfl dX12_init_95 ?_
  refine wl_newJ C (k := 8) (N := 14) (a' := a) (b' := b) ho (l12_12 G n) rfl (by decide) (by decide +kernel) dX12_init_97 rfl rfl ?_
  refine wl_putF C (k := 9) bf_X12_48 fqb_X12_22 ho rfl rfl (Nat.le_of_ble_eq_true rfl) dX12_init_99 ?_
  exact k
def o12_14 (G : KG) (n : Nat) : List Value := [.int 0, .ref (G.2.1 + (n + 0)), .int 0, .int 0, .int 0, .int 0, .int 0, .int 0, .int 0, .int (iZ (-1)), .int (iZ (-1)), .int 0, .int (iZ (-1)), .int (iZ (-1)), .long 0, .ref (G.2.1 + (n + 1)), .ref (G.2.1 + (n + 2)), .ref (G.2.1 + (n + 3)), .ref (G.2.1 + (n + 4)), .ref (G.2.1 + (n + 5)), .ref (G.2.1 + (n + 6)), .ref (G.2.1 + (n + 7)), .ref (G.2.1 + (n + 8)), .int 0, .int 0, .int 0, .int 0, .int 0, .ref (G.2.1 + (n + 9)), .null, .null, .null, .null, .null, .int 0, .int 0, .null, .null, .null, .null, .null, .int 0, .int 0, .int 0, .int 0, .null, .int 0, .int 0]
def n12_14 (G : KG) (n : Nat) : List va_E := n12_13 G n ++ [.inl (G.2.2.2.1.1, (14, .inl (fun _ => iZ 0)))]
theorem l12_14 (G : KG) (n : Nat) : (n12_14 G n).length = 10 := by
  unfold n12_14
  rw [List.length_append, l12_13]
  rfl
theorem s12_13 {G : KG} {X : KX} {Qs : State → Prop} {o n a b : Nat} {E : Nat → va_E} (C : FrB G X cX12_init 1 RX12 none wsX12_init true) (ho : o < n) (k : Wb G X 1 Qs a b 110 [some (.ref (G.2.1 + o))] [] (n + 10) (bld E o (12, o12_14 G n) n (n12_14 G n))) : Wb G X 1 Qs (1 + a) (14 + b) 102 [some (.ref (G.2.1 + o))] [] (n + 9) (bld E o (12, o12_13 G n) n (n12_13 G n)) := by
  refine wb_aload_n C (j := 0) rfl rfl dX12_init_102 ?_
  refine wb_bipush C rfl dX12_init_103 ?_
  refine wl_newI C (k := 9) (N := 14) (a' := a) (b' := b) ho (l12_13 G n) rfl (by decide) (by decide +kernel) dX12_init_105 rfl rfl ?_
  refine wl_putF C (k := 10) bf_X12_51 fqb_X12_28 ho rfl rfl (Nat.le_of_ble_eq_true rfl) dX12_init_107 ?_
  exact k
def o12_15 (G : KG) (n : Nat) : List Value := [.int 0, .ref (G.2.1 + (n + 0)), .int 0, .int 0, .int 0, .int 0, .int 0, .int 0, .int 0, .int (iZ (-1)), .int (iZ (-1)), .int 0, .int (iZ (-1)), .int (iZ (-1)), .long 0, .ref (G.2.1 + (n + 1)), .ref (G.2.1 + (n + 2)), .ref (G.2.1 + (n + 3)), .ref (G.2.1 + (n + 4)), .ref (G.2.1 + (n + 5)), .ref (G.2.1 + (n + 6)), .ref (G.2.1 + (n + 7)), .ref (G.2.1 + (n + 8)), .int 0, .int 0, .int 0, .int 0, .int 0, .ref (G.2.1 + (n + 9)), .ref (G.2.1 + (n + 10)), .null, .null, .null, .null, .int 0, .int 0, .null, .null, .null, .null, .null, .int 0, .int 0, .int 0, .int 0, .null, .int 0, .int 0]
def n12_15 (G : KG) (n : Nat) : List va_E := n12_14 G n ++ [.inl (G.2.2.2.1.1, (49, .inl (fun _ => iZ 0)))]
theorem l12_15 (G : KG) (n : Nat) : (n12_15 G n).length = 11 := by
  unfold n12_15
  rw [List.length_append, l12_14]
  rfl
theorem s12_14 {G : KG} {X : KX} {Qs : State → Prop} {o n a b : Nat} {E : Nat → va_E} (C : FrB G X cX12_init 1 RX12 none wsX12_init true) (ho : o < n) (k : Wb G X 1 Qs a b 118 [some (.ref (G.2.1 + o))] [] (n + 11) (bld E o (12, o12_15 G n) n (n12_15 G n))) : Wb G X 1 Qs (1 + a) (49 + b) 110 [some (.ref (G.2.1 + o))] [] (n + 10) (bld E o (12, o12_14 G n) n (n12_14 G n)) := by
  refine wb_aload_n C (j := 0) rfl rfl dX12_init_110 ?_
  refine wb_bipush C rfl dX12_init_111 ?_
  refine wl_newI C (k := 10) (N := 49) (a' := a) (b' := b) ho (l12_14 G n) rfl (by decide) (by decide +kernel) dX12_init_113 rfl rfl ?_
  refine wl_putF C (k := 11) bf_X12_54 fqb_X12_29 ho rfl rfl (Nat.le_of_ble_eq_true rfl) dX12_init_115 ?_
  exact k
def o12_16 (G : KG) (n : Nat) : List Value := [.int 0, .ref (G.2.1 + (n + 0)), .int 0, .int 0, .int 0, .int 0, .int 0, .int 0, .int 0, .int (iZ (-1)), .int (iZ (-1)), .int 0, .int (iZ (-1)), .int (iZ (-1)), .long 0, .ref (G.2.1 + (n + 1)), .ref (G.2.1 + (n + 2)), .ref (G.2.1 + (n + 3)), .ref (G.2.1 + (n + 4)), .ref (G.2.1 + (n + 5)), .ref (G.2.1 + (n + 6)), .ref (G.2.1 + (n + 7)), .ref (G.2.1 + (n + 8)), .int 0, .int 0, .int 0, .int 0, .int 0, .ref (G.2.1 + (n + 9)), .ref (G.2.1 + (n + 10)), .ref (G.2.1 + (n + 11)), .null, .null, .null, .int 0, .int 0, .null, .null, .null, .null, .null, .int 0, .int 0, .int 0, .int 0, .null, .int 0, .int 0]
def n12_16 (G : KG) (n : Nat) : List va_E := n12_15 G n ++ [.inl (G.2.2.2.1.1, (7, .inl (fun _ => iZ 0)))]
theorem l12_16 (G : KG) (n : Nat) : (n12_16 G n).length = 12 := by
  unfold n12_16
  rw [List.length_append, l12_15]
  rfl
theorem s12_15 {G : KG} {X : KX} {Qs : State → Prop} {o n a b : Nat} {E : Nat → va_E} (C : FrB G X cX12_init 1 RX12 none wsX12_init true) (ho : o < n) (k : Wb G X 1 Qs a b 126 [some (.ref (G.2.1 + o))] [] (n + 12) (bld E o (12, o12_16 G n) n (n12_16 G n))) : Wb G X 1 Qs (1 + a) (7 + b) 118 [some (.ref (G.2.1 + o))] [] (n + 11) (bld E o (12, o12_15 G n) n (n12_15 G n)) := by
  refine wb_aload_n C (j := 0) rfl rfl dX12_init_118 ?_
  refine wb_bipush C rfl dX12_init_119 ?_
  refine wl_newI C (k := 11) (N := 7) (a' := a) (b' := b) ho (l12_15 G n) rfl (by decide) (by decide +kernel) dX12_init_121 rfl rfl ?_
  refine wl_putF C (k := 12) bf_X12_57 fqb_X12_30 ho rfl rfl (Nat.le_of_ble_eq_true rfl) dX12_init_123 ?_
  exact k
def o12_17 (G : KG) (n : Nat) : List Value := [.int 0, .ref (G.2.1 + (n + 0)), .int 0, .int 0, .int 0, .int 0, .int 0, .int 0, .int 0, .int (iZ (-1)), .int (iZ (-1)), .int 0, .int (iZ (-1)), .int (iZ (-1)), .long 0, .ref (G.2.1 + (n + 1)), .ref (G.2.1 + (n + 2)), .ref (G.2.1 + (n + 3)), .ref (G.2.1 + (n + 4)), .ref (G.2.1 + (n + 5)), .ref (G.2.1 + (n + 6)), .ref (G.2.1 + (n + 7)), .ref (G.2.1 + (n + 8)), .int 0, .int 0, .int 0, .int 0, .int 0, .ref (G.2.1 + (n + 9)), .ref (G.2.1 + (n + 10)), .ref (G.2.1 + (n + 11)), .ref (G.2.1 + (n + 12)), .null, .null, .int 0, .int 0, .null, .null, .null, .null, .null, .int 0, .int 0, .int 0, .int 0, .null, .int 0, .int 0]
def n12_17 (G : KG) (n : Nat) : List va_E := n12_16 G n ++ [.inl (G.2.2.2.1.1, (7, .inl (fun _ => iZ 0)))]
theorem l12_17 (G : KG) (n : Nat) : (n12_17 G n).length = 13 := by
  unfold n12_17
  rw [List.length_append, l12_16]
  rfl
theorem s12_16 {G : KG} {X : KX} {Qs : State → Prop} {o n a b : Nat} {E : Nat → va_E} (C : FrB G X cX12_init 1 RX12 none wsX12_init true) (ho : o < n) (k : Wb G X 1 Qs a b 134 [some (.ref (G.2.1 + o))] [] (n + 13) (bld E o (12, o12_17 G n) n (n12_17 G n))) : Wb G X 1 Qs (1 + a) (7 + b) 126 [some (.ref (G.2.1 + o))] [] (n + 12) (bld E o (12, o12_16 G n) n (n12_16 G n)) := by
  refine wb_aload_n C (j := 0) rfl rfl dX12_init_126 ?_
  refine wb_bipush C rfl dX12_init_127 ?_
  refine wl_newI C (k := 12) (N := 7) (a' := a) (b' := b) ho (l12_16 G n) rfl (by decide) (by decide +kernel) dX12_init_129 rfl rfl ?_
  refine wl_putF C (k := 13) bf_X12_60 fqb_X12_31 ho rfl rfl (Nat.le_of_ble_eq_true rfl) dX12_init_131 ?_
  exact k
def o12_18 (G : KG) (n : Nat) : List Value := [.int 0, .ref (G.2.1 + (n + 0)), .int 0, .int 0, .int 0, .int 0, .int 0, .int 0, .int 0, .int (iZ (-1)), .int (iZ (-1)), .int 0, .int (iZ (-1)), .int (iZ (-1)), .long 0, .ref (G.2.1 + (n + 1)), .ref (G.2.1 + (n + 2)), .ref (G.2.1 + (n + 3)), .ref (G.2.1 + (n + 4)), .ref (G.2.1 + (n + 5)), .ref (G.2.1 + (n + 6)), .ref (G.2.1 + (n + 7)), .ref (G.2.1 + (n + 8)), .int 0, .int 0, .int 0, .int 0, .int 0, .ref (G.2.1 + (n + 9)), .ref (G.2.1 + (n + 10)), .ref (G.2.1 + (n + 11)), .ref (G.2.1 + (n + 12)), .ref (G.2.1 + (n + 13)), .null, .int 0, .int 0, .null, .null, .null, .null, .null, .int 0, .int 0, .int 0, .int 0, .null, .int 0, .int 0]
def n12_18 (G : KG) (n : Nat) : List va_E := n12_17 G n ++ [.inl (G.2.2.2.1.1, (7, .inl (fun _ => iZ 0)))]
theorem l12_18 (G : KG) (n : Nat) : (n12_18 G n).length = 14 := by
  unfold n12_18
  rw [List.length_append, l12_17]
  rfl
theorem s12_17 {G : KG} {X : KX} {Qs : State → Prop} {o n a b : Nat} {E : Nat → va_E} (C : FrB G X cX12_init 1 RX12 none wsX12_init true) (ho : o < n) (k : Wb G X 1 Qs a b 142 [some (.ref (G.2.1 + o))] [] (n + 14) (bld E o (12, o12_18 G n) n (n12_18 G n))) : Wb G X 1 Qs (1 + a) (7 + b) 134 [some (.ref (G.2.1 + o))] [] (n + 13) (bld E o (12, o12_17 G n) n (n12_17 G n)) := by
  refine wb_aload_n C (j := 0) rfl rfl dX12_init_134 ?_
  refine wb_bipush C rfl dX12_init_135 ?_
  refine wl_newI C (k := 13) (N := 7) (a' := a) (b' := b) ho (l12_17 G n) rfl (by decide) (by decide +kernel) dX12_init_137 rfl rfl ?_
  refine wl_putF C (k := 14) bf_X12_63 fqb_X12_32 ho rfl rfl (Nat.le_of_ble_eq_true rfl) dX12_init_139 ?_
  exact k
def o12_19 (G : KG) (n : Nat) : List Value := [.int 0, .ref (G.2.1 + (n + 0)), .int 0, .int 0, .int 0, .int 0, .int 0, .int 0, .int 0, .int (iZ (-1)), .int (iZ (-1)), .int 0, .int (iZ (-1)), .int (iZ (-1)), .long 0, .ref (G.2.1 + (n + 1)), .ref (G.2.1 + (n + 2)), .ref (G.2.1 + (n + 3)), .ref (G.2.1 + (n + 4)), .ref (G.2.1 + (n + 5)), .ref (G.2.1 + (n + 6)), .ref (G.2.1 + (n + 7)), .ref (G.2.1 + (n + 8)), .int 0, .int 0, .int 0, .int 0, .int 0, .ref (G.2.1 + (n + 9)), .ref (G.2.1 + (n + 10)), .ref (G.2.1 + (n + 11)), .ref (G.2.1 + (n + 12)), .ref (G.2.1 + (n + 13)), .ref (G.2.1 + (n + 14)), .int 0, .int 0, .null, .null, .null, .null, .null, .int 0, .int 0, .int 0, .int 0, .null, .int 0, .int 0]
def n12_19 (G : KG) (n : Nat) : List va_E := n12_18 G n ++ [.inl (G.2.2.2.1.1, (4, .inl (fun _ => iZ 0)))]
theorem l12_19 (G : KG) (n : Nat) : (n12_19 G n).length = 15 := by
  unfold n12_19
  rw [List.length_append, l12_18]
  rfl
theorem s12_18 {G : KG} {X : KX} {Qs : State → Prop} {o n a b : Nat} {E : Nat → va_E} (C : FrB G X cX12_init 1 RX12 none wsX12_init true) (ho : o < n) (k : Wb G X 1 Qs a b 149 [some (.ref (G.2.1 + o))] [] (n + 15) (bld E o (12, o12_19 G n) n (n12_19 G n))) : Wb G X 1 Qs (1 + a) (4 + b) 142 [some (.ref (G.2.1 + o))] [] (n + 14) (bld E o (12, o12_18 G n) n (n12_18 G n)) := by
  refine wb_aload_n C (j := 0) rfl rfl dX12_init_142 ?_
  refine wb_iconst C dX12_init_143 ?_
  refine wl_newI C (k := 14) (N := 4) (a' := a) (b' := b) ho (l12_18 G n) rfl (by decide) (by decide +kernel) dX12_init_144 rfl rfl ?_
  refine wl_putF C (k := 15) bf_X12_66 fqb_X12_33 ho rfl rfl (Nat.le_of_ble_eq_true rfl) dX12_init_146 ?_
  exact k
def o12_20 (G : KG) (n : Nat) : List Value := [.int 0, .ref (G.2.1 + (n + 0)), .int 0, .int 0, .int 0, .int 0, .int 0, .int 0, .int 0, .int (iZ (-1)), .int (iZ (-1)), .int 0, .int (iZ (-1)), .int (iZ (-1)), .long 0, .ref (G.2.1 + (n + 1)), .ref (G.2.1 + (n + 2)), .ref (G.2.1 + (n + 3)), .ref (G.2.1 + (n + 4)), .ref (G.2.1 + (n + 5)), .ref (G.2.1 + (n + 6)), .ref (G.2.1 + (n + 7)), .ref (G.2.1 + (n + 8)), .int 0, .int 0, .int 0, .int 0, .int 0, .ref (G.2.1 + (n + 9)), .ref (G.2.1 + (n + 10)), .ref (G.2.1 + (n + 11)), .ref (G.2.1 + (n + 12)), .ref (G.2.1 + (n + 13)), .ref (G.2.1 + (n + 14)), .int 0, .int 0, .ref (G.2.1 + (n + 15)), .null, .null, .null, .null, .int 0, .int 0, .int 0, .int 0, .null, .int 0, .int 0]
def n12_20 (G : KG) (n : Nat) : List va_E := n12_19 G n ++ [.inl (G.2.2.2.1.1, (60, .inl (fun _ => iZ 0)))]
theorem l12_20 (G : KG) (n : Nat) : (n12_20 G n).length = 16 := by
  unfold n12_20
  rw [List.length_append, l12_19]
  rfl
theorem s12_19 {G : KG} {X : KX} {Qs : State → Prop} {o n a b : Nat} {E : Nat → va_E} (C : FrB G X cX12_init 1 RX12 none wsX12_init true) (ho : o < n) (k : Wb G X 1 Qs a b 157 [some (.ref (G.2.1 + o))] [] (n + 16) (bld E o (12, o12_20 G n) n (n12_20 G n))) : Wb G X 1 Qs (1 + a) (60 + b) 149 [some (.ref (G.2.1 + o))] [] (n + 15) (bld E o (12, o12_19 G n) n (n12_19 G n)) := by
  refine wb_aload_n C (j := 0) rfl rfl dX12_init_149 ?_
  refine wb_bipush C rfl dX12_init_150 ?_
  refine wl_newI C (k := 15) (N := 60) (a' := a) (b' := b) ho (l12_19 G n) rfl (by decide) (by decide +kernel) dX12_init_152 rfl rfl ?_
  refine wl_putF C (k := 16) bf_X12_69 fqb_X12_36 ho rfl rfl (Nat.le_of_ble_eq_true rfl) dX12_init_154 ?_
  exact k
def o12_21 (G : KG) (n : Nat) : List Value := [.int 0, .ref (G.2.1 + (n + 0)), .int 0, .int 0, .int 0, .int 0, .int 0, .int 0, .int 0, .int (iZ (-1)), .int (iZ (-1)), .int 0, .int (iZ (-1)), .int (iZ (-1)), .long 0, .ref (G.2.1 + (n + 1)), .ref (G.2.1 + (n + 2)), .ref (G.2.1 + (n + 3)), .ref (G.2.1 + (n + 4)), .ref (G.2.1 + (n + 5)), .ref (G.2.1 + (n + 6)), .ref (G.2.1 + (n + 7)), .ref (G.2.1 + (n + 8)), .int 0, .int 0, .int 0, .int 0, .int 0, .ref (G.2.1 + (n + 9)), .ref (G.2.1 + (n + 10)), .ref (G.2.1 + (n + 11)), .ref (G.2.1 + (n + 12)), .ref (G.2.1 + (n + 13)), .ref (G.2.1 + (n + 14)), .int 0, .int 0, .ref (G.2.1 + (n + 15)), .ref (G.2.1 + (n + 16)), .null, .null, .null, .int 0, .int 0, .int 0, .int 0, .null, .int 0, .int 0]
def n12_21 (G : KG) (n : Nat) : List va_E := n12_20 G n ++ [.inl (G.2.2.2.1.1, (60, .inl (fun _ => iZ 0)))]
theorem l12_21 (G : KG) (n : Nat) : (n12_21 G n).length = 17 := by
  unfold n12_21
  rw [List.length_append, l12_20]
  rfl
theorem s12_20 {G : KG} {X : KX} {Qs : State → Prop} {o n a b : Nat} {E : Nat → va_E} (C : FrB G X cX12_init 1 RX12 none wsX12_init true) (ho : o < n) (k : Wb G X 1 Qs a b 165 [some (.ref (G.2.1 + o))] [] (n + 17) (bld E o (12, o12_21 G n) n (n12_21 G n))) : Wb G X 1 Qs (1 + a) (60 + b) 157 [some (.ref (G.2.1 + o))] [] (n + 16) (bld E o (12, o12_20 G n) n (n12_20 G n)) := by
  refine wb_aload_n C (j := 0) rfl rfl dX12_init_157 ?_
  refine wb_bipush C rfl dX12_init_158 ?_
  refine wl_newI C (k := 16) (N := 60) (a' := a) (b' := b) ho (l12_20 G n) rfl (by decide) (by decide +kernel) dX12_init_160 rfl rfl ?_
  refine wl_putF C (k := 17) bf_X12_72 fqb_X12_37 ho rfl rfl (Nat.le_of_ble_eq_true rfl) dX12_init_162 ?_
  exact k
def o12_22 (G : KG) (n : Nat) : List Value := [.int 0, .ref (G.2.1 + (n + 0)), .int 0, .int 0, .int 0, .int 0, .int 0, .int 0, .int 0, .int (iZ (-1)), .int (iZ (-1)), .int 0, .int (iZ (-1)), .int (iZ (-1)), .long 0, .ref (G.2.1 + (n + 1)), .ref (G.2.1 + (n + 2)), .ref (G.2.1 + (n + 3)), .ref (G.2.1 + (n + 4)), .ref (G.2.1 + (n + 5)), .ref (G.2.1 + (n + 6)), .ref (G.2.1 + (n + 7)), .ref (G.2.1 + (n + 8)), .int 0, .int 0, .int 0, .int 0, .int 0, .ref (G.2.1 + (n + 9)), .ref (G.2.1 + (n + 10)), .ref (G.2.1 + (n + 11)), .ref (G.2.1 + (n + 12)), .ref (G.2.1 + (n + 13)), .ref (G.2.1 + (n + 14)), .int 0, .int 0, .ref (G.2.1 + (n + 15)), .ref (G.2.1 + (n + 16)), .ref (G.2.1 + (n + 17)), .null, .null, .int 0, .int 0, .int 0, .int 0, .null, .int 0, .int 0]
def n12_22 (G : KG) (n : Nat) : List va_E := n12_21 G n ++ [.inl (G.2.2.2.1.1, (60, .inl (fun _ => iZ 0)))]
theorem l12_22 (G : KG) (n : Nat) : (n12_22 G n).length = 18 := by
  unfold n12_22
  rw [List.length_append, l12_21]
  rfl
theorem s12_21 {G : KG} {X : KX} {Qs : State → Prop} {o n a b : Nat} {E : Nat → va_E} (C : FrB G X cX12_init 1 RX12 none wsX12_init true) (ho : o < n) (k : Wb G X 1 Qs a b 173 [some (.ref (G.2.1 + o))] [] (n + 18) (bld E o (12, o12_22 G n) n (n12_22 G n))) : Wb G X 1 Qs (1 + a) (60 + b) 165 [some (.ref (G.2.1 + o))] [] (n + 17) (bld E o (12, o12_21 G n) n (n12_21 G n)) := by
  refine wb_aload_n C (j := 0) rfl rfl dX12_init_165 ?_
  refine wb_bipush C rfl dX12_init_166 ?_
  refine wl_newI C (k := 17) (N := 60) (a' := a) (b' := b) ho (l12_21 G n) rfl (by decide) (by decide +kernel) dX12_init_168 rfl rfl ?_
  refine wl_putF C (k := 18) bf_X12_75 fqb_X12_38 ho rfl rfl (Nat.le_of_ble_eq_true rfl) dX12_init_170 ?_
  exact k
def o12_23 (G : KG) (n : Nat) : List Value := [.int 0, .ref (G.2.1 + (n + 0)), .int 0, .int 0, .int 0, .int 0, .int 0, .int 0, .int 0, .int (iZ (-1)), .int (iZ (-1)), .int 0, .int (iZ (-1)), .int (iZ (-1)), .long 0, .ref (G.2.1 + (n + 1)), .ref (G.2.1 + (n + 2)), .ref (G.2.1 + (n + 3)), .ref (G.2.1 + (n + 4)), .ref (G.2.1 + (n + 5)), .ref (G.2.1 + (n + 6)), .ref (G.2.1 + (n + 7)), .ref (G.2.1 + (n + 8)), .int 0, .int 0, .int 0, .int 0, .int 0, .ref (G.2.1 + (n + 9)), .ref (G.2.1 + (n + 10)), .ref (G.2.1 + (n + 11)), .ref (G.2.1 + (n + 12)), .ref (G.2.1 + (n + 13)), .ref (G.2.1 + (n + 14)), .int 0, .int 0, .ref (G.2.1 + (n + 15)), .ref (G.2.1 + (n + 16)), .ref (G.2.1 + (n + 17)), .ref (G.2.1 + (n + 18)), .null, .int 0, .int 0, .int 0, .int 0, .null, .int 0, .int 0]
def n12_23 (G : KG) (n : Nat) : List va_E := n12_22 G n ++ [.inl (G.2.2.2.1.1, (2, .inl (fun _ => iZ 0)))]
theorem l12_23 (G : KG) (n : Nat) : (n12_23 G n).length = 19 := by
  unfold n12_23
  rw [List.length_append, l12_22]
  rfl
theorem s12_22 {G : KG} {X : KX} {Qs : State → Prop} {o n a b : Nat} {E : Nat → va_E} (C : FrB G X cX12_init 1 RX12 none wsX12_init true) (ho : o < n) (k : Wb G X 1 Qs a b 180 [some (.ref (G.2.1 + o))] [] (n + 19) (bld E o (12, o12_23 G n) n (n12_23 G n))) : Wb G X 1 Qs (1 + a) (2 + b) 173 [some (.ref (G.2.1 + o))] [] (n + 18) (bld E o (12, o12_22 G n) n (n12_22 G n)) := by
  refine wb_aload_n C (j := 0) rfl rfl dX12_init_173 ?_
  refine wb_iconst C dX12_init_174 ?_
  refine wl_newI C (k := 18) (N := 2) (a' := a) (b' := b) ho (l12_22 G n) rfl (by decide) (by decide +kernel) dX12_init_175 rfl rfl ?_
  refine wl_putF C (k := 19) bf_X12_78 fqb_X12_39 ho rfl rfl (Nat.le_of_ble_eq_true rfl) dX12_init_177 ?_
  exact k
def o12_24 (G : KG) (n : Nat) : List Value := [.int 0, .ref (G.2.1 + (n + 0)), .int 0, .int 0, .int 0, .int 0, .int 0, .int 0, .int 0, .int (iZ (-1)), .int (iZ (-1)), .int 0, .int (iZ (-1)), .int (iZ (-1)), .long 0, .ref (G.2.1 + (n + 1)), .ref (G.2.1 + (n + 2)), .ref (G.2.1 + (n + 3)), .ref (G.2.1 + (n + 4)), .ref (G.2.1 + (n + 5)), .ref (G.2.1 + (n + 6)), .ref (G.2.1 + (n + 7)), .ref (G.2.1 + (n + 8)), .int 0, .int 0, .int 0, .int 0, .int 0, .ref (G.2.1 + (n + 9)), .ref (G.2.1 + (n + 10)), .ref (G.2.1 + (n + 11)), .ref (G.2.1 + (n + 12)), .ref (G.2.1 + (n + 13)), .ref (G.2.1 + (n + 14)), .int 0, .int 0, .ref (G.2.1 + (n + 15)), .ref (G.2.1 + (n + 16)), .ref (G.2.1 + (n + 17)), .ref (G.2.1 + (n + 18)), .ref (G.2.1 + (n + 19)), .int 0, .int 0, .int 0, .int 0, .null, .int 0, .int 0]
def n12_24 (G : KG) (n : Nat) : List va_E := n12_23 G n ++ [.inl (G.2.2.2.1.1, (2, .inl (fun _ => iZ 0)))]
theorem l12_24 (G : KG) (n : Nat) : (n12_24 G n).length = 20 := by
  unfold n12_24
  rw [List.length_append, l12_23]
  rfl
theorem s12_23 {G : KG} {X : KX} {Qs : State → Prop} {o n a b : Nat} {E : Nat → va_E} (C : FrB G X cX12_init 1 RX12 none wsX12_init true) (ho : o < n) (k : Wb G X 1 Qs a b 187 [some (.ref (G.2.1 + o))] [] (n + 20) (bld E o (12, o12_24 G n) n (n12_24 G n))) : Wb G X 1 Qs (1 + a) (2 + b) 180 [some (.ref (G.2.1 + o))] [] (n + 19) (bld E o (12, o12_23 G n) n (n12_23 G n)) := by
  refine wb_aload_n C (j := 0) rfl rfl dX12_init_180 ?_
  refine wb_iconst C dX12_init_181 ?_
  refine wl_newI C (k := 19) (N := 2) (a' := a) (b' := b) ho (l12_23 G n) rfl (by decide) (by decide +kernel) dX12_init_182 rfl rfl ?_
  refine wl_putF C (k := 20) bf_X12_81 fqb_X12_40 ho rfl rfl (Nat.le_of_ble_eq_true rfl) dX12_init_184 ?_
  exact k
def o12_25 (G : KG) (n : Nat) : List Value := [.int 0, .ref (G.2.1 + (n + 0)), .int 0, .int 0, .int 0, .int 0, .int 0, .int 0, .int 0, .int (iZ (-1)), .int (iZ (-1)), .int 0, .int (iZ (-1)), .int (iZ (-1)), .long 0, .ref (G.2.1 + (n + 1)), .ref (G.2.1 + (n + 2)), .ref (G.2.1 + (n + 3)), .ref (G.2.1 + (n + 4)), .ref (G.2.1 + (n + 5)), .ref (G.2.1 + (n + 6)), .ref (G.2.1 + (n + 7)), .ref (G.2.1 + (n + 8)), .int 0, .int 0, .int 0, .int 0, .int 0, .ref (G.2.1 + (n + 9)), .ref (G.2.1 + (n + 10)), .ref (G.2.1 + (n + 11)), .ref (G.2.1 + (n + 12)), .ref (G.2.1 + (n + 13)), .ref (G.2.1 + (n + 14)), .int 0, .int 0, .ref (G.2.1 + (n + 15)), .ref (G.2.1 + (n + 16)), .ref (G.2.1 + (n + 17)), .ref (G.2.1 + (n + 18)), .ref (G.2.1 + (n + 19)), .int 0, .int 0, .int 0, .int 0, .ref (G.2.1 + (n + 20)), .int 0, .int 0]
def n12_25 (G : KG) (n : Nat) : List va_E := n12_24 G n ++ [.inl (G.2.2.2.1.1, (300, .inl (fun _ => iZ 0)))]
theorem l12_25 (G : KG) (n : Nat) : (n12_25 G n).length = 21 := by
  unfold n12_25
  rw [List.length_append, l12_24]
  rfl
theorem s12_24 {G : KG} {X : KX} {Qs : State → Prop} {o n a b : Nat} {E : Nat → va_E} (C : FrB G X cX12_init 1 RX12 none wsX12_init true) (ho : o < n) (k : Wb G X 1 Qs a b 196 [some (.ref (G.2.1 + o))] [] (n + 21) (bld E o (12, o12_25 G n) n (n12_25 G n))) : Wb G X 1 Qs (1 + a) (300 + b) 187 [some (.ref (G.2.1 + o))] [] (n + 20) (bld E o (12, o12_24 G n) n (n12_24 G n)) := by
  refine wb_aload_n C (j := 0) rfl rfl dX12_init_187 ?_
  refine wb_sipush C rfl dX12_init_188 ?_
  refine wl_newI C (k := 20) (N := 300) (a' := a) (b' := b) ho (l12_24 G n) rfl (by decide) (by decide +kernel) dX12_init_191 rfl rfl ?_
  refine wl_putF C (k := 21) bf_X12_84 fqb_X12_45 ho rfl rfl (Nat.le_of_ble_eq_true rfl) dX12_init_193 ?_
  exact k
theorem g12 (G : KG) (n : Nat) : (o12_25 G n)[15]? = some (.ref (G.2.1 + (n + 1))) := rfl
theorem g13_6 (G : KG) (n : Nat) : (n12_6 G n)[1]? = some (.inl (G.2.2.2.1.1, (350, .inl (fun _ => iZ 0)))) := by
  unfold n12_6
  rw [List.getElem?_append_right (by rw [l12_5]; decide), l12_5]
  rfl
theorem g13_7 (G : KG) (n : Nat) : (n12_7 G n)[1]? = some (.inl (G.2.2.2.1.1, (350, .inl (fun _ => iZ 0)))) := by
  unfold n12_7
  rw [List.getElem?_append_left (by rw [l12_6]; decide)]
  exact g13_6 G n
theorem g13_8 (G : KG) (n : Nat) : (n12_8 G n)[1]? = some (.inl (G.2.2.2.1.1, (350, .inl (fun _ => iZ 0)))) := by
  unfold n12_8
  rw [List.getElem?_append_left (by rw [l12_7]; decide)]
  exact g13_7 G n
theorem g13_9 (G : KG) (n : Nat) : (n12_9 G n)[1]? = some (.inl (G.2.2.2.1.1, (350, .inl (fun _ => iZ 0)))) := by
  unfold n12_9
  rw [List.getElem?_append_left (by rw [l12_8]; decide)]
  exact g13_8 G n
theorem g13_10 (G : KG) (n : Nat) : (n12_10 G n)[1]? = some (.inl (G.2.2.2.1.1, (350, .inl (fun _ => iZ 0)))) := by
  unfold n12_10
  rw [List.getElem?_append_left (by rw [l12_9]; decide)]
  exact g13_9 G n
theorem g13_11 (G : KG) (n : Nat) : (n12_11 G n)[1]? = some (.inl (G.2.2.2.1.1, (350, .inl (fun _ => iZ 0)))) := by
  unfold n12_11
  rw [List.getElem?_append_left (by rw [l12_10]; decide)]
  exact g13_10 G n
theorem g13_12 (G : KG) (n : Nat) : (n12_12 G n)[1]? = some (.inl (G.2.2.2.1.1, (350, .inl (fun _ => iZ 0)))) := by
  unfold n12_12
  rw [List.getElem?_append_left (by rw [l12_11]; decide)]
  exact g13_11 G n
theorem g13_13 (G : KG) (n : Nat) : (n12_13 G n)[1]? = some (.inl (G.2.2.2.1.1, (350, .inl (fun _ => iZ 0)))) := by
  unfold n12_13
  rw [List.getElem?_append_left (by rw [l12_12]; decide)]
  exact g13_12 G n
theorem g13_14 (G : KG) (n : Nat) : (n12_14 G n)[1]? = some (.inl (G.2.2.2.1.1, (350, .inl (fun _ => iZ 0)))) := by
  unfold n12_14
  rw [List.getElem?_append_left (by rw [l12_13]; decide)]
  exact g13_13 G n
theorem g13_15 (G : KG) (n : Nat) : (n12_15 G n)[1]? = some (.inl (G.2.2.2.1.1, (350, .inl (fun _ => iZ 0)))) := by
  unfold n12_15
  rw [List.getElem?_append_left (by rw [l12_14]; decide)]
  exact g13_14 G n
theorem g13_16 (G : KG) (n : Nat) : (n12_16 G n)[1]? = some (.inl (G.2.2.2.1.1, (350, .inl (fun _ => iZ 0)))) := by
  unfold n12_16
  rw [List.getElem?_append_left (by rw [l12_15]; decide)]
  exact g13_15 G n
theorem g13_17 (G : KG) (n : Nat) : (n12_17 G n)[1]? = some (.inl (G.2.2.2.1.1, (350, .inl (fun _ => iZ 0)))) := by
  unfold n12_17
  rw [List.getElem?_append_left (by rw [l12_16]; decide)]
  exact g13_16 G n
theorem g13_18 (G : KG) (n : Nat) : (n12_18 G n)[1]? = some (.inl (G.2.2.2.1.1, (350, .inl (fun _ => iZ 0)))) := by
  unfold n12_18
  rw [List.getElem?_append_left (by rw [l12_17]; decide)]
  exact g13_17 G n
theorem g13_19 (G : KG) (n : Nat) : (n12_19 G n)[1]? = some (.inl (G.2.2.2.1.1, (350, .inl (fun _ => iZ 0)))) := by
  unfold n12_19
  rw [List.getElem?_append_left (by rw [l12_18]; decide)]
  exact g13_18 G n
theorem g13_20 (G : KG) (n : Nat) : (n12_20 G n)[1]? = some (.inl (G.2.2.2.1.1, (350, .inl (fun _ => iZ 0)))) := by
  unfold n12_20
  rw [List.getElem?_append_left (by rw [l12_19]; decide)]
  exact g13_19 G n
theorem g13_21 (G : KG) (n : Nat) : (n12_21 G n)[1]? = some (.inl (G.2.2.2.1.1, (350, .inl (fun _ => iZ 0)))) := by
  unfold n12_21
  rw [List.getElem?_append_left (by rw [l12_20]; decide)]
  exact g13_20 G n
theorem g13_22 (G : KG) (n : Nat) : (n12_22 G n)[1]? = some (.inl (G.2.2.2.1.1, (350, .inl (fun _ => iZ 0)))) := by
  unfold n12_22
  rw [List.getElem?_append_left (by rw [l12_21]; decide)]
  exact g13_21 G n
theorem g13_23 (G : KG) (n : Nat) : (n12_23 G n)[1]? = some (.inl (G.2.2.2.1.1, (350, .inl (fun _ => iZ 0)))) := by
  unfold n12_23
  rw [List.getElem?_append_left (by rw [l12_22]; decide)]
  exact g13_22 G n
theorem g13_24 (G : KG) (n : Nat) : (n12_24 G n)[1]? = some (.inl (G.2.2.2.1.1, (350, .inl (fun _ => iZ 0)))) := by
  unfold n12_24
  rw [List.getElem?_append_left (by rw [l12_23]; decide)]
  exact g13_23 G n
theorem g13_25 (G : KG) (n : Nat) : (n12_25 G n)[1]? = some (.inl (G.2.2.2.1.1, (350, .inl (fun _ => iZ 0)))) := by
  unfold n12_25
  rw [List.getElem?_append_left (by rw [l12_24]; decide)]
  exact g13_24 G n
theorem e12 {G : KG} {X : KX} {o n : Nat} {E : Nat → va_E} (hX : KR X = rbX12) (C : FrB G X cX12_init 1 RX12 none wsX12_init true) (ho : o < n) : Wb G X 1 (QsB9 G X (n + 21) (bld E o (12, o12_25 G n) n ((n12_25 G n).set 1 (.inl (G.2.2.2.1.1, (350, .inl sA2)))))) 0 0 196 [some (.ref (G.2.1 + o))] [] (n + 21) (bld E o (12, o12_25 G n) n (n12_25 G n)) := by
  have hs : bup (bld E o (12, o12_25 G n) n (n12_25 G n)) (n + 1) (.inl (G.2.2.2.1.1, (350, .inl sA2))) = _ := bld_set (i := 1) ho (by rw [l12_25]; decide)
  rw [← hs]
  refine wb_aload_n C (j := 0) rfl rfl dX12_init_196 ?_
  refine wb_callV C (a' := 0) (b' := 0) bld_o (by omega) (ci := 12) (Cn := RX12) (T := TX12) (N := 48) rfl (c_clears (p := n + 1) bld_o (by omega) (g12 G n) (by omega) (bld_at ho (g13_25 G n))) gX12_init_X12_clears rfl (by decide) (by rw [hX]; exact ⟨by decide, by decide⟩) (Nat.le_of_ble_eq_true rfl) rfl rfl dX12_init_197 ?_
  exact wb_vret C dX12_init_200
theorem c_X12 {G : KG} {o n : Nat} {E : Nat → va_E} (h : E o = .inr (12, zX12)) (ho : o < n) : CtrB G yX12_init wsX12_init rbX12 [.ref (G.2.1 + o)] n E (n + 21) (bld E o (12, o12_25 G n) n ((n12_25 G n).set 1 (.inl (G.2.2.2.1.1, (350, .inl sA2))))) := by
  refine CtrB.of (cc := cX12_init) (nL := 1) [some (.ref (G.2.1 + o))] (by decide +kernel) rfl rfl (Nat.le_of_ble_eq_true rfl) (Nat.le_of_ble_eq_true rfl) (by rintro q (_ | ⟨_, _ | ⟨⟩⟩); exact List.Mem.head _) (fun X hX C => ?_)
  refine wb_aload_n C (j := 0) rfl rfl dX12_init_0 ?_
  refine wb_obj C (by decide +kernel) (by decide +kernel) (by decide +kernel) (by rw [hX]; exact ⟨by decide, by decide⟩) dX12_init_1 ?_
  refine wl_start h ?_
  refine s12_0 (a := 20) (b := 4114) C ho ?_
  refine s12_1 (a := 20) (b := 4114) C ho ?_
  refine s12_2 (a := 20) (b := 4114) C ho ?_
  refine s12_3 (a := 20) (b := 4114) C ho ?_
  refine s12_4 (a := 20) (b := 4114) C ho ?_
  refine s12_5 (a := 19) (b := 3764) C ho ?_
  refine s12_6 (a := 18) (b := 3414) C ho ?_
  refine s12_7 (a := 17) (b := 1314) C ho ?_
  refine s12_8 (a := 16) (b := 964) C ho ?_
  refine s12_9 (a := 15) (b := 614) C ho ?_
  refine s12_10 (a := 14) (b := 600) C ho ?_
  refine s12_11 (a := 13) (b := 586) C ho ?_
  refine s12_12 (a := 12) (b := 572) C ho ?_
  refine s12_13 (a := 11) (b := 558) C ho ?_
  refine s12_14 (a := 10) (b := 509) C ho ?_
  refine s12_15 (a := 9) (b := 502) C ho ?_
  refine s12_16 (a := 8) (b := 495) C ho ?_
  refine s12_17 (a := 7) (b := 488) C ho ?_
  refine s12_18 (a := 6) (b := 484) C ho ?_
  refine s12_19 (a := 5) (b := 424) C ho ?_
  refine s12_20 (a := 4) (b := 364) C ho ?_
  refine s12_21 (a := 3) (b := 304) C ho ?_
  refine s12_22 (a := 2) (b := 302) C ho ?_
  refine s12_23 (a := 1) (b := 300) C ho ?_
  refine s12_24 (a := 0) (b := 0) C ho ?_
  exact e12 hX C ho
