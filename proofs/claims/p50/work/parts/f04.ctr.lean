/-! ===== building: what each constructor makes ===== -/
theorem wl_start {G : KG} {X : KX} {nL : Nat} {Qs : State → Prop} {a b pc n o : Nat} {E : Nat → va_E} {x : Nat × List Value} {lv : List (Option Value)} {st : List Value} (h : E o = .inr x) (k : Wb G X nL Qs a b pc lv st (n + 0) (bld E o x n [])) : Wb G X nL Qs a b pc lv st n E := by
  rw [bld_nil h] at k; exact k
theorem in_bX10 : ∀ w ∈ wsX100, w ∈ wsX10_init := by decide +kernel
theorem bf_X10_9 : FLk wsX10_init RX10 9 13 0 := flk 13 0 rfl tyX10_ok nmX10 in_bX10 (by decide) (by decide +kernel)
theorem fqb_X10_0 : FQk 13 0 RX10 (.array .int) := fun C9 T9 N9 h => by
  have h : some (RX10, TX10, 12) = some (C9, T9, N9) := h
  cases h
  exact ⟨rfl, rfl, by decide +kernel⟩
theorem bf_X10_15 : FLk wsX10_init RX10 15 13 10 := flk 13 10 rfl tyX10_ok nmX10 in_bX10 (by decide) (by decide +kernel)
theorem fpb_X10_10 : FPk 13 10 (.int) := fun C9 T9 N9 h => by
  have h : some (RX10, TX10, 12) = some (C9, T9, N9) := h
  cases h
  exact ⟨rfl, by decide +kernel⟩
theorem bf_X10_19 : FLk wsX10_init RX10 19 13 11 := flk 13 11 rfl tyX10_ok nmX10 in_bX10 (by decide) (by decide +kernel)
theorem fpb_X10_11 : FPk 13 11 (.int) := fun C9 T9 N9 h => by
  have h : some (RX10, TX10, 12) = some (C9, T9, N9) := h
  cases h
  exact ⟨rfl, by decide +kernel⟩
def zX10 : List Value := [.null, .int 0, .int 0, .int 0, .int 0, .int 0, .long 0, .int 0, .int 0, .int 0, .int 0, .int 0]
def oX10 (G : KG) (n : Nat) : List Value := [.ref (G.2.1 + (n + 0)), .int 0, .int 0, .int 0, .int 0, .int 0, .long 0, .int 0, .int 0, .int 0, .int (iZ (-1)), .int (iZ (-1))]
def nX10 (G : KG) : List va_E := [.inl (G.2.2.2.1.1, (800, .inl (fun _ => iZ 0)))]
def rbX10 : Room := { frames := 1, cells := 1, slots := 800, locals := 20 }
theorem c_X10 {G : KG} {o n : Nat} {E : Nat → va_E} (h : E o = .inr (13, zX10)) (ho : o < n) : CtrB G yX10_init wsX10_init rbX10 [.ref (G.2.1 + o)] n E (n + 1) (bld E o (13, oX10 G n) n (nX10 G)) := by
  refine CtrB.of (cc := cX10_init) (nL := 1) [some (.ref (G.2.1 + o))] rfl rfl rfl (Nat.le_of_ble_eq_true rfl) (Nat.le_of_ble_eq_true rfl) (by rintro q (_ | ⟨_, _ | ⟨⟩⟩); exact List.Mem.head _) (fun X hX C => ?_)
  refine wb_aload_n C (j := 0) rfl rfl dX10_init_0 ?_
  refine wb_obj C (by decide +kernel) (by decide +kernel) (by decide +kernel) (by rw [hX]; exact ⟨by decide, by decide⟩) dX10_init_1 ?_
  refine wb_aload_n C (j := 0) rfl rfl dX10_init_4 ?_
  refine wb_sipush C rfl dX10_init_5 ?_
  refine wl_start h ?_
  refine wl_newI C (k := 0) (N := 800) (a' := 0) (b' := 0) ho rfl rfl (by decide) (by decide +kernel) dX10_init_8 rfl rfl ?_
  refine wl_putF C (k := 1) bf_X10_9 fqb_X10_0 ho rfl rfl (Nat.le_of_ble_eq_true rfl) dX10_init_10 ?_
  refine wb_aload_n C (j := 0) rfl rfl dX10_init_13 ?_
  refine wb_iconst C dX10_init_14 ?_
  refine wl_put C (k := 1) bf_X10_15 fpb_X10_10 ho rfl rfl (Nat.le_of_ble_eq_true rfl) dX10_init_15 ?_
  refine wb_aload_n C (j := 0) rfl rfl dX10_init_18 ?_
  refine wb_iconst C dX10_init_19 ?_
  refine wl_put C (k := 1) bf_X10_19 fpb_X10_11 ho rfl rfl (Nat.le_of_ble_eq_true rfl) dX10_init_20 ?_
  exact wb_vret C dX10_init_23
def zX9 : List Value := [.int 0]
def oX9 (G : KG) (n : Nat) : List Value := [.int 0]
def nX9 (G : KG) : List va_E := []
def rbX9 : Room := { frames := 1, cells := 0, slots := 0, locals := 20 }
theorem c_X9 {G : KG} {o n : Nat} {E : Nat → va_E} (h : E o = .inr (12, zX9)) (ho : o < n) : CtrB G yX9_init wsX9_init rbX9 [.ref (G.2.1 + o)] n E (n + 0) (bld E o (12, oX9 G n) n (nX9 G)) := by
  refine CtrB.of (cc := cX9_init) (nL := 1) [some (.ref (G.2.1 + o))] rfl rfl rfl (Nat.le_of_ble_eq_true rfl) (Nat.le_of_ble_eq_true rfl) (by rintro q (_ | ⟨_, _ | ⟨⟩⟩); exact List.Mem.head _) (fun X hX C => ?_)
  refine wb_aload_n C (j := 0) rfl rfl dX9_init_0 ?_
  refine wb_obj C (by decide +kernel) (by decide +kernel) (by decide +kernel) (by rw [hX]; exact ⟨by decide, by decide⟩) dX9_init_1 ?_
  refine wl_start h ?_
  exact wb_vret C dX9_init_4
theorem in_bX7 : ∀ w ∈ wsX70, w ∈ wsX7_init := by decide +kernel
theorem bf_X7_9 : FLk wsX7_init RX7 9 10 0 := flk 10 0 rfl tyX7_ok nmX7 in_bX7 (by decide) (by decide +kernel)
theorem fqb_X7_0 : FQk 10 0 RX7 (.array .int) := fun C9 T9 N9 h => by
  have h : some (RX7, TX7, 1) = some (C9, T9, N9) := h
  cases h
  exact ⟨rfl, rfl, by decide +kernel⟩
def zX7 : List Value := [.null]
def oX7 (G : KG) (n : Nat) : List Value := [.ref (G.2.1 + (n + 0))]
def nX7 (G : KG) : List va_E := [.inl (G.2.2.2.1.1, (2, .inl (fun _ => iZ 0)))]
def rbX7 : Room := { frames := 1, cells := 1, slots := 2, locals := 20 }
theorem c_X7 {G : KG} {o n : Nat} {E : Nat → va_E} (h : E o = .inr (10, zX7)) (ho : o < n) : CtrB G yX7_init wsX7_init rbX7 [.ref (G.2.1 + o)] n E (n + 1) (bld E o (10, oX7 G n) n (nX7 G)) := by
  refine CtrB.of (cc := cX7_init) (nL := 1) [some (.ref (G.2.1 + o))] rfl rfl rfl (Nat.le_of_ble_eq_true rfl) (Nat.le_of_ble_eq_true rfl) (by rintro q (_ | ⟨_, _ | ⟨⟩⟩); exact List.Mem.head _) (fun X hX C => ?_)
  refine wb_aload_n C (j := 0) rfl rfl dX7_init_0 ?_
  refine wb_obj C (by decide +kernel) (by decide +kernel) (by decide +kernel) (by rw [hX]; exact ⟨by decide, by decide⟩) dX7_init_1 ?_
  refine wb_aload_n C (j := 0) rfl rfl dX7_init_4 ?_
  refine wb_iconst C dX7_init_5 ?_
  refine wl_start h ?_
  refine wl_newI C (k := 0) (N := 2) (a' := 0) (b' := 0) ho rfl rfl (by decide) (by decide +kernel) dX7_init_6 rfl rfl ?_
  refine wl_putF C (k := 1) bf_X7_9 fqb_X7_0 ho rfl rfl (Nat.le_of_ble_eq_true rfl) dX7_init_8 ?_
  exact wb_vret C dX7_init_11
theorem in_bX6 : ∀ w ∈ wsX60, w ∈ wsX6_init := by decide +kernel
theorem bf_X6_9 : FLk wsX6_init RX6 9 9 0 := flk 9 0 rfl tyX6_ok nmX6 in_bX6 (by decide) (by decide +kernel)
theorem fqb_X6_0 : FQk 9 0 RX6 (.array .int) := fun C9 T9 N9 h => by
  have h : some (RX6, TX6, 6) = some (C9, T9, N9) := h
  cases h
  exact ⟨rfl, rfl, by decide +kernel⟩
theorem bf_X6_15 : FLk wsX6_init RX6 15 9 1 := flk 9 1 rfl tyX6_ok nmX6 in_bX6 (by decide) (by decide +kernel)
theorem fqb_X6_1 : FQk 9 1 RX6 (.array .int) := fun C9 T9 N9 h => by
  have h : some (RX6, TX6, 6) = some (C9, T9, N9) := h
  cases h
  exact ⟨rfl, rfl, by decide +kernel⟩
theorem bf_X6_18 : FLk wsX6_init RX6 18 9 2 := flk 9 2 rfl tyX6_ok nmX6 in_bX6 (by decide) (by decide +kernel)
theorem fqb_X6_2 : FQk 9 2 RX6 (.array .int) := fun C9 T9 N9 h => by
  have h : some (RX6, TX6, 6) = some (C9, T9, N9) := h
  cases h
  exact ⟨rfl, rfl, by decide +kernel⟩
theorem bf_X6_21 : FLk wsX6_init RX6 21 9 3 := flk 9 3 rfl tyX6_ok nmX6 in_bX6 (by decide) (by decide +kernel)
theorem fqb_X6_3 : FQk 9 3 RX6 (.array .int) := fun C9 T9 N9 h => by
  have h : some (RX6, TX6, 6) = some (C9, T9, N9) := h
  cases h
  exact ⟨rfl, rfl, by decide +kernel⟩
def zX6 : List Value := [.null, .null, .null, .null, .int 0, .int 0]
def oX6 (G : KG) (n : Nat) : List Value := [.ref (G.2.1 + (n + 0)), .ref (G.2.1 + (n + 1)), .ref (G.2.1 + (n + 2)), .ref (G.2.1 + (n + 3)), .int 0, .int 0]
def nX6 (G : KG) : List va_E := [.inl (G.2.2.2.1.1, (60, .inl (fun _ => iZ 0))), .inl (G.2.2.2.1.1, (60, .inl (fun _ => iZ 0))), .inl (G.2.2.2.1.1, (60, .inl (fun _ => iZ 0))), .inl (G.2.2.2.1.1, (60, .inl (fun _ => iZ 0)))]
def rbX6 : Room := { frames := 1, cells := 4, slots := 240, locals := 20 }
theorem c_X6 {G : KG} {o n : Nat} {E : Nat → va_E} (h : E o = .inr (9, zX6)) (ho : o < n) : CtrB G yX6_init wsX6_init rbX6 [.ref (G.2.1 + o)] n E (n + 4) (bld E o (9, oX6 G n) n (nX6 G)) := by
  refine CtrB.of (cc := cX6_init) (nL := 1) [some (.ref (G.2.1 + o))] rfl rfl rfl (Nat.le_of_ble_eq_true rfl) (Nat.le_of_ble_eq_true rfl) (by rintro q (_ | ⟨_, _ | ⟨⟩⟩); exact List.Mem.head _) (fun X hX C => ?_)
  refine wb_aload_n C (j := 0) rfl rfl dX6_init_0 ?_
  refine wb_obj C (by decide +kernel) (by decide +kernel) (by decide +kernel) (by rw [hX]; exact ⟨by decide, by decide⟩) dX6_init_1 ?_
  refine wb_aload_n C (j := 0) rfl rfl dX6_init_4 ?_
  refine wb_bipush C rfl dX6_init_5 ?_
  refine wl_start h ?_
  refine wl_newI C (k := 0) (N := 60) (a' := 3) (b' := 180) ho rfl rfl (by decide) (by decide +kernel) dX6_init_7 rfl rfl ?_
  refine wl_putF C (k := 1) bf_X6_9 fqb_X6_0 ho rfl rfl (Nat.le_of_ble_eq_true rfl) dX6_init_9 ?_
  refine wb_aload_n C (j := 0) rfl rfl dX6_init_12 ?_
  refine wb_bipush C rfl dX6_init_13 ?_
  refine wl_newI C (k := 1) (N := 60) (a' := 2) (b' := 120) ho rfl rfl (by decide) (by decide +kernel) dX6_init_15 rfl rfl ?_
  refine wl_putF C (k := 2) bf_X6_15 fqb_X6_1 ho rfl rfl (Nat.le_of_ble_eq_true rfl) dX6_init_17 ?_
  refine wb_aload_n C (j := 0) rfl rfl dX6_init_20 ?_
  refine wb_bipush C rfl dX6_init_21 ?_
  refine wl_newI C (k := 2) (N := 60) (a' := 1) (b' := 60) ho rfl rfl (by decide) (by decide +kernel) dX6_init_23 rfl rfl ?_
  refine wl_putF C (k := 3) bf_X6_18 fqb_X6_2 ho rfl rfl (Nat.le_of_ble_eq_true rfl) dX6_init_25 ?_
  refine wb_aload_n C (j := 0) rfl rfl dX6_init_28 ?_
  refine wb_bipush C rfl dX6_init_29 ?_
  refine wl_newI C (k := 3) (N := 60) (a' := 0) (b' := 0) ho rfl rfl (by decide) (by decide +kernel) dX6_init_31 rfl rfl ?_
  refine wl_putF C (k := 4) bf_X6_21 fqb_X6_3 ho rfl rfl (Nat.le_of_ble_eq_true rfl) dX6_init_33 ?_
  exact wb_vret C dX6_init_36
theorem in_bX8 : ∀ w ∈ wsX80, w ∈ wsX8_init := by decide +kernel
theorem bf_X8_9 : FLk wsX8_init RX8 9 11 3 := flk 11 3 rfl tyX8_ok nmX8 in_bX8 (by decide) (by decide +kernel)
theorem fqb_X8_3 : FQk 11 3 RX8 (.array .int) := fun C9 T9 N9 h => by
  have h : some (RX8, TX8, 7) = some (C9, T9, N9) := h
  cases h
  exact ⟨rfl, rfl, by decide +kernel⟩
theorem bf_X8_15 : FLk wsX8_init RX8 15 11 4 := flk 11 4 rfl tyX8_ok nmX8 in_bX8 (by decide) (by decide +kernel)
theorem fqb_X8_4 : FQk 11 4 RX8 (.array .int) := fun C9 T9 N9 h => by
  have h : some (RX8, TX8, 7) = some (C9, T9, N9) := h
  cases h
  exact ⟨rfl, rfl, by decide +kernel⟩
theorem bf_X8_18 : FLk wsX8_init RX8 18 11 5 := flk 11 5 rfl tyX8_ok nmX8 in_bX8 (by decide) (by decide +kernel)
theorem fqb_X8_5 : FQk 11 5 RX8 (.array .int) := fun C9 T9 N9 h => by
  have h : some (RX8, TX8, 7) = some (C9, T9, N9) := h
  cases h
  exact ⟨rfl, rfl, by decide +kernel⟩
theorem bf_X8_21 : FLk wsX8_init RX8 21 11 6 := flk 11 6 rfl tyX8_ok nmX8 in_bX8 (by decide) (by decide +kernel)
theorem fqb_X8_6 : FQk 11 6 RX8 (.array .int) := fun C9 T9 N9 h => by
  have h : some (RX8, TX8, 7) = some (C9, T9, N9) := h
  cases h
  exact ⟨rfl, rfl, by decide +kernel⟩
def zX8 : List Value := [.int 0, .int 0, .int 0, .null, .null, .null, .null]
def oX8 (G : KG) (n : Nat) : List Value := [.int 0, .int 0, .int 0, .ref (G.2.1 + (n + 0)), .ref (G.2.1 + (n + 1)), .ref (G.2.1 + (n + 2)), .ref (G.2.1 + (n + 3))]
def nX8 (G : KG) : List va_E := [.inl (G.2.2.2.1.1, (14, .inl (fun _ => iZ 0))), .inl (G.2.2.2.1.1, (5, .inl (fun _ => iZ 0))), .inl (G.2.2.2.1.1, (70, .inl (fun _ => iZ 0))), .inl (G.2.2.2.1.1, (120, .inl (fun _ => iZ 0)))]
def rbX8 : Room := { frames := 1, cells := 4, slots := 209, locals := 20 }
theorem c_X8 {G : KG} {o n : Nat} {E : Nat → va_E} (h : E o = .inr (11, zX8)) (ho : o < n) : CtrB G yX8_init wsX8_init rbX8 [.ref (G.2.1 + o)] n E (n + 4) (bld E o (11, oX8 G n) n (nX8 G)) := by
  refine CtrB.of (cc := cX8_init) (nL := 1) [some (.ref (G.2.1 + o))] rfl rfl rfl (Nat.le_of_ble_eq_true rfl) (Nat.le_of_ble_eq_true rfl) (by rintro q (_ | ⟨_, _ | ⟨⟩⟩); exact List.Mem.head _) (fun X hX C => ?_)
  refine wb_aload_n C (j := 0) rfl rfl dX8_init_0 ?_
  refine wb_obj C (by decide +kernel) (by decide +kernel) (by decide +kernel) (by rw [hX]; exact ⟨by decide, by decide⟩) dX8_init_1 ?_
  refine wb_aload_n C (j := 0) rfl rfl dX8_init_4 ?_
  refine wb_bipush C rfl dX8_init_5 ?_
  refine wl_start h ?_
  refine wl_newI C (k := 0) (N := 14) (a' := 3) (b' := 195) ho rfl rfl (by decide) (by decide +kernel) dX8_init_7 rfl rfl ?_
  refine wl_putF C (k := 1) bf_X8_9 fqb_X8_3 ho rfl rfl (Nat.le_of_ble_eq_true rfl) dX8_init_9 ?_
  refine wb_aload_n C (j := 0) rfl rfl dX8_init_12 ?_
  refine wb_iconst C dX8_init_13 ?_
  refine wl_newI C (k := 1) (N := 5) (a' := 2) (b' := 190) ho rfl rfl (by decide) (by decide +kernel) dX8_init_14 rfl rfl ?_
  refine wl_putF C (k := 2) bf_X8_15 fqb_X8_4 ho rfl rfl (Nat.le_of_ble_eq_true rfl) dX8_init_16 ?_
  refine wb_aload_n C (j := 0) rfl rfl dX8_init_19 ?_
  refine wb_bipush C rfl dX8_init_20 ?_
  refine wl_newI C (k := 2) (N := 70) (a' := 1) (b' := 120) ho rfl rfl (by decide) (by decide +kernel) dX8_init_22 rfl rfl ?_
  refine wl_putF C (k := 3) bf_X8_18 fqb_X8_5 ho rfl rfl (Nat.le_of_ble_eq_true rfl) dX8_init_24 ?_
  refine wb_aload_n C (j := 0) rfl rfl dX8_init_27 ?_
  refine wb_bipush C rfl dX8_init_28 ?_
  refine wl_newI C (k := 3) (N := 120) (a' := 0) (b' := 0) ho rfl rfl (by decide) (by decide +kernel) dX8_init_30 rfl rfl ?_
  refine wl_putF C (k := 4) bf_X8_21 fqb_X8_6 ho rfl rfl (Nat.le_of_ble_eq_true rfl) dX8_init_32 ?_
  exact wb_vret C dX8_init_35
theorem in_bX4 : ∀ w ∈ wsX40, w ∈ wsX4_init := by decide +kernel
theorem bf_X4_9 : FLk wsX4_init RX4 9 7 6 := flk 7 6 rfl tyX4_ok nmX4 in_bX4 (by decide) (by decide +kernel)
theorem fqb_X4_6 : FQk 7 6 RX4 (.array .int) := fun C9 T9 N9 h => by
  have h : some (RX4, TX4, 12) = some (C9, T9, N9) := h
  cases h
  exact ⟨rfl, rfl, by decide +kernel⟩
theorem bf_X4_15 : FLk wsX4_init RX4 15 7 7 := flk 7 7 rfl tyX4_ok nmX4 in_bX4 (by decide) (by decide +kernel)
theorem fqb_X4_7 : FQk 7 7 RX4 (.array .int) := fun C9 T9 N9 h => by
  have h : some (RX4, TX4, 12) = some (C9, T9, N9) := h
  cases h
  exact ⟨rfl, rfl, by decide +kernel⟩
theorem bf_X4_18 : FLk wsX4_init RX4 18 7 8 := flk 7 8 rfl tyX4_ok nmX4 in_bX4 (by decide) (by decide +kernel)
theorem fqb_X4_8 : FQk 7 8 RX4 (.array .int) := fun C9 T9 N9 h => by
  have h : some (RX4, TX4, 12) = some (C9, T9, N9) := h
  cases h
  exact ⟨rfl, rfl, by decide +kernel⟩
theorem bf_X4_21 : FLk wsX4_init RX4 21 7 9 := flk 7 9 rfl tyX4_ok nmX4 in_bX4 (by decide) (by decide +kernel)
theorem fqb_X4_9 : FQk 7 9 RX4 (.array .int) := fun C9 T9 N9 h => by
  have h : some (RX4, TX4, 12) = some (C9, T9, N9) := h
  cases h
  exact ⟨rfl, rfl, by decide +kernel⟩
theorem bf_X4_24 : FLk wsX4_init RX4 24 7 10 := flk 7 10 rfl tyX4_ok nmX4 in_bX4 (by decide) (by decide +kernel)
theorem fqb_X4_10 : FQk 7 10 RX4 (.array .int) := fun C9 T9 N9 h => by
  have h : some (RX4, TX4, 12) = some (C9, T9, N9) := h
  cases h
  exact ⟨rfl, rfl, by decide +kernel⟩
theorem bf_X4_27 : FLk wsX4_init RX4 27 7 11 := flk 7 11 rfl tyX4_ok nmX4 in_bX4 (by decide) (by decide +kernel)
theorem fqb_X4_11 : FQk 7 11 RX4 (.array .int) := fun C9 T9 N9 h => by
  have h : some (RX4, TX4, 12) = some (C9, T9, N9) := h
  cases h
  exact ⟨rfl, rfl, by decide +kernel⟩
def zX4 : List Value := [.int 0, .int 0, .int 0, .int 0, .int 0, .int 0, .null, .null, .null, .null, .null, .null]
def oX4 (G : KG) (n : Nat) : List Value := [.int 0, .int 0, .int 0, .int 0, .int 0, .int 0, .ref (G.2.1 + (n + 0)), .ref (G.2.1 + (n + 1)), .ref (G.2.1 + (n + 2)), .ref (G.2.1 + (n + 3)), .ref (G.2.1 + (n + 4)), .ref (G.2.1 + (n + 5))]
def nX4 (G : KG) : List va_E := [.inl (G.2.2.2.1.1, (14, .inl (fun _ => iZ 0))), .inl (G.2.2.2.1.1, (14, .inl (fun _ => iZ 0))), .inl (G.2.2.2.1.1, (14, .inl (fun _ => iZ 0))), .inl (G.2.2.2.1.1, (4, .inl (fun _ => iZ 0))), .inl (G.2.2.2.1.1, (4, .inl (fun _ => iZ 0))), .inl (G.2.2.2.1.1, (56, .inl (fun _ => iZ 0)))]
def rbX4 : Room := { frames := 1, cells := 6, slots := 106, locals := 20 }
theorem c_X4 {G : KG} {o n : Nat} {E : Nat → va_E} (h : E o = .inr (7, zX4)) (ho : o < n) : CtrB G yX4_init wsX4_init rbX4 [.ref (G.2.1 + o)] n E (n + 6) (bld E o (7, oX4 G n) n (nX4 G)) := by
  refine CtrB.of (cc := cX4_init) (nL := 1) [some (.ref (G.2.1 + o))] rfl rfl rfl (Nat.le_of_ble_eq_true rfl) (Nat.le_of_ble_eq_true rfl) (by rintro q (_ | ⟨_, _ | ⟨⟩⟩); exact List.Mem.head _) (fun X hX C => ?_)
  refine wb_aload_n C (j := 0) rfl rfl dX4_init_0 ?_
  refine wb_obj C (by decide +kernel) (by decide +kernel) (by decide +kernel) (by rw [hX]; exact ⟨by decide, by decide⟩) dX4_init_1 ?_
  refine wb_aload_n C (j := 0) rfl rfl dX4_init_4 ?_
  refine wb_bipush C rfl dX4_init_5 ?_
  refine wl_start h ?_
  refine wl_newI C (k := 0) (N := 14) (a' := 5) (b' := 92) ho rfl rfl (by decide) (by decide +kernel) dX4_init_7 rfl rfl ?_
  refine wl_putF C (k := 1) bf_X4_9 fqb_X4_6 ho rfl rfl (Nat.le_of_ble_eq_true rfl) dX4_init_9 ?_
  refine wb_aload_n C (j := 0) rfl rfl dX4_init_12 ?_
  refine wb_bipush C rfl dX4_init_13 ?_
  refine wl_newI C (k := 1) (N := 14) (a' := 4) (b' := 78) ho rfl rfl (by decide) (by decide +kernel) dX4_init_15 rfl rfl ?_
  refine wl_putF C (k := 2) bf_X4_15 fqb_X4_7 ho rfl rfl (Nat.le_of_ble_eq_true rfl) dX4_init_17 ?_
  refine wb_aload_n C (j := 0) rfl rfl dX4_init_20 ?_
  refine wb_bipush C rfl dX4_init_21 ?_
  refine wl_newI C (k := 2) (N := 14) (a' := 3) (b' := 64) ho rfl rfl (by decide) (by decide +kernel) dX4_init_23 rfl rfl ?_
  refine wl_putF C (k := 3) bf_X4_18 fqb_X4_8 ho rfl rfl (Nat.le_of_ble_eq_true rfl) dX4_init_25 ?_
  refine wb_aload_n C (j := 0) rfl rfl dX4_init_28 ?_
  refine wb_iconst C dX4_init_29 ?_
  refine wl_newI C (k := 3) (N := 4) (a' := 2) (b' := 60) ho rfl rfl (by decide) (by decide +kernel) dX4_init_30 rfl rfl ?_
  refine wl_putF C (k := 4) bf_X4_21 fqb_X4_9 ho rfl rfl (Nat.le_of_ble_eq_true rfl) dX4_init_32 ?_
  refine wb_aload_n C (j := 0) rfl rfl dX4_init_35 ?_
  refine wb_iconst C dX4_init_36 ?_
  refine wl_newI C (k := 4) (N := 4) (a' := 1) (b' := 56) ho rfl rfl (by decide) (by decide +kernel) dX4_init_37 rfl rfl ?_
  refine wl_putF C (k := 5) bf_X4_24 fqb_X4_10 ho rfl rfl (Nat.le_of_ble_eq_true rfl) dX4_init_39 ?_
  refine wb_aload_n C (j := 0) rfl rfl dX4_init_42 ?_
  refine wb_bipush C rfl dX4_init_43 ?_
  refine wl_newI C (k := 5) (N := 56) (a' := 0) (b' := 0) ho rfl rfl (by decide) (by decide +kernel) dX4_init_45 rfl rfl ?_
  refine wl_putF C (k := 6) bf_X4_27 fqb_X4_11 ho rfl rfl (Nat.le_of_ble_eq_true rfl) dX4_init_47 ?_
  exact wb_vret C dX4_init_50
theorem in_bX5 : ∀ w ∈ wsX50, w ∈ wsX5_init := by decide +kernel
theorem bf_X5_9 : FLk wsX5_init RX5 9 8 0 := flk 8 0 rfl tyX5_ok nmX5 in_bX5 (by decide) (by decide +kernel)
theorem fqb_X5_0 : FQk 8 0 RX5 (.array .int) := fun C9 T9 N9 h => by
  have h : some (RX5, TX5, 5) = some (C9, T9, N9) := h
  cases h
  exact ⟨rfl, rfl, by decide +kernel⟩
theorem bf_X5_15 : FLk wsX5_init RX5 15 8 1 := flk 8 1 rfl tyX5_ok nmX5 in_bX5 (by decide) (by decide +kernel)
theorem fqb_X5_1 : FQk 8 1 RX5 (.array .int) := fun C9 T9 N9 h => by
  have h : some (RX5, TX5, 5) = some (C9, T9, N9) := h
  cases h
  exact ⟨rfl, rfl, by decide +kernel⟩
theorem bf_X5_18 : FLk wsX5_init RX5 18 8 2 := flk 8 2 rfl tyX5_ok nmX5 in_bX5 (by decide) (by decide +kernel)
theorem fqb_X5_2 : FQk 8 2 RX5 (.array .int) := fun C9 T9 N9 h => by
  have h : some (RX5, TX5, 5) = some (C9, T9, N9) := h
  cases h
  exact ⟨rfl, rfl, by decide +kernel⟩
def zX5 : List Value := [.null, .null, .null, .int 0, .int 0]
def oX5 (G : KG) (n : Nat) : List Value := [.ref (G.2.1 + (n + 0)), .ref (G.2.1 + (n + 1)), .ref (G.2.1 + (n + 2)), .int 0, .int 0]
def nX5 (G : KG) : List va_E := [.inl (G.2.2.2.1.1, (196, .inl (fun _ => iZ 0))), .inl (G.2.2.2.1.1, (14, .inl (fun _ => iZ 0))), .inl (G.2.2.2.1.1, (14, .inl (fun _ => iZ 0)))]
def rbX5 : Room := { frames := 1, cells := 3, slots := 224, locals := 20 }
theorem c_X5 {G : KG} {o n : Nat} {E : Nat → va_E} (h : E o = .inr (8, zX5)) (ho : o < n) : CtrB G yX5_init wsX5_init rbX5 [.ref (G.2.1 + o)] n E (n + 3) (bld E o (8, oX5 G n) n (nX5 G)) := by
  refine CtrB.of (cc := cX5_init) (nL := 1) [some (.ref (G.2.1 + o))] rfl rfl rfl (Nat.le_of_ble_eq_true rfl) (Nat.le_of_ble_eq_true rfl) (by rintro q (_ | ⟨_, _ | ⟨⟩⟩); exact List.Mem.head _) (fun X hX C => ?_)
  refine wb_aload_n C (j := 0) rfl rfl dX5_init_0 ?_
  refine wb_obj C (by decide +kernel) (by decide +kernel) (by decide +kernel) (by rw [hX]; exact ⟨by decide, by decide⟩) dX5_init_1 ?_
  refine wb_aload_n C (j := 0) rfl rfl dX5_init_4 ?_
  refine wb_sipush C rfl dX5_init_5 ?_
  refine wl_start h ?_
  refine wl_newI C (k := 0) (N := 196) (a' := 2) (b' := 28) ho rfl rfl (by decide) (by decide +kernel) dX5_init_8 rfl rfl ?_
  refine wl_putF C (k := 1) bf_X5_9 fqb_X5_0 ho rfl rfl (Nat.le_of_ble_eq_true rfl) dX5_init_10 ?_
  refine wb_aload_n C (j := 0) rfl rfl dX5_init_13 ?_
  refine wb_bipush C rfl dX5_init_14 ?_
  refine wl_newI C (k := 1) (N := 14) (a' := 1) (b' := 14) ho rfl rfl (by decide) (by decide +kernel) dX5_init_16 rfl rfl ?_
  refine wl_putF C (k := 2) bf_X5_15 fqb_X5_1 ho rfl rfl (Nat.le_of_ble_eq_true rfl) dX5_init_18 ?_
  refine wb_aload_n C (j := 0) rfl rfl dX5_init_21 ?_
  refine wb_bipush C rfl dX5_init_22 ?_
  refine wl_newI C (k := 2) (N := 14) (a' := 0) (b' := 0) ho rfl rfl (by decide) (by decide +kernel) dX5_init_24 rfl rfl ?_
  refine wl_putF C (k := 3) bf_X5_18 fqb_X5_2 ho rfl rfl (Nat.le_of_ble_eq_true rfl) dX5_init_26 ?_
  exact wb_vret C dX5_init_29
theorem in_bX0 : ∀ w ∈ wsX00, w ∈ wsX0_init := by decide +kernel
theorem bf_X0_9 : FLk wsX0_init RX0 9 3 0 := flk 3 0 rfl tyX0_ok nmX0 in_bX0 (by decide) (by decide +kernel)
theorem fqb_X0_0 : FQk 3 0 RX0 (.array .int) := fun C9 T9 N9 h => by
  have h : some (RX0, TX0, 5) = some (C9, T9, N9) := h
  cases h
  exact ⟨rfl, rfl, by decide +kernel⟩
theorem bf_X0_15 : FLk wsX0_init RX0 15 3 1 := flk 3 1 rfl tyX0_ok nmX0 in_bX0 (by decide) (by decide +kernel)
theorem fqb_X0_1 : FQk 3 1 RX0 (.array .int) := fun C9 T9 N9 h => by
  have h : some (RX0, TX0, 5) = some (C9, T9, N9) := h
  cases h
  exact ⟨rfl, rfl, by decide +kernel⟩
theorem bf_X0_18 : FLk wsX0_init RX0 18 3 2 := flk 3 2 rfl tyX0_ok nmX0 in_bX0 (by decide) (by decide +kernel)
theorem fqb_X0_2 : FQk 3 2 RX0 (.array .int) := fun C9 T9 N9 h => by
  have h : some (RX0, TX0, 5) = some (C9, T9, N9) := h
  cases h
  exact ⟨rfl, rfl, by decide +kernel⟩
def zX0 : List Value := [.null, .null, .null, .int 0, .int 0]
def oX0 (G : KG) (n : Nat) : List Value := [.ref (G.2.1 + (n + 0)), .ref (G.2.1 + (n + 1)), .ref (G.2.1 + (n + 2)), .int 0, .int 0]
def nX0 (G : KG) : List va_E := [.inl (G.2.2.2.1.1, (7, .inl (fun _ => iZ 0))), .inl (G.2.2.2.1.1, (7, .inl (fun _ => iZ 0))), .inl (G.2.2.2.1.1, (4, .inl (fun _ => iZ 0)))]
def rbX0 : Room := { frames := 1, cells := 3, slots := 18, locals := 20 }
theorem c_X0 {G : KG} {o n : Nat} {E : Nat → va_E} (h : E o = .inr (3, zX0)) (ho : o < n) : CtrB G yX0_init wsX0_init rbX0 [.ref (G.2.1 + o)] n E (n + 3) (bld E o (3, oX0 G n) n (nX0 G)) := by
  refine CtrB.of (cc := cX0_init) (nL := 1) [some (.ref (G.2.1 + o))] rfl rfl rfl (Nat.le_of_ble_eq_true rfl) (Nat.le_of_ble_eq_true rfl) (by rintro q (_ | ⟨_, _ | ⟨⟩⟩); exact List.Mem.head _) (fun X hX C => ?_)
  refine wb_aload_n C (j := 0) rfl rfl dX0_init_0 ?_
  refine wb_obj C (by decide +kernel) (by decide +kernel) (by decide +kernel) (by rw [hX]; exact ⟨by decide, by decide⟩) dX0_init_1 ?_
  refine wb_aload_n C (j := 0) rfl rfl dX0_init_4 ?_
  refine wb_bipush C rfl dX0_init_5 ?_
  refine wl_start h ?_
  refine wl_newI C (k := 0) (N := 7) (a' := 2) (b' := 11) ho rfl rfl (by decide) (by decide +kernel) dX0_init_7 rfl rfl ?_
  refine wl_putF C (k := 1) bf_X0_9 fqb_X0_0 ho rfl rfl (Nat.le_of_ble_eq_true rfl) dX0_init_9 ?_
  refine wb_aload_n C (j := 0) rfl rfl dX0_init_12 ?_
  refine wb_bipush C rfl dX0_init_13 ?_
  refine wl_newI C (k := 1) (N := 7) (a' := 1) (b' := 4) ho rfl rfl (by decide) (by decide +kernel) dX0_init_15 rfl rfl ?_
  refine wl_putF C (k := 2) bf_X0_15 fqb_X0_1 ho rfl rfl (Nat.le_of_ble_eq_true rfl) dX0_init_17 ?_
  refine wb_aload_n C (j := 0) rfl rfl dX0_init_20 ?_
  refine wb_iconst C dX0_init_21 ?_
  refine wl_newI C (k := 2) (N := 4) (a' := 0) (b' := 0) ho rfl rfl (by decide) (by decide +kernel) dX0_init_22 rfl rfl ?_
  refine wl_putF C (k := 3) bf_X0_18 fqb_X0_2 ho rfl rfl (Nat.le_of_ble_eq_true rfl) dX0_init_24 ?_
  exact wb_vret C dX0_init_27
theorem in_bX1 : ∀ w ∈ wsX10, w ∈ wsX1_init := by decide +kernel
theorem bf_X1_9 : FLk wsX1_init RX1 9 4 0 := flk 4 0 rfl tyX1_ok nmX1 in_bX1 (by decide) (by decide +kernel)
theorem fqb_X1_0 : FQk 4 0 RX1 (.array .int) := fun C9 T9 N9 h => by
  have h : some (RX1, TX1, 6) = some (C9, T9, N9) := h
  cases h
  exact ⟨rfl, rfl, by decide +kernel⟩
theorem bf_X1_15 : FLk wsX1_init RX1 15 4 1 := flk 4 1 rfl tyX1_ok nmX1 in_bX1 (by decide) (by decide +kernel)
theorem fqb_X1_1 : FQk 4 1 RX1 (.array .int) := fun C9 T9 N9 h => by
  have h : some (RX1, TX1, 6) = some (C9, T9, N9) := h
  cases h
  exact ⟨rfl, rfl, by decide +kernel⟩
theorem bf_X1_18 : FLk wsX1_init RX1 18 4 2 := flk 4 2 rfl tyX1_ok nmX1 in_bX1 (by decide) (by decide +kernel)
theorem fqb_X1_2 : FQk 4 2 RX1 (.array .int) := fun C9 T9 N9 h => by
  have h : some (RX1, TX1, 6) = some (C9, T9, N9) := h
  cases h
  exact ⟨rfl, rfl, by decide +kernel⟩
def zX1 : List Value := [.null, .null, .null, .int 0, .int 0, .int 0]
def oX1 (G : KG) (n : Nat) : List Value := [.ref (G.2.1 + (n + 0)), .ref (G.2.1 + (n + 1)), .ref (G.2.1 + (n + 2)), .int 0, .int 0, .int 0]
def nX1 (G : KG) : List va_E := [.inl (G.2.2.2.1.1, (196, .inl (fun _ => iZ 0))), .inl (G.2.2.2.1.1, (14, .inl (fun _ => iZ 0))), .inl (G.2.2.2.1.1, (14, .inl (fun _ => iZ 0)))]
def rbX1 : Room := { frames := 1, cells := 3, slots := 224, locals := 20 }
theorem c_X1 {G : KG} {o n : Nat} {E : Nat → va_E} (h : E o = .inr (4, zX1)) (ho : o < n) : CtrB G yX1_init wsX1_init rbX1 [.ref (G.2.1 + o)] n E (n + 3) (bld E o (4, oX1 G n) n (nX1 G)) := by
  refine CtrB.of (cc := cX1_init) (nL := 1) [some (.ref (G.2.1 + o))] rfl rfl rfl (Nat.le_of_ble_eq_true rfl) (Nat.le_of_ble_eq_true rfl) (by rintro q (_ | ⟨_, _ | ⟨⟩⟩); exact List.Mem.head _) (fun X hX C => ?_)
  refine wb_aload_n C (j := 0) rfl rfl dX1_init_0 ?_
  refine wb_obj C (by decide +kernel) (by decide +kernel) (by decide +kernel) (by rw [hX]; exact ⟨by decide, by decide⟩) dX1_init_1 ?_
  refine wb_aload_n C (j := 0) rfl rfl dX1_init_4 ?_
  refine wb_sipush C rfl dX1_init_5 ?_
  refine wl_start h ?_
  refine wl_newI C (k := 0) (N := 196) (a' := 2) (b' := 28) ho rfl rfl (by decide) (by decide +kernel) dX1_init_8 rfl rfl ?_
  refine wl_putF C (k := 1) bf_X1_9 fqb_X1_0 ho rfl rfl (Nat.le_of_ble_eq_true rfl) dX1_init_10 ?_
  refine wb_aload_n C (j := 0) rfl rfl dX1_init_13 ?_
  refine wb_bipush C rfl dX1_init_14 ?_
  refine wl_newI C (k := 1) (N := 14) (a' := 1) (b' := 14) ho rfl rfl (by decide) (by decide +kernel) dX1_init_16 rfl rfl ?_
  refine wl_putF C (k := 2) bf_X1_15 fqb_X1_1 ho rfl rfl (Nat.le_of_ble_eq_true rfl) dX1_init_18 ?_
  refine wb_aload_n C (j := 0) rfl rfl dX1_init_21 ?_
  refine wb_bipush C rfl dX1_init_22 ?_
  refine wl_newI C (k := 2) (N := 14) (a' := 0) (b' := 0) ho rfl rfl (by decide) (by decide +kernel) dX1_init_24 rfl rfl ?_
  refine wl_putF C (k := 3) bf_X1_18 fqb_X1_2 ho rfl rfl (Nat.le_of_ble_eq_true rfl) dX1_init_26 ?_
  exact wb_vret C dX1_init_29
theorem in_bX2 : ∀ w ∈ wsX20, w ∈ wsX2_init := by decide +kernel
theorem bf_X2_9 : FLk wsX2_init RX2 9 5 2 := flk 5 2 rfl tyX2_ok nmX2 in_bX2 (by decide) (by decide +kernel)
theorem fpb_X2_2 : FPk 5 2 (.int) := fun C9 T9 N9 h => by
  have h : some (RX2, TX2, 12) = some (C9, T9, N9) := h
  cases h
  exact ⟨rfl, by decide +kernel⟩
theorem bf_X2_15 : FLk wsX2_init RX2 15 5 7 := flk 5 7 rfl tyX2_ok nmX2 in_bX2 (by decide) (by decide +kernel)
theorem fqb_X2_7 : FQk 5 7 RX2 (.array .long) := fun C9 T9 N9 h => by
  have h : some (RX2, TX2, 12) = some (C9, T9, N9) := h
  cases h
  exact ⟨rfl, rfl, by decide +kernel⟩
theorem bf_X2_19 : FLk wsX2_init RX2 19 5 8 := flk 5 8 rfl tyX2_ok nmX2 in_bX2 (by decide) (by decide +kernel)
theorem fqb_X2_8 : FQk 5 8 RX2 (.array .int) := fun C9 T9 N9 h => by
  have h : some (RX2, TX2, 12) = some (C9, T9, N9) := h
  cases h
  exact ⟨rfl, rfl, by decide +kernel⟩
theorem bf_X2_23 : FLk wsX2_init RX2 23 5 9 := flk 5 9 rfl tyX2_ok nmX2 in_bX2 (by decide) (by decide +kernel)
theorem fqb_X2_9 : FQk 5 9 RX2 (.array .int) := fun C9 T9 N9 h => by
  have h : some (RX2, TX2, 12) = some (C9, T9, N9) := h
  cases h
  exact ⟨rfl, rfl, by decide +kernel⟩
theorem bf_X2_26 : FLk wsX2_init RX2 26 5 10 := flk 5 10 rfl tyX2_ok nmX2 in_bX2 (by decide) (by decide +kernel)
theorem fqb_X2_10 : FQk 5 10 RX2 (.array .int) := fun C9 T9 N9 h => by
  have h : some (RX2, TX2, 12) = some (C9, T9, N9) := h
  cases h
  exact ⟨rfl, rfl, by decide +kernel⟩
theorem bf_X2_29 : FLk wsX2_init RX2 29 5 11 := flk 5 11 rfl tyX2_ok nmX2 in_bX2 (by decide) (by decide +kernel)
theorem fqb_X2_11 : FQk 5 11 RX2 (.array .int) := fun C9 T9 N9 h => by
  have h : some (RX2, TX2, 12) = some (C9, T9, N9) := h
  cases h
  exact ⟨rfl, rfl, by decide +kernel⟩
def zX2 : List Value := [.int 0, .int 0, .int 0, .int 0, .int 0, .int 0, .int 0, .null, .null, .null, .null, .null]
def oX2 (G : KG) (n : Nat) : List Value := [.int 0, .int 0, .int (iZ (2)), .int 0, .int 0, .int 0, .int 0, .ref (G.2.1 + (n + 0)), .ref (G.2.1 + (n + 1)), .ref (G.2.1 + (n + 2)), .ref (G.2.1 + (n + 3)), .ref (G.2.1 + (n + 4))]
def nX2 (G : KG) : List va_E := [.inl (G.2.2.2.1.2.1, (14, .inr (.inl (fun _ => 0)))), .inl (G.2.2.2.1.1, (14, .inl (fun _ => iZ 0))), .inl (G.2.2.2.1.1, (40, .inl (fun _ => iZ 0))), .inl (G.2.2.2.1.1, (40, .inl (fun _ => iZ 0))), .inl (G.2.2.2.1.1, (40, .inl (fun _ => iZ 0)))]
def rbX2 : Room := { frames := 1, cells := 5, slots := 148, locals := 20 }
theorem c_X2 {G : KG} {o n : Nat} {E : Nat → va_E} (h : E o = .inr (5, zX2)) (ho : o < n) : CtrB G yX2_init wsX2_init rbX2 [.ref (G.2.1 + o)] n E (n + 5) (bld E o (5, oX2 G n) n (nX2 G)) := by
  refine CtrB.of (cc := cX2_init) (nL := 1) [some (.ref (G.2.1 + o))] rfl rfl rfl (Nat.le_of_ble_eq_true rfl) (Nat.le_of_ble_eq_true rfl) (by rintro q (_ | ⟨_, _ | ⟨⟩⟩); exact List.Mem.head _) (fun X hX C => ?_)
  refine wb_aload_n C (j := 0) rfl rfl dX2_init_0 ?_
  refine wb_obj C (by decide +kernel) (by decide +kernel) (by decide +kernel) (by rw [hX]; exact ⟨by decide, by decide⟩) dX2_init_1 ?_
  refine wb_aload_n C (j := 0) rfl rfl dX2_init_4 ?_
  refine wb_iconst C dX2_init_5 ?_
  refine wl_start h ?_
  refine wl_put C (k := 0) bf_X2_9 fpb_X2_2 ho rfl rfl (Nat.le_of_ble_eq_true rfl) dX2_init_6 ?_
  refine wb_aload_n C (j := 0) rfl rfl dX2_init_9 ?_
  refine wb_bipush C rfl dX2_init_10 ?_
  refine wl_newJ C (k := 0) (N := 14) (a' := 4) (b' := 134) ho rfl rfl (by decide) (by decide +kernel) dX2_init_12 rfl rfl ?_
  refine wl_putF C (k := 1) bf_X2_15 fqb_X2_7 ho rfl rfl (Nat.le_of_ble_eq_true rfl) dX2_init_14 ?_
  refine wb_aload_n C (j := 0) rfl rfl dX2_init_17 ?_
  refine wb_bipush C rfl dX2_init_18 ?_
  refine wl_newI C (k := 1) (N := 14) (a' := 3) (b' := 120) ho rfl rfl (by decide) (by decide +kernel) dX2_init_20 rfl rfl ?_
  refine wl_putF C (k := 2) bf_X2_19 fqb_X2_8 ho rfl rfl (Nat.le_of_ble_eq_true rfl) dX2_init_22 ?_
  refine wb_aload_n C (j := 0) rfl rfl dX2_init_25 ?_
  refine wb_bipush C rfl dX2_init_26 ?_
  refine wl_newI C (k := 2) (N := 40) (a' := 2) (b' := 80) ho rfl rfl (by decide) (by decide +kernel) dX2_init_28 rfl rfl ?_
  refine wl_putF C (k := 3) bf_X2_23 fqb_X2_9 ho rfl rfl (Nat.le_of_ble_eq_true rfl) dX2_init_30 ?_
  refine wb_aload_n C (j := 0) rfl rfl dX2_init_33 ?_
  refine wb_bipush C rfl dX2_init_34 ?_
  refine wl_newI C (k := 3) (N := 40) (a' := 1) (b' := 40) ho rfl rfl (by decide) (by decide +kernel) dX2_init_36 rfl rfl ?_
  refine wl_putF C (k := 4) bf_X2_26 fqb_X2_10 ho rfl rfl (Nat.le_of_ble_eq_true rfl) dX2_init_38 ?_
  refine wb_aload_n C (j := 0) rfl rfl dX2_init_41 ?_
  refine wb_bipush C rfl dX2_init_42 ?_
  refine wl_newI C (k := 4) (N := 40) (a' := 0) (b' := 0) ho rfl rfl (by decide) (by decide +kernel) dX2_init_44 rfl rfl ?_
  refine wl_putF C (k := 5) bf_X2_29 fqb_X2_11 ho rfl rfl (Nat.le_of_ble_eq_true rfl) dX2_init_46 ?_
  exact wb_vret C dX2_init_49
