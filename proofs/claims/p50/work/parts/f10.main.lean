/-! ===== building: the program's object ===== -/
theorem in_bX11 : ∀ w ∈ wsX110, w ∈ wsX11_init := by decide +kernel
theorem bf_X11_12 : FLk wsX11_init RX11 12 14 0 := flk 14 0 rfl tyX11_ok nmX11 in_bX11 (by decide) (by decide +kernel)
theorem fqb_X11_0 : FQk 14 0 RX11 (.object "ShareGraph$Tokens") := fun C9 T9 N9 h => by
  have h : some (RX11, TX11, 18) = some (C9, T9, N9) := h
  cases h
  exact ⟨rfl, rfl, by decide +kernel⟩
theorem bf_X11_19 : FLk wsX11_init RX11 19 14 1 := flk 14 1 rfl tyX11_ok nmX11 in_bX11 (by decide) (by decide +kernel)
theorem fqb_X11_1 : FQk 14 1 RX11 (.object "ShareGraph$TextReader") := fun C9 T9 N9 h => by
  have h : some (RX11, TX11, 18) = some (C9, T9, N9) := h
  cases h
  exact ⟨rfl, rfl, by decide +kernel⟩
theorem bf_X11_26 : FLk wsX11_init RX11 26 14 2 := flk 14 2 rfl tyX11_ok nmX11 in_bX11 (by decide) (by decide +kernel)
theorem fqb_X11_2 : FQk 14 2 RX11 (.object "ShareGraph$ScriptReader") := fun C9 T9 N9 h => by
  have h : some (RX11, TX11, 18) = some (C9, T9, N9) := h
  cases h
  exact ⟨rfl, rfl, by decide +kernel⟩
theorem bf_X11_33 : FLk wsX11_init RX11 33 14 3 := flk 14 3 rfl tyX11_ok nmX11 in_bX11 (by decide) (by decide +kernel)
theorem fqb_X11_3 : FQk 14 3 RX11 (.object "ShareGraph$Script") := fun C9 T9 N9 h => by
  have h : some (RX11, TX11, 18) = some (C9, T9, N9) := h
  cases h
  exact ⟨rfl, rfl, by decide +kernel⟩
theorem bf_X11_40 : FLk wsX11_init RX11 40 14 4 := flk 14 4 rfl tyX11_ok nmX11 in_bX11 (by decide) (by decide +kernel)
theorem fqb_X11_4 : FQk 14 4 RX11 (.object "ShareGraph$Graph") := fun C9 T9 N9 h => by
  have h : some (RX11, TX11, 18) = some (C9, T9, N9) := h
  cases h
  exact ⟨rfl, rfl, by decide +kernel⟩
theorem bf_X11_44 : FLk wsX11_init RX11 44 14 5 := flk 14 5 rfl tyX11_ok nmX11 in_bX11 (by decide) (by decide +kernel)
theorem fqb_X11_5 : FQk 14 5 RX11 (.object "ShareGraph$Graph") := fun C9 T9 N9 h => by
  have h : some (RX11, TX11, 18) = some (C9, T9, N9) := h
  cases h
  exact ⟨rfl, rfl, by decide +kernel⟩
theorem bf_X11_47 : FLk wsX11_init RX11 47 14 6 := flk 14 6 rfl tyX11_ok nmX11 in_bX11 (by decide) (by decide +kernel)
theorem fqb_X11_6 : FQk 14 6 RX11 (.object "ShareGraph$Graph") := fun C9 T9 N9 h => by
  have h : some (RX11, TX11, 18) = some (C9, T9, N9) := h
  cases h
  exact ⟨rfl, rfl, by decide +kernel⟩
theorem bf_X11_53 : FLk wsX11_init RX11 53 14 7 := flk 14 7 rfl tyX11_ok nmX11 in_bX11 (by decide) (by decide +kernel)
theorem fqb_X11_7 : FQk 14 7 RX11 (.object "ShareGraph$Sharing") := fun C9 T9 N9 h => by
  have h : some (RX11, TX11, 18) = some (C9, T9, N9) := h
  cases h
  exact ⟨rfl, rfl, by decide +kernel⟩
theorem bf_X11_57 : FLk wsX11_init RX11 57 14 8 := flk 14 8 rfl tyX11_ok nmX11 in_bX11 (by decide) (by decide +kernel)
theorem fqb_X11_8 : FQk 14 8 RX11 (.object "ShareGraph$Sharing") := fun C9 T9 N9 h => by
  have h : some (RX11, TX11, 18) = some (C9, T9, N9) := h
  cases h
  exact ⟨rfl, rfl, by decide +kernel⟩
theorem bf_X11_60 : FLk wsX11_init RX11 60 14 9 := flk 14 9 rfl tyX11_ok nmX11 in_bX11 (by decide) (by decide +kernel)
theorem fqb_X11_9 : FQk 14 9 RX11 (.object "ShareGraph$Sharing") := fun C9 T9 N9 h => by
  have h : some (RX11, TX11, 18) = some (C9, T9, N9) := h
  cases h
  exact ⟨rfl, rfl, by decide +kernel⟩
theorem bf_X11_66 : FLk wsX11_init RX11 66 14 11 := flk 14 11 rfl tyX11_ok nmX11 in_bX11 (by decide) (by decide +kernel)
theorem fqb_X11_11 : FQk 14 11 RX11 (.object "ShareGraph$History") := fun C9 T9 N9 h => by
  have h : some (RX11, TX11, 18) = some (C9, T9, N9) := h
  cases h
  exact ⟨rfl, rfl, by decide +kernel⟩
theorem bf_X11_73 : FLk wsX11_init RX11 73 14 12 := flk 14 12 rfl tyX11_ok nmX11 in_bX11 (by decide) (by decide +kernel)
theorem fqb_X11_12 : FQk 14 12 RX11 (.object "ShareGraph$Measures") := fun C9 T9 N9 h => by
  have h : some (RX11, TX11, 18) = some (C9, T9, N9) := h
  cases h
  exact ⟨rfl, rfl, by decide +kernel⟩
theorem bf_X11_80 : FLk wsX11_init RX11 80 14 13 := flk 14 13 rfl tyX11_ok nmX11 in_bX11 (by decide) (by decide +kernel)
theorem fqb_X11_13 : FQk 14 13 RX11 (.object "ShareGraph$Pairs") := fun C9 T9 N9 h => by
  have h : some (RX11, TX11, 18) = some (C9, T9, N9) := h
  cases h
  exact ⟨rfl, rfl, by decide +kernel⟩
theorem bf_X11_87 : FLk wsX11_init RX11 87 14 14 := flk 14 14 rfl tyX11_ok nmX11 in_bX11 (by decide) (by decide +kernel)
theorem fqb_X11_14 : FQk 14 14 RX11 (.object "ShareGraph$Best") := fun C9 T9 N9 h => by
  have h : some (RX11, TX11, 18) = some (C9, T9, N9) := h
  cases h
  exact ⟨rfl, rfl, by decide +kernel⟩
theorem bf_X11_94 : FLk wsX11_init RX11 94 14 15 := flk 14 15 rfl tyX11_ok nmX11 in_bX11 (by decide) (by decide +kernel)
theorem fqb_X11_15 : FQk 14 15 RX11 (.object "ShareGraph$Flows") := fun C9 T9 N9 h => by
  have h : some (RX11, TX11, 18) = some (C9, T9, N9) := h
  cases h
  exact ⟨rfl, rfl, by decide +kernel⟩
theorem bf_X11_98 : FLk wsX11_init RX11 98 14 16 := flk 14 16 rfl tyX11_ok nmX11 in_bX11 (by decide) (by decide +kernel)
theorem fqb_X11_16 : FQk 14 16 RX11 (.array .int) := fun C9 T9 N9 h => by
  have h : some (RX11, TX11, 18) = some (C9, T9, N9) := h
  cases h
  exact ⟨rfl, rfl, by decide +kernel⟩
theorem hfX10 : ∀ j, j < 12 → defaultValue (tyX10 j) = vp_V zX10 j := by
  intro j hj
  have : j = 0 ∨ j = 1 ∨ j = 2 ∨ j = 3 ∨ j = 4 ∨ j = 5 ∨ j = 6 ∨ j = 7 ∨ j = 8 ∨ j = 9 ∨ j = 10 ∨ j = 11 := by omega
  rcases this with rfl | rfl | rfl | rfl | rfl | rfl | rfl | rfl | rfl | rfl | rfl | rfl <;> rfl
theorem hfX9 : ∀ j, j < 1 → defaultValue (tyX9 j) = vp_V zX9 j := by
  intro j hj
  have : j = 0 := by omega
  subst this
  rfl
theorem hfX7 : ∀ j, j < 1 → defaultValue (tyX7 j) = vp_V zX7 j := by
  intro j hj
  have : j = 0 := by omega
  subst this
  rfl
theorem hfX6 : ∀ j, j < 6 → defaultValue (tyX6 j) = vp_V zX6 j := by
  intro j hj
  have : j = 0 ∨ j = 1 ∨ j = 2 ∨ j = 3 ∨ j = 4 ∨ j = 5 := by omega
  rcases this with rfl | rfl | rfl | rfl | rfl | rfl <;> rfl
theorem hfX4 : ∀ j, j < 12 → defaultValue (tyX4 j) = vp_V zX4 j := by
  intro j hj
  have : j = 0 ∨ j = 1 ∨ j = 2 ∨ j = 3 ∨ j = 4 ∨ j = 5 ∨ j = 6 ∨ j = 7 ∨ j = 8 ∨ j = 9 ∨ j = 10 ∨ j = 11 := by omega
  rcases this with rfl | rfl | rfl | rfl | rfl | rfl | rfl | rfl | rfl | rfl | rfl | rfl <;> rfl
theorem hfX5 : ∀ j, j < 5 → defaultValue (tyX5 j) = vp_V zX5 j := by
  intro j hj
  have : j = 0 ∨ j = 1 ∨ j = 2 ∨ j = 3 ∨ j = 4 := by omega
  rcases this with rfl | rfl | rfl | rfl | rfl <;> rfl
theorem hfX0 : ∀ j, j < 5 → defaultValue (tyX0 j) = vp_V zX0 j := by
  intro j hj
  have : j = 0 ∨ j = 1 ∨ j = 2 ∨ j = 3 ∨ j = 4 := by omega
  rcases this with rfl | rfl | rfl | rfl | rfl <;> rfl
theorem hfX1 : ∀ j, j < 6 → defaultValue (tyX1 j) = vp_V zX1 j := by
  intro j hj
  have : j = 0 ∨ j = 1 ∨ j = 2 ∨ j = 3 ∨ j = 4 ∨ j = 5 := by omega
  rcases this with rfl | rfl | rfl | rfl | rfl | rfl <;> rfl
theorem hfX2 : ∀ j, j < 12 → defaultValue (tyX2 j) = vp_V zX2 j := by
  intro j hj
  have : j = 0 ∨ j = 1 ∨ j = 2 ∨ j = 3 ∨ j = 4 ∨ j = 5 ∨ j = 6 ∨ j = 7 ∨ j = 8 ∨ j = 9 ∨ j = 10 ∨ j = 11 := by omega
  rcases this with rfl | rfl | rfl | rfl | rfl | rfl | rfl | rfl | rfl | rfl | rfl | rfl <;> rfl
theorem hfX3 : ∀ j, j < 3 → defaultValue (tyX3 j) = vp_V zX3 j := by
  intro j hj
  have : j = 0 ∨ j = 1 ∨ j = 2 := by omega
  rcases this with rfl | rfl | rfl <;> rfl
def zX11 : List Value := [.null, .null, .null, .null, .null, .null, .null, .null, .null, .null, .int 0, .null, .null, .null, .null, .null, .null, .int 0]
def rbX11 : Room := { frames := 3, cells := 95, slots := 4247, locals := 61 }
def o11_0 (G : KG) (n : Nat) : List Value := zX11
def n11_0 (G : KG) (n : Nat) : List va_E := []
theorem l11_0 (G : KG) (n : Nat) : (n11_0 G n).length = 0 := rfl
def o11_1 (G : KG) (n : Nat) : List Value := [.ref (G.2.1 + (n + 0)), .null, .null, .null, .null, .null, .null, .null, .null, .null, .int 0, .null, .null, .null, .null, .null, .null, .int 0]
def n11_1 (G : KG) (n : Nat) : List va_E := n11_0 G n ++ [.inr (13, oX10 G (n + 0 + 1))] ++ nX10 G
theorem l11_1 (G : KG) (n : Nat) : (n11_1 G n).length = 2 := by
  unfold n11_1
  rw [List.length_append, List.length_append, l11_0]
  rfl
theorem b11_0 {G : KG} {o n : Nat} {E : Nat → va_E} (ho : o < n) : bld E o (14, o11_0 G n) n (n11_0 G n ++ [.inr (13, zX10)]) (n + 0) = .inr (13, zX10) := bld_at ho (by rw [List.getElem?_append_right (by rw [l11_0 G n]; exact Nat.le_refl _), l11_0]; rfl)
theorem s11_0 {G : KG} {X : KX} {Qs : State → Prop} {o n a b : Nat} {E : Nat → va_E} (hAO : ∀ U, Kst G U → va_AO "ShareGraph$Sharing" U) (hX : KR X = rbX11) (C : FrB G X cX11_init 1 RX11 none wsX11_init true) (ho : o < n) (k : Wb G X 1 Qs a b 15 [some (.ref (G.2.1 + o))] [] (n + 2) (bld E o (14, o11_1 G n) n (n11_1 G n))) : Wb G X 1 Qs (2 + a) (812 + b) 4 [some (.ref (G.2.1 + o))] [] (n + 0) (bld E o (14, o11_0 G n) n (n11_0 G n)) := by
  refine wb_aload_n C (j := 0) rfl rfl dX11_init_4 ?_
  refine wl_newO C (k := 0) (ci := 13) (Cn := RX10) (T := TX10) (N := 12) (fs := zX10) (a' := 1 + a) (b' := 800 + b) ho (l11_0 G n) tyX10 rfl (by decide +kernel) tyX10_ok (by decide +kernel) (by decide +kernel) (by decide +kernel) hfX10 dX11_init_5 (by omega) (by omega) ?_
  refine wb_dup C dX11_init_8 ?_
  refine wl_initN C (k := 0) (a' := a) (b' := b) ho (l11_0 G n) (c_X10 (o := n + 0) (n := n + 0 + 1) (b11_0 ho) (Nat.lt_succ_self _)) gX11_init_X10_init_n11 (host := "ShareGraph") (by decide +kernel) (by decide +kernel) (by decide +kernel) rfl rfl (by decide) (by rw [hX]; exact ⟨by decide, by decide⟩) (Nat.le_of_ble_eq_true rfl) rfl rfl dX11_init_9 ?_
  refine wl_putF C (k := 2) bf_X11_12 fqb_X11_0 ho rfl rfl (Nat.le_of_ble_eq_true rfl) dX11_init_12 ?_
  exact k
def o11_2 (G : KG) (n : Nat) : List Value := [.ref (G.2.1 + (n + 0)), .ref (G.2.1 + (n + 2)), .null, .null, .null, .null, .null, .null, .null, .null, .int 0, .null, .null, .null, .null, .null, .null, .int 0]
def n11_2 (G : KG) (n : Nat) : List va_E := n11_1 G n ++ [.inr (12, oX9 G (n + 2 + 1))] ++ nX9 G
theorem l11_2 (G : KG) (n : Nat) : (n11_2 G n).length = 3 := by
  unfold n11_2
  rw [List.length_append, List.length_append, l11_1]
  rfl
theorem b11_1 {G : KG} {o n : Nat} {E : Nat → va_E} (ho : o < n) : bld E o (14, o11_1 G n) n (n11_1 G n ++ [.inr (12, zX9)]) (n + 2) = .inr (12, zX9) := bld_at ho (by rw [List.getElem?_append_right (by rw [l11_1 G n]; exact Nat.le_refl _), l11_1]; rfl)
theorem s11_1 {G : KG} {X : KX} {Qs : State → Prop} {o n a b : Nat} {E : Nat → va_E} (hAO : ∀ U, Kst G U → va_AO "ShareGraph$Sharing" U) (hX : KR X = rbX11) (C : FrB G X cX11_init 1 RX11 none wsX11_init true) (ho : o < n) (k : Wb G X 1 Qs a b 26 [some (.ref (G.2.1 + o))] [] (n + 3) (bld E o (14, o11_2 G n) n (n11_2 G n))) : Wb G X 1 Qs (1 + a) (1 + b) 15 [some (.ref (G.2.1 + o))] [] (n + 2) (bld E o (14, o11_1 G n) n (n11_1 G n)) := by
  refine wb_aload_n C (j := 0) rfl rfl dX11_init_15 ?_
  refine wl_newO C (k := 2) (ci := 12) (Cn := RX9) (T := TX9) (N := 1) (fs := zX9) (a' := 0 + a) (b' := 0 + b) ho (l11_1 G n) tyX9 rfl (by decide +kernel) tyX9_ok (by decide +kernel) (by decide +kernel) (by decide +kernel) hfX9 dX11_init_16 (by omega) (by omega) ?_
  refine wb_dup C dX11_init_19 ?_
  refine wl_initN C (k := 2) (a' := a) (b' := b) ho (l11_1 G n) (c_X9 (o := n + 2) (n := n + 2 + 1) (b11_1 ho) (Nat.lt_succ_self _)) gX11_init_X9_init_n18 (host := "ShareGraph") (by decide +kernel) (by decide +kernel) (by decide +kernel) rfl rfl (by decide) (by rw [hX]; exact ⟨by decide, by decide⟩) (Nat.le_of_ble_eq_true rfl) rfl rfl dX11_init_20 ?_
  refine wl_putF C (k := 3) bf_X11_19 fqb_X11_1 ho rfl rfl (Nat.le_of_ble_eq_true rfl) dX11_init_23 ?_
  exact k
def o11_3 (G : KG) (n : Nat) : List Value := [.ref (G.2.1 + (n + 0)), .ref (G.2.1 + (n + 2)), .ref (G.2.1 + (n + 3)), .null, .null, .null, .null, .null, .null, .null, .int 0, .null, .null, .null, .null, .null, .null, .int 0]
def n11_3 (G : KG) (n : Nat) : List va_E := n11_2 G n ++ [.inr (10, oX7 G (n + 3 + 1))] ++ nX7 G
theorem l11_3 (G : KG) (n : Nat) : (n11_3 G n).length = 5 := by
  unfold n11_3
  rw [List.length_append, List.length_append, l11_2]
  rfl
theorem b11_2 {G : KG} {o n : Nat} {E : Nat → va_E} (ho : o < n) : bld E o (14, o11_2 G n) n (n11_2 G n ++ [.inr (10, zX7)]) (n + 3) = .inr (10, zX7) := bld_at ho (by rw [List.getElem?_append_right (by rw [l11_2 G n]; exact Nat.le_refl _), l11_2]; rfl)
theorem s11_2 {G : KG} {X : KX} {Qs : State → Prop} {o n a b : Nat} {E : Nat → va_E} (hAO : ∀ U, Kst G U → va_AO "ShareGraph$Sharing" U) (hX : KR X = rbX11) (C : FrB G X cX11_init 1 RX11 none wsX11_init true) (ho : o < n) (k : Wb G X 1 Qs a b 37 [some (.ref (G.2.1 + o))] [] (n + 5) (bld E o (14, o11_3 G n) n (n11_3 G n))) : Wb G X 1 Qs (2 + a) (3 + b) 26 [some (.ref (G.2.1 + o))] [] (n + 3) (bld E o (14, o11_2 G n) n (n11_2 G n)) := by
  refine wb_aload_n C (j := 0) rfl rfl dX11_init_26 ?_
  refine wl_newO C (k := 3) (ci := 10) (Cn := RX7) (T := TX7) (N := 1) (fs := zX7) (a' := 1 + a) (b' := 2 + b) ho (l11_2 G n) tyX7 rfl (by decide +kernel) tyX7_ok (by decide +kernel) (by decide +kernel) (by decide +kernel) hfX7 dX11_init_27 (by omega) (by omega) ?_
  refine wb_dup C dX11_init_30 ?_
  refine wl_initN C (k := 3) (a' := a) (b' := b) ho (l11_2 G n) (c_X7 (o := n + 3) (n := n + 3 + 1) (b11_2 ho) (Nat.lt_succ_self _)) gX11_init_X7_init_n25 (host := "ShareGraph") (by decide +kernel) (by decide +kernel) (by decide +kernel) rfl rfl (by decide) (by rw [hX]; exact ⟨by decide, by decide⟩) (Nat.le_of_ble_eq_true rfl) rfl rfl dX11_init_31 ?_
  refine wl_putF C (k := 5) bf_X11_26 fqb_X11_2 ho rfl rfl (Nat.le_of_ble_eq_true rfl) dX11_init_34 ?_
  exact k
def o11_4 (G : KG) (n : Nat) : List Value := [.ref (G.2.1 + (n + 0)), .ref (G.2.1 + (n + 2)), .ref (G.2.1 + (n + 3)), .ref (G.2.1 + (n + 5)), .null, .null, .null, .null, .null, .null, .int 0, .null, .null, .null, .null, .null, .null, .int 0]
def n11_4 (G : KG) (n : Nat) : List va_E := n11_3 G n ++ [.inr (9, oX6 G (n + 5 + 1))] ++ nX6 G
theorem l11_4 (G : KG) (n : Nat) : (n11_4 G n).length = 10 := by
  unfold n11_4
  rw [List.length_append, List.length_append, l11_3]
  rfl
theorem b11_3 {G : KG} {o n : Nat} {E : Nat → va_E} (ho : o < n) : bld E o (14, o11_3 G n) n (n11_3 G n ++ [.inr (9, zX6)]) (n + 5) = .inr (9, zX6) := bld_at ho (by rw [List.getElem?_append_right (by rw [l11_3 G n]; exact Nat.le_refl _), l11_3]; rfl)
theorem s11_3 {G : KG} {X : KX} {Qs : State → Prop} {o n a b : Nat} {E : Nat → va_E} (hAO : ∀ U, Kst G U → va_AO "ShareGraph$Sharing" U) (hX : KR X = rbX11) (C : FrB G X cX11_init 1 RX11 none wsX11_init true) (ho : o < n) (k : Wb G X 1 Qs a b 48 [some (.ref (G.2.1 + o))] [] (n + 10) (bld E o (14, o11_4 G n) n (n11_4 G n))) : Wb G X 1 Qs (5 + a) (246 + b) 37 [some (.ref (G.2.1 + o))] [] (n + 5) (bld E o (14, o11_3 G n) n (n11_3 G n)) := by
  refine wb_aload_n C (j := 0) rfl rfl dX11_init_37 ?_
  refine wl_newO C (k := 5) (ci := 9) (Cn := RX6) (T := TX6) (N := 6) (fs := zX6) (a' := 4 + a) (b' := 240 + b) ho (l11_3 G n) tyX6 rfl (by decide +kernel) tyX6_ok (by decide +kernel) (by decide +kernel) (by decide +kernel) hfX6 dX11_init_38 (by omega) (by omega) ?_
  refine wb_dup C dX11_init_41 ?_
  refine wl_initN C (k := 5) (a' := a) (b' := b) ho (l11_3 G n) (c_X6 (o := n + 5) (n := n + 5 + 1) (b11_3 ho) (Nat.lt_succ_self _)) gX11_init_X6_init_n32 (host := "ShareGraph") (by decide +kernel) (by decide +kernel) (by decide +kernel) rfl rfl (by decide) (by rw [hX]; exact ⟨by decide, by decide⟩) (Nat.le_of_ble_eq_true rfl) rfl rfl dX11_init_42 ?_
  refine wl_putF C (k := 10) bf_X11_33 fqb_X11_3 ho rfl rfl (Nat.le_of_ble_eq_true rfl) dX11_init_45 ?_
  exact k
def o11_5 (G : KG) (n : Nat) : List Value := [.ref (G.2.1 + (n + 0)), .ref (G.2.1 + (n + 2)), .ref (G.2.1 + (n + 3)), .ref (G.2.1 + (n + 5)), .ref (G.2.1 + (n + 10)), .null, .null, .null, .null, .null, .int 0, .null, .null, .null, .null, .null, .null, .int 0]
def n11_5 (G : KG) (n : Nat) : List va_E := n11_4 G n ++ [.inr (5, oX2 G (n + 10 + 1))] ++ nX2 G
theorem l11_5 (G : KG) (n : Nat) : (n11_5 G n).length = 16 := by
  unfold n11_5
  rw [List.length_append, List.length_append, l11_4]
  rfl
theorem b11_4 {G : KG} {o n : Nat} {E : Nat → va_E} (ho : o < n) : bld E o (14, o11_4 G n) n (n11_4 G n ++ [.inr (5, zX2)]) (n + 10) = .inr (5, zX2) := bld_at ho (by rw [List.getElem?_append_right (by rw [l11_4 G n]; exact Nat.le_refl _), l11_4]; rfl)
theorem s11_4 {G : KG} {X : KX} {Qs : State → Prop} {o n a b : Nat} {E : Nat → va_E} (hAO : ∀ U, Kst G U → va_AO "ShareGraph$Sharing" U) (hX : KR X = rbX11) (C : FrB G X cX11_init 1 RX11 none wsX11_init true) (ho : o < n) (k : Wb G X 1 Qs a b 59 [some (.ref (G.2.1 + o))] [] (n + 16) (bld E o (14, o11_5 G n) n (n11_5 G n))) : Wb G X 1 Qs (6 + a) (160 + b) 48 [some (.ref (G.2.1 + o))] [] (n + 10) (bld E o (14, o11_4 G n) n (n11_4 G n)) := by
  refine wb_aload_n C (j := 0) rfl rfl dX11_init_48 ?_
  refine wl_newO C (k := 10) (ci := 5) (Cn := RX2) (T := TX2) (N := 12) (fs := zX2) (a' := 5 + a) (b' := 148 + b) ho (l11_4 G n) tyX2 rfl (by decide +kernel) tyX2_ok (by decide +kernel) (by decide +kernel) (by decide +kernel) hfX2 dX11_init_49 (by omega) (by omega) ?_
  refine wb_dup C dX11_init_52 ?_
  refine wl_initN C (k := 10) (a' := a) (b' := b) ho (l11_4 G n) (c_X2 (o := n + 10) (n := n + 10 + 1) (b11_4 ho) (Nat.lt_succ_self _)) gX11_init_X2_init_n39 (host := "ShareGraph") (by decide +kernel) (by decide +kernel) (by decide +kernel) rfl rfl (by decide) (by rw [hX]; exact ⟨by decide, by decide⟩) (Nat.le_of_ble_eq_true rfl) rfl rfl dX11_init_53 ?_
  refine wl_putF C (k := 16) bf_X11_40 fqb_X11_4 ho rfl rfl (Nat.le_of_ble_eq_true rfl) dX11_init_56 ?_
  exact k
def o11_6 (G : KG) (n : Nat) : List Value := [.ref (G.2.1 + (n + 0)), .ref (G.2.1 + (n + 2)), .ref (G.2.1 + (n + 3)), .ref (G.2.1 + (n + 5)), .ref (G.2.1 + (n + 10)), .ref (G.2.1 + (n + 16)), .null, .null, .null, .null, .int 0, .null, .null, .null, .null, .null, .null, .int 0]
def n11_6 (G : KG) (n : Nat) : List va_E := n11_5 G n ++ [.inr (5, oX2 G (n + 16 + 1))] ++ nX2 G
theorem l11_6 (G : KG) (n : Nat) : (n11_6 G n).length = 22 := by
  unfold n11_6
  rw [List.length_append, List.length_append, l11_5]
  rfl
theorem b11_5 {G : KG} {o n : Nat} {E : Nat → va_E} (ho : o < n) : bld E o (14, o11_5 G n) n (n11_5 G n ++ [.inr (5, zX2)]) (n + 16) = .inr (5, zX2) := bld_at ho (by rw [List.getElem?_append_right (by rw [l11_5 G n]; exact Nat.le_refl _), l11_5]; rfl)
theorem s11_5 {G : KG} {X : KX} {Qs : State → Prop} {o n a b : Nat} {E : Nat → va_E} (hAO : ∀ U, Kst G U → va_AO "ShareGraph$Sharing" U) (hX : KR X = rbX11) (C : FrB G X cX11_init 1 RX11 none wsX11_init true) (ho : o < n) (k : Wb G X 1 Qs a b 70 [some (.ref (G.2.1 + o))] [] (n + 22) (bld E o (14, o11_6 G n) n (n11_6 G n))) : Wb G X 1 Qs (6 + a) (160 + b) 59 [some (.ref (G.2.1 + o))] [] (n + 16) (bld E o (14, o11_5 G n) n (n11_5 G n)) := by
  refine wb_aload_n C (j := 0) rfl rfl dX11_init_59 ?_
  refine wl_newO C (k := 16) (ci := 5) (Cn := RX2) (T := TX2) (N := 12) (fs := zX2) (a' := 5 + a) (b' := 148 + b) ho (l11_5 G n) tyX2 rfl (by decide +kernel) tyX2_ok (by decide +kernel) (by decide +kernel) (by decide +kernel) hfX2 dX11_init_60 (by omega) (by omega) ?_
  refine wb_dup C dX11_init_63 ?_
  refine wl_initN C (k := 16) (a' := a) (b' := b) ho (l11_5 G n) (c_X2 (o := n + 16) (n := n + 16 + 1) (b11_5 ho) (Nat.lt_succ_self _)) gX11_init_X2_init_n39 (host := "ShareGraph") (by decide +kernel) (by decide +kernel) (by decide +kernel) rfl rfl (by decide) (by rw [hX]; exact ⟨by decide, by decide⟩) (Nat.le_of_ble_eq_true rfl) rfl rfl dX11_init_64 ?_
  refine wl_putF C (k := 22) bf_X11_44 fqb_X11_5 ho rfl rfl (Nat.le_of_ble_eq_true rfl) dX11_init_67 ?_
  exact k
def o11_7 (G : KG) (n : Nat) : List Value := [.ref (G.2.1 + (n + 0)), .ref (G.2.1 + (n + 2)), .ref (G.2.1 + (n + 3)), .ref (G.2.1 + (n + 5)), .ref (G.2.1 + (n + 10)), .ref (G.2.1 + (n + 16)), .ref (G.2.1 + (n + 22)), .null, .null, .null, .int 0, .null, .null, .null, .null, .null, .null, .int 0]
def n11_7 (G : KG) (n : Nat) : List va_E := n11_6 G n ++ [.inr (5, oX2 G (n + 22 + 1))] ++ nX2 G
theorem l11_7 (G : KG) (n : Nat) : (n11_7 G n).length = 28 := by
  unfold n11_7
  rw [List.length_append, List.length_append, l11_6]
  rfl
theorem b11_6 {G : KG} {o n : Nat} {E : Nat → va_E} (ho : o < n) : bld E o (14, o11_6 G n) n (n11_6 G n ++ [.inr (5, zX2)]) (n + 22) = .inr (5, zX2) := bld_at ho (by rw [List.getElem?_append_right (by rw [l11_6 G n]; exact Nat.le_refl _), l11_6]; rfl)
theorem s11_6 {G : KG} {X : KX} {Qs : State → Prop} {o n a b : Nat} {E : Nat → va_E} (hAO : ∀ U, Kst G U → va_AO "ShareGraph$Sharing" U) (hX : KR X = rbX11) (C : FrB G X cX11_init 1 RX11 none wsX11_init true) (ho : o < n) (k : Wb G X 1 Qs a b 81 [some (.ref (G.2.1 + o))] [] (n + 28) (bld E o (14, o11_7 G n) n (n11_7 G n))) : Wb G X 1 Qs (6 + a) (160 + b) 70 [some (.ref (G.2.1 + o))] [] (n + 22) (bld E o (14, o11_6 G n) n (n11_6 G n)) := by
  refine wb_aload_n C (j := 0) rfl rfl dX11_init_70 ?_
  refine wl_newO C (k := 22) (ci := 5) (Cn := RX2) (T := TX2) (N := 12) (fs := zX2) (a' := 5 + a) (b' := 148 + b) ho (l11_6 G n) tyX2 rfl (by decide +kernel) tyX2_ok (by decide +kernel) (by decide +kernel) (by decide +kernel) hfX2 dX11_init_71 (by omega) (by omega) ?_
  refine wb_dup C dX11_init_74 ?_
  refine wl_initN C (k := 22) (a' := a) (b' := b) ho (l11_6 G n) (c_X2 (o := n + 22) (n := n + 22 + 1) (b11_6 ho) (Nat.lt_succ_self _)) gX11_init_X2_init_n39 (host := "ShareGraph") (by decide +kernel) (by decide +kernel) (by decide +kernel) rfl rfl (by decide) (by rw [hX]; exact ⟨by decide, by decide⟩) (Nat.le_of_ble_eq_true rfl) rfl rfl dX11_init_75 ?_
  refine wl_putF C (k := 28) bf_X11_47 fqb_X11_6 ho rfl rfl (Nat.le_of_ble_eq_true rfl) dX11_init_78 ?_
  exact k
def o11_8 (G : KG) (n : Nat) : List Value := [.ref (G.2.1 + (n + 0)), .ref (G.2.1 + (n + 2)), .ref (G.2.1 + (n + 3)), .ref (G.2.1 + (n + 5)), .ref (G.2.1 + (n + 10)), .ref (G.2.1 + (n + 16)), .ref (G.2.1 + (n + 22)), .ref (G.2.1 + (n + 28)), .null, .null, .int 0, .null, .null, .null, .null, .null, .null, .int 0]
def n11_8 (G : KG) (n : Nat) : List va_E := n11_7 G n ++ [.inr (11, oX8 G (n + 28 + 1))] ++ nX8 G
theorem l11_8 (G : KG) (n : Nat) : (n11_8 G n).length = 33 := by
  unfold n11_8
  rw [List.length_append, List.length_append, l11_7]
  rfl
theorem b11_7 {G : KG} {o n : Nat} {E : Nat → va_E} (ho : o < n) : bld E o (14, o11_7 G n) n (n11_7 G n ++ [.inr (11, zX8)]) (n + 28) = .inr (11, zX8) := bld_at ho (by rw [List.getElem?_append_right (by rw [l11_7 G n]; exact Nat.le_refl _), l11_7]; rfl)
theorem s11_7 {G : KG} {X : KX} {Qs : State → Prop} {o n a b : Nat} {E : Nat → va_E} (hAO : ∀ U, Kst G U → va_AO "ShareGraph$Sharing" U) (hX : KR X = rbX11) (C : FrB G X cX11_init 1 RX11 none wsX11_init true) (ho : o < n) (k : Wb G X 1 Qs a b 92 [some (.ref (G.2.1 + o))] [] (n + 33) (bld E o (14, o11_8 G n) n (n11_8 G n))) : Wb G X 1 Qs (5 + a) (216 + b) 81 [some (.ref (G.2.1 + o))] [] (n + 28) (bld E o (14, o11_7 G n) n (n11_7 G n)) := by
  refine wb_aload_n C (j := 0) rfl rfl dX11_init_81 ?_
  refine wl_newO C (k := 28) (ci := 11) (Cn := RX8) (T := TX8) (N := 7) (fs := zX8) (a' := 4 + a) (b' := 209 + b) ho (l11_7 G n) tyX8 rfl (by decide +kernel) tyX8_ok (by decide +kernel) (by decide +kernel) (by decide +kernel) hfX8 dX11_init_82 (by omega) (by omega) ?_
  refine wb_dup C dX11_init_85 ?_
  refine wl_initN C (k := 28) (a' := a) (b' := b) ho (l11_7 G n) (c_X8 (o := n + 28) (n := n + 28 + 1) (b11_7 ho) (Nat.lt_succ_self _)) gX11_init_X8_init_n52 (host := "ShareGraph") (by decide +kernel) (by decide +kernel) (by decide +kernel) rfl rfl (by decide) (by rw [hX]; exact ⟨by decide, by decide⟩) (Nat.le_of_ble_eq_true rfl) rfl rfl dX11_init_86 ?_
  refine wl_putF C (k := 33) bf_X11_53 fqb_X11_7 ho rfl rfl (Nat.le_of_ble_eq_true rfl) dX11_init_89 ?_
  exact k
def o11_9 (G : KG) (n : Nat) : List Value := [.ref (G.2.1 + (n + 0)), .ref (G.2.1 + (n + 2)), .ref (G.2.1 + (n + 3)), .ref (G.2.1 + (n + 5)), .ref (G.2.1 + (n + 10)), .ref (G.2.1 + (n + 16)), .ref (G.2.1 + (n + 22)), .ref (G.2.1 + (n + 28)), .ref (G.2.1 + (n + 33)), .null, .int 0, .null, .null, .null, .null, .null, .null, .int 0]
def n11_9 (G : KG) (n : Nat) : List va_E := n11_8 G n ++ [.inr (11, oX8 G (n + 33 + 1))] ++ nX8 G
theorem l11_9 (G : KG) (n : Nat) : (n11_9 G n).length = 38 := by
  unfold n11_9
  rw [List.length_append, List.length_append, l11_8]
  rfl
theorem b11_8 {G : KG} {o n : Nat} {E : Nat → va_E} (ho : o < n) : bld E o (14, o11_8 G n) n (n11_8 G n ++ [.inr (11, zX8)]) (n + 33) = .inr (11, zX8) := bld_at ho (by rw [List.getElem?_append_right (by rw [l11_8 G n]; exact Nat.le_refl _), l11_8]; rfl)
theorem s11_8 {G : KG} {X : KX} {Qs : State → Prop} {o n a b : Nat} {E : Nat → va_E} (hAO : ∀ U, Kst G U → va_AO "ShareGraph$Sharing" U) (hX : KR X = rbX11) (C : FrB G X cX11_init 1 RX11 none wsX11_init true) (ho : o < n) (k : Wb G X 1 Qs a b 103 [some (.ref (G.2.1 + o))] [] (n + 38) (bld E o (14, o11_9 G n) n (n11_9 G n))) : Wb G X 1 Qs (5 + a) (216 + b) 92 [some (.ref (G.2.1 + o))] [] (n + 33) (bld E o (14, o11_8 G n) n (n11_8 G n)) := by
  refine wb_aload_n C (j := 0) rfl rfl dX11_init_92 ?_
  refine wl_newO C (k := 33) (ci := 11) (Cn := RX8) (T := TX8) (N := 7) (fs := zX8) (a' := 4 + a) (b' := 209 + b) ho (l11_8 G n) tyX8 rfl (by decide +kernel) tyX8_ok (by decide +kernel) (by decide +kernel) (by decide +kernel) hfX8 dX11_init_93 (by omega) (by omega) ?_
  refine wb_dup C dX11_init_96 ?_
  refine wl_initN C (k := 33) (a' := a) (b' := b) ho (l11_8 G n) (c_X8 (o := n + 33) (n := n + 33 + 1) (b11_8 ho) (Nat.lt_succ_self _)) gX11_init_X8_init_n52 (host := "ShareGraph") (by decide +kernel) (by decide +kernel) (by decide +kernel) rfl rfl (by decide) (by rw [hX]; exact ⟨by decide, by decide⟩) (Nat.le_of_ble_eq_true rfl) rfl rfl dX11_init_97 ?_
  refine wl_putF C (k := 38) bf_X11_57 fqb_X11_8 ho rfl rfl (Nat.le_of_ble_eq_true rfl) dX11_init_100 ?_
  exact k
def o11_10 (G : KG) (n : Nat) : List Value := [.ref (G.2.1 + (n + 0)), .ref (G.2.1 + (n + 2)), .ref (G.2.1 + (n + 3)), .ref (G.2.1 + (n + 5)), .ref (G.2.1 + (n + 10)), .ref (G.2.1 + (n + 16)), .ref (G.2.1 + (n + 22)), .ref (G.2.1 + (n + 28)), .ref (G.2.1 + (n + 33)), .ref (G.2.1 + (n + 38)), .int 0, .null, .null, .null, .null, .null, .null, .int 0]
def n11_10 (G : KG) (n : Nat) : List va_E := n11_9 G n ++ [.inr (11, oX8 G (n + 38 + 1))] ++ nX8 G
theorem l11_10 (G : KG) (n : Nat) : (n11_10 G n).length = 43 := by
  unfold n11_10
  rw [List.length_append, List.length_append, l11_9]
  rfl
theorem b11_9 {G : KG} {o n : Nat} {E : Nat → va_E} (ho : o < n) : bld E o (14, o11_9 G n) n (n11_9 G n ++ [.inr (11, zX8)]) (n + 38) = .inr (11, zX8) := bld_at ho (by rw [List.getElem?_append_right (by rw [l11_9 G n]; exact Nat.le_refl _), l11_9]; rfl)
theorem s11_9 {G : KG} {X : KX} {Qs : State → Prop} {o n a b : Nat} {E : Nat → va_E} (hAO : ∀ U, Kst G U → va_AO "ShareGraph$Sharing" U) (hX : KR X = rbX11) (C : FrB G X cX11_init 1 RX11 none wsX11_init true) (ho : o < n) (k : Wb G X 1 Qs a b 114 [some (.ref (G.2.1 + o))] [] (n + 43) (bld E o (14, o11_10 G n) n (n11_10 G n))) : Wb G X 1 Qs (5 + a) (216 + b) 103 [some (.ref (G.2.1 + o))] [] (n + 38) (bld E o (14, o11_9 G n) n (n11_9 G n)) := by
  refine wb_aload_n C (j := 0) rfl rfl dX11_init_103 ?_
  refine wl_newO C (k := 38) (ci := 11) (Cn := RX8) (T := TX8) (N := 7) (fs := zX8) (a' := 4 + a) (b' := 209 + b) ho (l11_9 G n) tyX8 rfl (by decide +kernel) tyX8_ok (by decide +kernel) (by decide +kernel) (by decide +kernel) hfX8 dX11_init_104 (by omega) (by omega) ?_
  refine wb_dup C dX11_init_107 ?_
  refine wl_initN C (k := 38) (a' := a) (b' := b) ho (l11_9 G n) (c_X8 (o := n + 38) (n := n + 38 + 1) (b11_9 ho) (Nat.lt_succ_self _)) gX11_init_X8_init_n52 (host := "ShareGraph") (by decide +kernel) (by decide +kernel) (by decide +kernel) rfl rfl (by decide) (by rw [hX]; exact ⟨by decide, by decide⟩) (Nat.le_of_ble_eq_true rfl) rfl rfl dX11_init_108 ?_
  refine wl_putF C (k := 43) bf_X11_60 fqb_X11_9 ho rfl rfl (Nat.le_of_ble_eq_true rfl) dX11_init_111 ?_
  exact k
def o11_11 (G : KG) (n : Nat) : List Value := [.ref (G.2.1 + (n + 0)), .ref (G.2.1 + (n + 2)), .ref (G.2.1 + (n + 3)), .ref (G.2.1 + (n + 5)), .ref (G.2.1 + (n + 10)), .ref (G.2.1 + (n + 16)), .ref (G.2.1 + (n + 22)), .ref (G.2.1 + (n + 28)), .ref (G.2.1 + (n + 33)), .ref (G.2.1 + (n + 38)), .int 0, .ref (G.2.1 + (n + 43)), .null, .null, .null, .null, .null, .int 0]
def n11_11 (G : KG) (n : Nat) : List va_E := n11_10 G n ++ [.inr (6, oX3 G (n + 43 + 1))] ++ nX3 G (n + 43 + 1)
theorem l11_11 (G : KG) (n : Nat) : (n11_11 G n).length = 75 := by
  unfold n11_11
  rw [List.length_append, List.length_append, l11_10]
  rfl
theorem b11_10 {G : KG} {o n : Nat} {E : Nat → va_E} (ho : o < n) : bld E o (14, o11_10 G n) n (n11_10 G n ++ [.inr (6, zX3)]) (n + 43) = .inr (6, zX3) := bld_at ho (by rw [List.getElem?_append_right (by rw [l11_10 G n]; exact Nat.le_refl _), l11_10]; rfl)
theorem s11_10 {G : KG} {X : KX} {Qs : State → Prop} {o n a b : Nat} {E : Nat → va_E} (hAO : ∀ U, Kst G U → va_AO "ShareGraph$Sharing" U) (hX : KR X = rbX11) (C : FrB G X cX11_init 1 RX11 none wsX11_init true) (ho : o < n) (k : Wb G X 1 Qs a b 125 [some (.ref (G.2.1 + o))] [] (n + 75) (bld E o (14, o11_11 G n) n (n11_11 G n))) : Wb G X 1 Qs (32 + a) (1305 + b) 114 [some (.ref (G.2.1 + o))] [] (n + 43) (bld E o (14, o11_10 G n) n (n11_10 G n)) := by
  refine wb_aload_n C (j := 0) rfl rfl dX11_init_114 ?_
  refine wl_newO C (k := 43) (ci := 6) (Cn := RX3) (T := TX3) (N := 3) (fs := zX3) (a' := 31 + a) (b' := 1302 + b) ho (l11_10 G n) tyX3 rfl (by decide +kernel) tyX3_ok (by decide +kernel) (by decide +kernel) (by decide +kernel) hfX3 dX11_init_115 (by omega) (by omega) ?_
  refine wb_dup C dX11_init_118 ?_
  refine wl_init C (k := 43) (a' := a) (b' := b) ho (l11_10 G n) (c_X3 hAO (o := n + 43) (n := n + 43 + 1) (b11_10 ho) (Nat.lt_succ_self _)) gX11_init_X3_init (by decide +kernel) (by decide +kernel) (by decide +kernel) rfl rfl (by decide) (by rw [hX]; exact ⟨by decide, by decide⟩) (Nat.le_of_ble_eq_true rfl) rfl rfl dX11_init_119 ?_
  refine wl_putF C (k := 75) bf_X11_66 fqb_X11_11 ho rfl rfl (Nat.le_of_ble_eq_true rfl) dX11_init_122 ?_
  exact k
def o11_12 (G : KG) (n : Nat) : List Value := [.ref (G.2.1 + (n + 0)), .ref (G.2.1 + (n + 2)), .ref (G.2.1 + (n + 3)), .ref (G.2.1 + (n + 5)), .ref (G.2.1 + (n + 10)), .ref (G.2.1 + (n + 16)), .ref (G.2.1 + (n + 22)), .ref (G.2.1 + (n + 28)), .ref (G.2.1 + (n + 33)), .ref (G.2.1 + (n + 38)), .int 0, .ref (G.2.1 + (n + 43)), .ref (G.2.1 + (n + 75)), .null, .null, .null, .null, .int 0]
def n11_12 (G : KG) (n : Nat) : List va_E := n11_11 G n ++ [.inr (7, oX4 G (n + 75 + 1))] ++ nX4 G
theorem l11_12 (G : KG) (n : Nat) : (n11_12 G n).length = 82 := by
  unfold n11_12
  rw [List.length_append, List.length_append, l11_11]
  rfl
theorem b11_11 {G : KG} {o n : Nat} {E : Nat → va_E} (ho : o < n) : bld E o (14, o11_11 G n) n (n11_11 G n ++ [.inr (7, zX4)]) (n + 75) = .inr (7, zX4) := bld_at ho (by rw [List.getElem?_append_right (by rw [l11_11 G n]; exact Nat.le_refl _), l11_11]; rfl)
theorem s11_11 {G : KG} {X : KX} {Qs : State → Prop} {o n a b : Nat} {E : Nat → va_E} (hAO : ∀ U, Kst G U → va_AO "ShareGraph$Sharing" U) (hX : KR X = rbX11) (C : FrB G X cX11_init 1 RX11 none wsX11_init true) (ho : o < n) (k : Wb G X 1 Qs a b 136 [some (.ref (G.2.1 + o))] [] (n + 82) (bld E o (14, o11_12 G n) n (n11_12 G n))) : Wb G X 1 Qs (7 + a) (118 + b) 125 [some (.ref (G.2.1 + o))] [] (n + 75) (bld E o (14, o11_11 G n) n (n11_11 G n)) := by
  refine wb_aload_n C (j := 0) rfl rfl dX11_init_125 ?_
  refine wl_newO C (k := 75) (ci := 7) (Cn := RX4) (T := TX4) (N := 12) (fs := zX4) (a' := 6 + a) (b' := 106 + b) ho (l11_11 G n) tyX4 rfl (by decide +kernel) tyX4_ok (by decide +kernel) (by decide +kernel) (by decide +kernel) hfX4 dX11_init_126 (by omega) (by omega) ?_
  refine wb_dup C dX11_init_129 ?_
  refine wl_initN C (k := 75) (a' := a) (b' := b) ho (l11_11 G n) (c_X4 (o := n + 75) (n := n + 75 + 1) (b11_11 ho) (Nat.lt_succ_self _)) gX11_init_X4_init_n72 (host := "ShareGraph") (by decide +kernel) (by decide +kernel) (by decide +kernel) rfl rfl (by decide) (by rw [hX]; exact ⟨by decide, by decide⟩) (Nat.le_of_ble_eq_true rfl) rfl rfl dX11_init_130 ?_
  refine wl_putF C (k := 82) bf_X11_73 fqb_X11_12 ho rfl rfl (Nat.le_of_ble_eq_true rfl) dX11_init_133 ?_
  exact k
def o11_13 (G : KG) (n : Nat) : List Value := [.ref (G.2.1 + (n + 0)), .ref (G.2.1 + (n + 2)), .ref (G.2.1 + (n + 3)), .ref (G.2.1 + (n + 5)), .ref (G.2.1 + (n + 10)), .ref (G.2.1 + (n + 16)), .ref (G.2.1 + (n + 22)), .ref (G.2.1 + (n + 28)), .ref (G.2.1 + (n + 33)), .ref (G.2.1 + (n + 38)), .int 0, .ref (G.2.1 + (n + 43)), .ref (G.2.1 + (n + 75)), .ref (G.2.1 + (n + 82)), .null, .null, .null, .int 0]
def n11_13 (G : KG) (n : Nat) : List va_E := n11_12 G n ++ [.inr (8, oX5 G (n + 82 + 1))] ++ nX5 G
theorem l11_13 (G : KG) (n : Nat) : (n11_13 G n).length = 86 := by
  unfold n11_13
  rw [List.length_append, List.length_append, l11_12]
  rfl
theorem b11_12 {G : KG} {o n : Nat} {E : Nat → va_E} (ho : o < n) : bld E o (14, o11_12 G n) n (n11_12 G n ++ [.inr (8, zX5)]) (n + 82) = .inr (8, zX5) := bld_at ho (by rw [List.getElem?_append_right (by rw [l11_12 G n]; exact Nat.le_refl _), l11_12]; rfl)
theorem s11_12 {G : KG} {X : KX} {Qs : State → Prop} {o n a b : Nat} {E : Nat → va_E} (hAO : ∀ U, Kst G U → va_AO "ShareGraph$Sharing" U) (hX : KR X = rbX11) (C : FrB G X cX11_init 1 RX11 none wsX11_init true) (ho : o < n) (k : Wb G X 1 Qs a b 147 [some (.ref (G.2.1 + o))] [] (n + 86) (bld E o (14, o11_13 G n) n (n11_13 G n))) : Wb G X 1 Qs (4 + a) (229 + b) 136 [some (.ref (G.2.1 + o))] [] (n + 82) (bld E o (14, o11_12 G n) n (n11_12 G n)) := by
  refine wb_aload_n C (j := 0) rfl rfl dX11_init_136 ?_
  refine wl_newO C (k := 82) (ci := 8) (Cn := RX5) (T := TX5) (N := 5) (fs := zX5) (a' := 3 + a) (b' := 224 + b) ho (l11_12 G n) tyX5 rfl (by decide +kernel) tyX5_ok (by decide +kernel) (by decide +kernel) (by decide +kernel) hfX5 dX11_init_137 (by omega) (by omega) ?_
  refine wb_dup C dX11_init_140 ?_
  refine wl_initN C (k := 82) (a' := a) (b' := b) ho (l11_12 G n) (c_X5 (o := n + 82) (n := n + 82 + 1) (b11_12 ho) (Nat.lt_succ_self _)) gX11_init_X5_init_n79 (host := "ShareGraph") (by decide +kernel) (by decide +kernel) (by decide +kernel) rfl rfl (by decide) (by rw [hX]; exact ⟨by decide, by decide⟩) (Nat.le_of_ble_eq_true rfl) rfl rfl dX11_init_141 ?_
  refine wl_putF C (k := 86) bf_X11_80 fqb_X11_13 ho rfl rfl (Nat.le_of_ble_eq_true rfl) dX11_init_144 ?_
  exact k
def o11_14 (G : KG) (n : Nat) : List Value := [.ref (G.2.1 + (n + 0)), .ref (G.2.1 + (n + 2)), .ref (G.2.1 + (n + 3)), .ref (G.2.1 + (n + 5)), .ref (G.2.1 + (n + 10)), .ref (G.2.1 + (n + 16)), .ref (G.2.1 + (n + 22)), .ref (G.2.1 + (n + 28)), .ref (G.2.1 + (n + 33)), .ref (G.2.1 + (n + 38)), .int 0, .ref (G.2.1 + (n + 43)), .ref (G.2.1 + (n + 75)), .ref (G.2.1 + (n + 82)), .ref (G.2.1 + (n + 86)), .null, .null, .int 0]
def n11_14 (G : KG) (n : Nat) : List va_E := n11_13 G n ++ [.inr (3, oX0 G (n + 86 + 1))] ++ nX0 G
theorem l11_14 (G : KG) (n : Nat) : (n11_14 G n).length = 90 := by
  unfold n11_14
  rw [List.length_append, List.length_append, l11_13]
  rfl
theorem b11_13 {G : KG} {o n : Nat} {E : Nat → va_E} (ho : o < n) : bld E o (14, o11_13 G n) n (n11_13 G n ++ [.inr (3, zX0)]) (n + 86) = .inr (3, zX0) := bld_at ho (by rw [List.getElem?_append_right (by rw [l11_13 G n]; exact Nat.le_refl _), l11_13]; rfl)
theorem s11_13 {G : KG} {X : KX} {Qs : State → Prop} {o n a b : Nat} {E : Nat → va_E} (hAO : ∀ U, Kst G U → va_AO "ShareGraph$Sharing" U) (hX : KR X = rbX11) (C : FrB G X cX11_init 1 RX11 none wsX11_init true) (ho : o < n) (k : Wb G X 1 Qs a b 158 [some (.ref (G.2.1 + o))] [] (n + 90) (bld E o (14, o11_14 G n) n (n11_14 G n))) : Wb G X 1 Qs (4 + a) (23 + b) 147 [some (.ref (G.2.1 + o))] [] (n + 86) (bld E o (14, o11_13 G n) n (n11_13 G n)) := by
  refine wb_aload_n C (j := 0) rfl rfl dX11_init_147 ?_
  refine wl_newO C (k := 86) (ci := 3) (Cn := RX0) (T := TX0) (N := 5) (fs := zX0) (a' := 3 + a) (b' := 18 + b) ho (l11_13 G n) tyX0 rfl (by decide +kernel) tyX0_ok (by decide +kernel) (by decide +kernel) (by decide +kernel) hfX0 dX11_init_148 (by omega) (by omega) ?_
  refine wb_dup C dX11_init_151 ?_
  refine wl_initN C (k := 86) (a' := a) (b' := b) ho (l11_13 G n) (c_X0 (o := n + 86) (n := n + 86 + 1) (b11_13 ho) (Nat.lt_succ_self _)) gX11_init_X0_init_n86 (host := "ShareGraph") (by decide +kernel) (by decide +kernel) (by decide +kernel) rfl rfl (by decide) (by rw [hX]; exact ⟨by decide, by decide⟩) (Nat.le_of_ble_eq_true rfl) rfl rfl dX11_init_152 ?_
  refine wl_putF C (k := 90) bf_X11_87 fqb_X11_14 ho rfl rfl (Nat.le_of_ble_eq_true rfl) dX11_init_155 ?_
  exact k
def o11_15 (G : KG) (n : Nat) : List Value := [.ref (G.2.1 + (n + 0)), .ref (G.2.1 + (n + 2)), .ref (G.2.1 + (n + 3)), .ref (G.2.1 + (n + 5)), .ref (G.2.1 + (n + 10)), .ref (G.2.1 + (n + 16)), .ref (G.2.1 + (n + 22)), .ref (G.2.1 + (n + 28)), .ref (G.2.1 + (n + 33)), .ref (G.2.1 + (n + 38)), .int 0, .ref (G.2.1 + (n + 43)), .ref (G.2.1 + (n + 75)), .ref (G.2.1 + (n + 82)), .ref (G.2.1 + (n + 86)), .ref (G.2.1 + (n + 90)), .null, .int 0]
def n11_15 (G : KG) (n : Nat) : List va_E := n11_14 G n ++ [.inr (4, oX1 G (n + 90 + 1))] ++ nX1 G
theorem l11_15 (G : KG) (n : Nat) : (n11_15 G n).length = 94 := by
  unfold n11_15
  rw [List.length_append, List.length_append, l11_14]
  rfl
theorem b11_14 {G : KG} {o n : Nat} {E : Nat → va_E} (ho : o < n) : bld E o (14, o11_14 G n) n (n11_14 G n ++ [.inr (4, zX1)]) (n + 90) = .inr (4, zX1) := bld_at ho (by rw [List.getElem?_append_right (by rw [l11_14 G n]; exact Nat.le_refl _), l11_14]; rfl)
theorem s11_14 {G : KG} {X : KX} {Qs : State → Prop} {o n a b : Nat} {E : Nat → va_E} (hAO : ∀ U, Kst G U → va_AO "ShareGraph$Sharing" U) (hX : KR X = rbX11) (C : FrB G X cX11_init 1 RX11 none wsX11_init true) (ho : o < n) (k : Wb G X 1 Qs a b 169 [some (.ref (G.2.1 + o))] [] (n + 94) (bld E o (14, o11_15 G n) n (n11_15 G n))) : Wb G X 1 Qs (4 + a) (230 + b) 158 [some (.ref (G.2.1 + o))] [] (n + 90) (bld E o (14, o11_14 G n) n (n11_14 G n)) := by
  refine wb_aload_n C (j := 0) rfl rfl dX11_init_158 ?_
  refine wl_newO C (k := 90) (ci := 4) (Cn := RX1) (T := TX1) (N := 6) (fs := zX1) (a' := 3 + a) (b' := 224 + b) ho (l11_14 G n) tyX1 rfl (by decide +kernel) tyX1_ok (by decide +kernel) (by decide +kernel) (by decide +kernel) hfX1 dX11_init_159 (by omega) (by omega) ?_
  refine wb_dup C dX11_init_162 ?_
  refine wl_initN C (k := 90) (a' := a) (b' := b) ho (l11_14 G n) (c_X1 (o := n + 90) (n := n + 90 + 1) (b11_14 ho) (Nat.lt_succ_self _)) gX11_init_X1_init_n93 (host := "ShareGraph") (by decide +kernel) (by decide +kernel) (by decide +kernel) rfl rfl (by decide) (by rw [hX]; exact ⟨by decide, by decide⟩) (Nat.le_of_ble_eq_true rfl) rfl rfl dX11_init_163 ?_
  refine wl_putF C (k := 94) bf_X11_94 fqb_X11_15 ho rfl rfl (Nat.le_of_ble_eq_true rfl) dX11_init_166 ?_
  exact k
def o11_16 (G : KG) (n : Nat) : List Value := [.ref (G.2.1 + (n + 0)), .ref (G.2.1 + (n + 2)), .ref (G.2.1 + (n + 3)), .ref (G.2.1 + (n + 5)), .ref (G.2.1 + (n + 10)), .ref (G.2.1 + (n + 16)), .ref (G.2.1 + (n + 22)), .ref (G.2.1 + (n + 28)), .ref (G.2.1 + (n + 33)), .ref (G.2.1 + (n + 38)), .int 0, .ref (G.2.1 + (n + 43)), .ref (G.2.1 + (n + 75)), .ref (G.2.1 + (n + 82)), .ref (G.2.1 + (n + 86)), .ref (G.2.1 + (n + 90)), .ref (G.2.1 + (n + 94)), .int 0]
def n11_16 (G : KG) (n : Nat) : List va_E := n11_15 G n ++ [.inl (G.2.2.2.1.1, (152, .inl (fun _ => iZ 0)))]
theorem l11_16 (G : KG) (n : Nat) : (n11_16 G n).length = 95 := by
  unfold n11_16
  rw [List.length_append, l11_15]
  rfl
theorem s11_15 {G : KG} {X : KX} {Qs : State → Prop} {o n a b : Nat} {E : Nat → va_E} (hAO : ∀ U, Kst G U → va_AO "ShareGraph$Sharing" U) (hX : KR X = rbX11) (C : FrB G X cX11_init 1 RX11 none wsX11_init true) (ho : o < n) (k : Wb G X 1 Qs a b 178 [some (.ref (G.2.1 + o))] [] (n + 95) (bld E o (14, o11_16 G n) n (n11_16 G n))) : Wb G X 1 Qs (1 + a) (152 + b) 169 [some (.ref (G.2.1 + o))] [] (n + 94) (bld E o (14, o11_15 G n) n (n11_15 G n)) := by
  refine wb_aload_n C (j := 0) rfl rfl dX11_init_169 ?_
  refine wb_sipush C rfl dX11_init_170 ?_
  refine wl_newI C (k := 94) (N := 152) (a' := a) (b' := b) ho (l11_15 G n) rfl (by decide) (by decide +kernel) dX11_init_173 rfl rfl ?_
  refine wl_putF C (k := 95) bf_X11_98 fqb_X11_16 ho rfl rfl (Nat.le_of_ble_eq_true rfl) dX11_init_175 ?_
  exact k
theorem c_X11 {G : KG} {o n : Nat} {E : Nat → va_E} (hAO : ∀ U, Kst G U → va_AO "ShareGraph$Sharing" U) (h : E o = .inr (14, zX11)) (ho : o < n) : CtrB G yX11_init wsX11_init rbX11 [.ref (G.2.1 + o)] n E (n + 95) (bld E o (14, o11_16 G n) n (n11_16 G n)) := by
  refine CtrB.of (cc := cX11_init) (nL := 1) [some (.ref (G.2.1 + o))] rfl rfl rfl (Nat.le_of_ble_eq_true rfl) (Nat.le_of_ble_eq_true rfl) (by rintro q (_ | ⟨_, _ | ⟨⟩⟩); exact List.Mem.head _) (fun X hX C => ?_)
  refine wb_aload_n C (j := 0) rfl rfl dX11_init_0 ?_
  refine wb_obj C (by decide +kernel) (by decide +kernel) (by decide +kernel) (by rw [hX]; exact ⟨by decide, by decide⟩) dX11_init_1 ?_
  refine wl_start h ?_
  refine s11_0 (a := 93) (b := 3435) hAO hX C ho ?_
  refine s11_1 (a := 92) (b := 3434) hAO hX C ho ?_
  refine s11_2 (a := 90) (b := 3431) hAO hX C ho ?_
  refine s11_3 (a := 85) (b := 3185) hAO hX C ho ?_
  refine s11_4 (a := 79) (b := 3025) hAO hX C ho ?_
  refine s11_5 (a := 73) (b := 2865) hAO hX C ho ?_
  refine s11_6 (a := 67) (b := 2705) hAO hX C ho ?_
  refine s11_7 (a := 62) (b := 2489) hAO hX C ho ?_
  refine s11_8 (a := 57) (b := 2273) hAO hX C ho ?_
  refine s11_9 (a := 52) (b := 2057) hAO hX C ho ?_
  refine s11_10 (a := 20) (b := 752) hAO hX C ho ?_
  refine s11_11 (a := 13) (b := 634) hAO hX C ho ?_
  refine s11_12 (a := 9) (b := 405) hAO hX C ho ?_
  refine s11_13 (a := 5) (b := 382) hAO hX C ho ?_
  refine s11_14 (a := 1) (b := 152) hAO hX C ho ?_
  refine s11_15 (a := 0) (b := 0) hAO hX C ho ?_
  exact wb_vret C dX11_init_178
