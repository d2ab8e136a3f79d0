/-! ===== building: the history ===== -/
theorem in_bX3 : ∀ w ∈ wsX30, w ∈ wsX3_init := by decide +kernel
theorem bf_X3_11 : FLk wsX3_init RX3 11 6 0 := flk 6 0 rfl tyX3_ok nmX3 in_bX3 (by decide) (by decide +kernel)
theorem fqb_X3_0 : FQk 6 0 RX3 (.array (.object "ShareGraph$Sharing")) := fun C9 T9 N9 h => by
  have h : some (RX3, TX3, 3) = some (C9, T9, N9) := h
  cases h
  exact ⟨rfl, rfl, by decide +kernel⟩
theorem hfX8 : ∀ j, j < 7 → defaultValue (tyX8 j) = vp_V zX8 j := by
  intro j hj
  have : j = 0 ∨ j = 1 ∨ j = 2 ∨ j = 3 ∨ j = 4 ∨ j = 5 ∨ j = 6 := by omega
  rcases this with rfl | rfl | rfl | rfl | rfl | rfl | rfl <;> rfl
def zX3 : List Value := [.null, .int 0, .int 0]
def oX3 (G : KG) (n : Nat) : List Value := [.ref (G.2.1 + (n + 0)), .int 0, .int 0]
def kX3 (G : KG) (n : Nat) : Nat → Nat → Option Nat
  | 0 => fun _ => none
  | j + 1 => va_up (kX3 G n j) j (some (G.2.1 + (n + (1 + 5 * j))))
def aX3 (G : KG) (n j : Nat) : va_E := .inl (G.2.2.2.1.2.2.1, (6, .inr (.inr (.inr (.inr (kX3 G n j))))))
def sX3 (G : KG) (n j : Nat) : List va_E := .inr (11, oX8 G (n + (1 + 5 * j) + 1)) :: nX8 G
def tX3 (G : KG) (n : Nat) : Nat → List va_E
  | 0 => []
  | j + 1 => tX3 G n j ++ sX3 G n j
def nX3 (G : KG) (n : Nat) : List va_E := aX3 G n 6 :: tX3 G n 6
def rbX3 : Room := { frames := 2, cells := 31, slots := 1302, locals := 40 }
theorem ct_X3 {G : KG} {X : KX} {Qs : State → Prop} {o n j a b : Nat} {E : Nat → va_E} (hX : KR X = rbX3) (C : FrB G X cX3_init 2 RX3 none wsX3_init true) (ho : o < n) (hj : j < 6) (k : Wb G X 2 Qs a b 15 [some (.ref (G.2.1 + o)), some (.int (iZ ((j + 1 : Nat) : Int)))] [] (n + (1 + 5 * (j + 1))) (bld E o (6, oX3 G n) n (aX3 G n (j + 1) :: tX3 G n (j + 1)))) : Wb G X 2 Qs (5 + a) (216 + b) 15 [some (.ref (G.2.1 + o)), some (.int (iZ (j : Int)))] [] (n + (1 + 5 * j)) (bld E o (6, oX3 G n) n (aX3 G n j :: tX3 G n j)) := by
  have hL : (aX3 G n j :: tX3 G n j).length = 1 + 5 * j := by
    have h : ∀ j, (tX3 G n j).length = 5 * j := fun j => by
      induction j with
      | zero => rfl
      | succ j ih => show (tX3 G n j ++ sX3 G n j).length = _; rw [List.length_append, ih]; show _ + 5 = _; omega
    rw [List.length_cons, h]; omega
  have hA : ∀ (l9 : List va_E), bld E o (6, oX3 G n) n ((aX3 G n j :: tX3 G n j) ++ l9) (n + 0) = aX3 G n j := fun l9 => bld_at ho rfl
  have hA0 : bld E o (6, oX3 G n) n (aX3 G n j :: tX3 G n j) (n + 0) = aX3 G n j := bld_at ho rfl
  refine wb_iload_n C (j := 1) rfl rfl dX3_init_15 ?_
  refine wb_aload_n C (j := 0) rfl rfl dX3_init_16 ?_
  refine wb_get C bf_X3_11 bld_o (by omega) rfl dX3_init_17 ?_
  refine wb_alenR C (q := n + 0) hA0 (by omega) rfl dX3_init_20 ?_
  refine wb_geF C dX3_init_21 (by show ¬ (iZ 6 ≤ iZ (j : Int)); rw [iZ_le (by omega) (by omega)]; omega) (tgt := 43) rfl ?_
  refine wb_aload_n C (j := 0) rfl rfl dX3_init_24 ?_
  refine wb_get C bf_X3_11 bld_o (by omega) rfl dX3_init_25 ?_
  refine wb_iload_n C (j := 1) rfl rfl dX3_init_28 ?_
  refine wl_newO C (ci := 11) (Cn := RX8) (T := TX8) (N := 7) (fs := zX8) (a' := 4 + a) (b' := 209 + b) ho hL tyX8 rfl (by decide +kernel) tyX8_ok (by decide +kernel) (by decide +kernel) (by decide +kernel) hfX8 dX3_init_29 (by omega) (by omega) ?_
  refine wb_dup C dX3_init_32 ?_
  refine wl_initN C (a' := a) (b' := b) ho hL (c_X8 (o := n + (1 + 5 * j)) (n := n + (1 + 5 * j) + 1) (bld_at ho (i := 1 + 5 * j) (e := .inr (11, zX8)) (by rw [← hL]; simp)) (by omega)) gX3_init_X8_init_n17 (host := "ShareGraph") (by decide +kernel) (by decide +kernel) (by decide +kernel) rfl rfl (by decide) (by rw [hX]; exact ⟨by decide, by decide⟩) (Nat.le_of_ble_eq_true rfl) rfl rfl dX3_init_33 ?_
  refine wb_aast C (i0 := n + 0) (j0 := n + (1 + 5 * j)) (N := 6) (z := j) (by rw [List.append_assoc]; exact hA _) (by omega) (by rw [List.append_assoc]; exact bld_at ho (by rw [List.getElem?_append_right (by rw [hL]; omega), hL, Nat.sub_self]; rfl)) (by omega) hj (by decide) dX3_init_36 ?_
  rw [bld_set ho (by rw [List.length_append, List.length_append, hL]; omega)]
  refine wb_iinc C rfl rfl (by show iZ (j : Int) + iZ 1 = iZ ((j + 1 : Nat) : Int); rw [iZ_add]; rfl) rfl dX3_init_37 ?_
  refine wb_goto C dX3_init_40 (tgt := 15) rfl ?_
  have e1 : n + (1 + 5 * j) + 1 + 4 = n + (1 + 5 * (j + 1)) := by omega
  rw [e1]
  have e2 : ∀ e9 : va_E, ((aX3 G n j :: tX3 G n j) ++ [Sum.inr (11, oX8 G (n + (1 + 5 * j) + 1))] ++ nX8 G : List va_E).set 0 e9 = e9 :: tX3 G n (j + 1) := fun e9 => by
    show e9 :: ((tX3 G n j ++ [_]) ++ nX8 G) = _
    rw [List.append_assoc]
    rfl
  rw [e2]
  exact k
theorem c_X3 {G : KG} {o n : Nat} {E : Nat → va_E} (hAO : ∀ U, Kst G U → va_AO "ShareGraph$Sharing" U) (h : E o = .inr (6, zX3)) (ho : o < n) : CtrB G yX3_init wsX3_init rbX3 [.ref (G.2.1 + o)] n E (n + 31) (bld E o (6, oX3 G n) n (nX3 G n)) := by
  refine CtrB.of (cc := cX3_init) (nL := 2) [some (.ref (G.2.1 + o)), none] rfl rfl rfl (Nat.le_of_ble_eq_true rfl) (Nat.le_of_ble_eq_true rfl) (by rintro q (_ | ⟨_, _ | ⟨⟩⟩); exact List.Mem.head _) (fun X hX C => ?_)
  refine wb_aload_n C (j := 0) rfl rfl dX3_init_0 ?_
  refine wb_obj C (by decide +kernel) (by decide +kernel) (by decide +kernel) (by rw [hX]; exact ⟨by decide, by decide⟩) dX3_init_1 ?_
  refine wb_aload_n C (j := 0) rfl rfl dX3_init_4 ?_
  refine wb_bipush C rfl dX3_init_5 ?_
  refine wl_start h ?_
  refine wb_newR C hAO (N := 6) (a' := 30) (b' := 1296) rfl (by decide) (by decide +kernel) dX3_init_7 rfl rfl ?_
  rw [bld_push (k := 0) (l := []) ho rfl]
  refine wl_putF C (k := 1) bf_X3_11 fqb_X3_0 ho rfl rfl (Nat.le_of_ble_eq_true rfl) dX3_init_10 ?_
  refine wb_iconst C dX3_init_13 ?_
  refine wb_istore_n C (j := 1) rfl (Nat.le_of_ble_eq_true rfl) rfl rfl dX3_init_14 ?_
  refine ct_X3 (j := 0) (a := 25) (b := 1080) hX C ho (by decide) ?_
  refine ct_X3 (j := 1) (a := 20) (b := 864) hX C ho (by decide) ?_
  refine ct_X3 (j := 2) (a := 15) (b := 648) hX C ho (by decide) ?_
  refine ct_X3 (j := 3) (a := 10) (b := 432) hX C ho (by decide) ?_
  refine ct_X3 (j := 4) (a := 5) (b := 216) hX C ho (by decide) ?_
  refine ct_X3 (j := 5) (a := 0) (b := 0) hX C ho (by decide) ?_
  have hA0 : bld E o (6, oX3 G n) n (aX3 G n 6 :: tX3 G n 6) (n + 0) = aX3 G n 6 := bld_at ho rfl
  refine wb_iload_n C (j := 1) rfl rfl dX3_init_15 ?_
  refine wb_aload_n C (j := 0) rfl rfl dX3_init_16 ?_
  refine wb_get C bf_X3_11 bld_o (by omega) rfl dX3_init_17 ?_
  refine wb_alenR C (q := n + 0) hA0 (by omega) rfl dX3_init_20 ?_
  refine wb_geT C dX3_init_21 (by show iZ 6 ≤ iZ 6; rw [iZ_le (by decide) (by decide)]; omega) (tgt := 43) rfl ?_
  exact wb_vret C dX3_init_43
