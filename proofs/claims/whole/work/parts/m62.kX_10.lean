theorem in_X7_readRepeat_X10 : ∀ w ∈ wsX100, w ∈ wsX7_readRepeat := by decide +kernel
theorem in_X7_readRepeat_X6 : ∀ w ∈ wsX60, w ∈ wsX7_readRepeat := by decide +kernel
theorem in_X7_readRepeat_X7 : ∀ w ∈ wsX70, w ∈ wsX7_readRepeat := by decide +kernel
theorem f_X7_readRepeat_105 : FLk wsX7_readRepeat RX7 105 10 7 := flk 10 7 rfl tyX10_ok nmX10 in_X7_readRepeat_X10 (by decide) (by decide +kernel)
theorem f_X7_readRepeat_9 : FLk wsX7_readRepeat RX7 9 7 0 := flk 7 0 rfl tyX7_ok nmX7 in_X7_readRepeat_X7 (by decide) (by decide +kernel)
theorem f_X7_readRepeat_29 : FLk wsX7_readRepeat RX7 29 10 8 := flk 10 8 rfl tyX10_ok nmX10 in_X7_readRepeat_X10 (by decide) (by decide +kernel)
theorem f_X7_readRepeat_108 : FLk wsX7_readRepeat RX7 108 6 4 := flk 6 4 rfl tyX6_ok nmX6 in_X7_readRepeat_X6 (by decide) (by decide +kernel)
def rm_X7_readRepeat : Room := { frames := 4, cells := 0, slots := 0, locals := 85 }
set_option maxHeartbeats 4000000 in
set_option maxRecDepth 100000 in
theorem k_X7_readRepeat (G : KG) (hG : Kok G) (I : Ii) (J : Jj) (Q : Int → Ii → Jj → Prop) (h : wp_X7_readRepeat I J Q) : Ctr G yX7_readRepeat wsX7_readRepeat rm_X7_readRepeat [.ref (kadr G 104), .ref (kadr G 101), .ref (kadr G 106)] (I, J) (QsB Q) := by
  unfold wp_X7_readRepeat at h
  skip
  refine Ctr.ofZ (cc := cX7_readRepeat) (nL := 4) (ret := (some .boolean)) [some (.ref (kadr G 104)), some (.ref (kadr G 101)), some (.ref (kadr G 106)), none] hG (by decide +kernel) rfl (Nat.le_of_ble_eq_true rfl) (Nat.le_of_ble_eq_true rfl) (by simp [lvA, lv_args, Value.category]) ?_
  intro X hX C
  refine wz_aload_n C rfl rfl dX7_readRepeat_0 ?_
  refine wz_iconst C dX7_readRepeat_1 ?_
  refine wz_bipush C (by decide) dX7_readRepeat_2 ?_
  refine wm_callV C (o := 101) (As := [.int (iZ 1), .int (iZ 20)]) (st := []) (a' := 0) (b' := 0) rfl rfl (k_X10_takesNumber G hG 1 20 I J _ h) 2 gX7_readRepeat_X10_takesNumber rfl (by decide +kernel) (by rw [hX]; exact ⟨Nat.le_of_ble_eq_true rfl, Nat.le_of_ble_eq_true rfl⟩) rfl (Nat.le_of_ble_eq_true rfl) rfl rfl rfl dX7_readRepeat_4 (kk_sB (fun v1 I1 J1 hb1 h => ?_))
  refine wz_if_ne C (tgt := 12) (rgB hb1) dX7_readRepeat_7 (by decide) (fun c => ?_) (fun c => ?_)
  · replace h := h.1 c
    refine wz_aload_n C rfl rfl dX7_readRepeat_12 ?_
    refine wz_getI C rfl f_X7_readRepeat_105 rfl dX7_readRepeat_13 ?_
    refine wz_istore_3 C rfl dX7_readRepeat_16 ?_
    refine wz_aload_n C rfl rfl dX7_readRepeat_17 ?_
    refine wz_iconst C dX7_readRepeat_18 ?_
    refine wm_callV C (o := 101) (As := [.int (iZ 4)]) (st := []) (a' := 0) (b' := 0) rfl rfl (k_X10_takes G hG 4 I1 J1 _ h) 1 gX7_readRepeat_X10_takes rfl (by decide +kernel) (by rw [hX]; exact ⟨Nat.le_of_ble_eq_true rfl, Nat.le_of_ble_eq_true rfl⟩) rfl (Nat.le_of_ble_eq_true rfl) rfl rfl rfl dX7_readRepeat_19 (kk_sB (fun v2 I2 J2 hb2 h => ?_))
    refine wz_if_ne C (tgt := 27) (rgB hb2) dX7_readRepeat_22 (by decide) (fun c => ?_) (fun c => ?_)
    · replace h := h.1 c
      refine wz_aload_n C rfl rfl dX7_readRepeat_27 ?_
      refine wz_getR C (j := 105) f_X7_readRepeat_9 rfl dX7_readRepeat_28 ?_
      refine wz_aload_n C rfl rfl dX7_readRepeat_31 ?_
      refine wz_getI C rfl f_X7_readRepeat_29 rfl dX7_readRepeat_32 ?_
      refine wz_aload_n C rfl rfl dX7_readRepeat_35 ?_
      refine wz_getI C rfl f_X7_readRepeat_108 rfl dX7_readRepeat_36 ?_
      refine wm_callSN C (As := [.ref (kadr G 105), .int (iZ (I2 101 8)), .int (iZ (I2 106 4))]) (st := []) (a' := 0) (b' := 0) (host := "ShareGraph") (k_X11_put G hG 105 (I2 101 8) (I2 106 4) I2 J2 _ h) 3 gX7_readRepeat_X11_put_n111 (by decide +kernel) (by decide +kernel) (by decide +kernel) rfl (by decide +kernel) (by rw [hX]; exact ⟨Nat.le_of_ble_eq_true rfl, Nat.le_of_ble_eq_true rfl⟩) rfl (Nat.le_of_ble_eq_true rfl) rfl rfl rfl dX7_readRepeat_39 (kk_sV (fun I3 J3 h => ?_))
      refine wz_aload_n C rfl rfl dX7_readRepeat_42 ?_
      refine wz_dup C rfl dX7_readRepeat_43 ?_
      refine wz_getI C rfl f_X7_readRepeat_29 rfl dX7_readRepeat_44 ?_
      refine wz_iconst C dX7_readRepeat_47 ?_
      refine wz_iadd C dX7_readRepeat_48 ?_
      refine wd_putI C f_X7_readRepeat_29 fp_X10_8 rfl dX7_readRepeat_49 (fun I4 e => ?_)
      replace h := h I4 e
      refine wz_aload_n C rfl rfl dX7_readRepeat_52 ?_
      refine wz_bipush C (by decide) dX7_readRepeat_53 ?_
      refine wz_iload_n C rfl rfl dX7_readRepeat_55 ?_
      refine wz_iconst C dX7_readRepeat_56 ?_
      refine wm_callV C (o := 106) (As := [.int (iZ 8), .int (iZ (I1 101 7)), .int (iZ 0)]) (st := []) (a' := 0) (b' := 0) rfl rfl (k_X6_addCommand G hG 8 (I1 101 7) 0 I4 J3 _ h) 3 gX7_readRepeat_X6_addCommand rfl (by decide +kernel) (by rw [hX]; exact ⟨Nat.le_of_ble_eq_true rfl, Nat.le_of_ble_eq_true rfl⟩) rfl (Nat.le_of_ble_eq_true rfl) rfl rfl rfl dX7_readRepeat_57 (kk_sV (fun I5 J5 h => ?_))
      refine wz_iconst C dX7_readRepeat_60 ?_
      exact wz_zret C (Or.inr rfl) dX7_readRepeat_61 ⟨_, rfl, (Or.inr rfl), h⟩
    · replace h := h.2 c
      refine wz_iconst C dX7_readRepeat_25 ?_
      exact wz_zret C (Or.inl rfl) dX7_readRepeat_26 ⟨_, rfl, (Or.inl rfl), h⟩
  · replace h := h.2 c
    refine wz_iconst C dX7_readRepeat_10 ?_
    exact wz_zret C (Or.inl rfl) dX7_readRepeat_11 ⟨_, rfl, (Or.inl rfl), h⟩
theorem in_X7_readMove_X10 : ∀ w ∈ wsX100, w ∈ wsX7_readMove := by decide +kernel
theorem f_X7_readMove_105 : FLk wsX7_readMove RX7 105 10 7 := flk 10 7 rfl tyX10_ok nmX10 in_X7_readMove_X10 (by decide) (by decide +kernel)
def rm_X7_readMove : Room := { frames := 4, cells := 0, slots := 0, locals := 85 }
set_option maxHeartbeats 4000000 in
set_option maxRecDepth 100000 in
theorem k_X7_readMove (G : KG) (hG : Kok G) (I : Ii) (J : Jj) (Q : Int → Ii → Jj → Prop) (h : wp_X7_readMove I J Q) : Ctr G yX7_readMove wsX7_readMove rm_X7_readMove [.ref (kadr G 104), .ref (kadr G 101), .ref (kadr G 106)] (I, J) (QsB Q) := by
  unfold wp_X7_readMove at h
  skip
  refine Ctr.ofZ (cc := cX7_readMove) (nL := 4) (ret := (some .boolean)) [some (.ref (kadr G 104)), some (.ref (kadr G 101)), some (.ref (kadr G 106)), none] hG (by decide +kernel) rfl (Nat.le_of_ble_eq_true rfl) (Nat.le_of_ble_eq_true rfl) (by simp [lvA, lv_args, Value.category]) ?_
  intro X hX C
  refine wz_aload_n C rfl rfl dX7_readMove_0 ?_
  refine wz_iconst C dX7_readMove_1 ?_
  refine wz_sipush C (by decide) dX7_readMove_2 ?_
  refine wm_callV C (o := 101) (As := [.int (iZ 0), .int (iZ 999)]) (st := []) (a' := 0) (b' := 0) rfl rfl (k_X10_takesNumber G hG 0 999 I J _ h) 2 gX7_readMove_X10_takesNumber rfl (by decide +kernel) (by rw [hX]; exact ⟨Nat.le_of_ble_eq_true rfl, Nat.le_of_ble_eq_true rfl⟩) rfl (Nat.le_of_ble_eq_true rfl) rfl rfl rfl dX7_readMove_5 (kk_sB (fun v1 I1 J1 hb1 h => ?_))
  refine wz_if_ne C (tgt := 13) (rgB hb1) dX7_readMove_8 (by decide) (fun c => ?_) (fun c => ?_)
  · replace h := h.1 c
    refine wz_aload_n C rfl rfl dX7_readMove_13 ?_
    refine wz_getI C rfl f_X7_readMove_105 rfl dX7_readMove_14 ?_
    refine wz_istore_3 C rfl dX7_readMove_17 ?_
    refine wz_aload_n C rfl rfl dX7_readMove_18 ?_
    refine wz_iconst C dX7_readMove_19 ?_
    refine wz_sipush C (by decide) dX7_readMove_20 ?_
    refine wm_callV C (o := 101) (As := [.int (iZ 0), .int (iZ 999)]) (st := []) (a' := 0) (b' := 0) rfl rfl (k_X10_takesNumber G hG 0 999 I1 J1 _ h) 2 gX7_readMove_X10_takesNumber rfl (by decide +kernel) (by rw [hX]; exact ⟨Nat.le_of_ble_eq_true rfl, Nat.le_of_ble_eq_true rfl⟩) rfl (Nat.le_of_ble_eq_true rfl) rfl rfl rfl dX7_readMove_23 (kk_sB (fun v2 I2 J2 hb2 h => ?_))
    refine wz_if_ne C (tgt := 31) (rgB hb2) dX7_readMove_26 (by decide) (fun c => ?_) (fun c => ?_)
    · replace h := h.1 c
      refine wz_aload_n C rfl rfl dX7_readMove_31 ?_
      refine wz_iconst C dX7_readMove_32 ?_
      refine wz_iload_n C rfl rfl dX7_readMove_33 ?_
      refine wz_aload_n C rfl rfl dX7_readMove_34 ?_
      refine wz_getI C rfl f_X7_readMove_105 rfl dX7_readMove_35 ?_
      refine wm_callV C (o := 106) (As := [.int (iZ 2), .int (iZ (I1 101 7)), .int (iZ (I2 101 7))]) (st := []) (a' := 0) (b' := 0) rfl rfl (k_X6_addCommand G hG 2 (I1 101 7) (I2 101 7) I2 J2 _ h) 3 gX7_readMove_X6_addCommand rfl (by decide +kernel) (by rw [hX]; exact ⟨Nat.le_of_ble_eq_true rfl, Nat.le_of_ble_eq_true rfl⟩) rfl (Nat.le_of_ble_eq_true rfl) rfl rfl rfl dX7_readMove_38 (kk_sV (fun I3 J3 h => ?_))
      refine wz_iconst C dX7_readMove_41 ?_
      exact wz_zret C (Or.inr rfl) dX7_readMove_42 ⟨_, rfl, (Or.inr rfl), h⟩
    · replace h := h.2 c
      refine wz_iconst C dX7_readMove_29 ?_
      exact wz_zret C (Or.inl rfl) dX7_readMove_30 ⟨_, rfl, (Or.inl rfl), h⟩
  · replace h := h.2 c
    refine wz_iconst C dX7_readMove_11 ?_
    exact wz_zret C (Or.inl rfl) dX7_readMove_12 ⟨_, rfl, (Or.inl rfl), h⟩
theorem in_X7_readNumbered_X10 : ∀ w ∈ wsX100, w ∈ wsX7_readNumbered := by decide +kernel
theorem f_X7_readNumbered_105 : FLk wsX7_readNumbered RX7 105 10 7 := flk 10 7 rfl tyX10_ok nmX10 in_X7_readNumbered_X10 (by decide) (by decide +kernel)
def rm_X7_readNumbered : Room := { frames := 4, cells := 0, slots := 0, locals := 85 }
set_option maxHeartbeats 4000000 in
set_option maxRecDepth 100000 in
theorem k_X7_readNumbered (G : KG) (hG : Kok G) (l3 : Int) (I : Ii) (J : Jj) (Q : Int → Ii → Jj → Prop) (h : wp_X7_readNumbered l3 I J Q) : Ctr G yX7_readNumbered wsX7_readNumbered rm_X7_readNumbered [.ref (kadr G 104), .ref (kadr G 101), .ref (kadr G 106), .int (iZ l3)] (I, J) (QsB Q) := by
  unfold wp_X7_readNumbered at h
  skip
  refine Ctr.ofZ (cc := cX7_readNumbered) (nL := 4) (ret := (some .boolean)) [some (.ref (kadr G 104)), some (.ref (kadr G 101)), some (.ref (kadr G 106)), some (.int (iZ l3))] hG (by decide +kernel) rfl (Nat.le_of_ble_eq_true rfl) (Nat.le_of_ble_eq_true rfl) (by simp [lvA, lv_args, Value.category]) ?_
  intro X hX C
  refine wz_aload_n C rfl rfl dX7_readNumbered_0 ?_
  refine wz_iconst C dX7_readNumbered_1 ?_
  refine wz_sipush C (by decide) dX7_readNumbered_2 ?_
  refine wm_callV C (o := 101) (As := [.int (iZ 0), .int (iZ 999)]) (st := []) (a' := 0) (b' := 0) rfl rfl (k_X10_takesNumber G hG 0 999 I J _ h) 2 gX7_readNumbered_X10_takesNumber rfl (by decide +kernel) (by rw [hX]; exact ⟨Nat.le_of_ble_eq_true rfl, Nat.le_of_ble_eq_true rfl⟩) rfl (Nat.le_of_ble_eq_true rfl) rfl rfl rfl dX7_readNumbered_5 (kk_sB (fun v1 I1 J1 hb1 h => ?_))
  refine wz_if_ne C (tgt := 13) (rgB hb1) dX7_readNumbered_8 (by decide) (fun c => ?_) (fun c => ?_)
  · replace h := h.1 c
    refine wz_aload_n C rfl rfl dX7_readNumbered_13 ?_
    refine wz_iload_n C rfl rfl dX7_readNumbered_14 ?_
    refine wz_aload_n C rfl rfl dX7_readNumbered_15 ?_
    refine wz_getI C rfl f_X7_readNumbered_105 rfl dX7_readNumbered_16 ?_
    refine wz_iconst C dX7_readNumbered_19 ?_
    refine wm_callV C (o := 106) (As := [.int (iZ l3), .int (iZ (I1 101 7)), .int (iZ 0)]) (st := []) (a' := 0) (b' := 0) rfl rfl (k_X6_addCommand G hG l3 (I1 101 7) 0 I1 J1 _ h) 3 gX7_readNumbered_X6_addCommand rfl (by decide +kernel) (by rw [hX]; exact ⟨Nat.le_of_ble_eq_true rfl, Nat.le_of_ble_eq_true rfl⟩) rfl (Nat.le_of_ble_eq_true rfl) rfl rfl rfl dX7_readNumbered_20 (kk_sV (fun I2 J2 h => ?_))
    refine wz_iconst C dX7_readNumbered_23 ?_
    exact wz_zret C (Or.inr rfl) dX7_readNumbered_24 ⟨_, rfl, (Or.inr rfl), h⟩
  · replace h := h.2 c
    refine wz_iconst C dX7_readNumbered_11 ?_
    exact wz_zret C (Or.inl rfl) dX7_readNumbered_12 ⟨_, rfl, (Or.inl rfl), h⟩
theorem in_X7_takesVertex_X10 : ∀ w ∈ wsX100, w ∈ wsX7_takesVertex := by decide +kernel
theorem f_X7_takesVertex_25 : FLk wsX7_takesVertex RX7 25 10 5 := flk 10 5 rfl tyX10_ok nmX10 in_X7_takesVertex_X10 (by decide) (by decide +kernel)
theorem f_X7_takesVertex_119 : FLk wsX7_takesVertex RX7 119 10 6 := flk 10 6 rfl tyX10_ok nmX10 in_X7_takesVertex_X10 (by decide) (by decide +kernel)
def rm_X7_takesVertex : Room := { frames := 3, cells := 0, slots := 0, locals := 63 }
set_option maxHeartbeats 4000000 in
set_option maxRecDepth 100000 in
theorem k_X7_takesVertex (G : KG) (hG : Kok G) (k2 : Nat) (I : Ii) (J : Jj) (Q : Int → Ii → Jj → Prop) (h : wp_X7_takesVertex k2 I J Q) : Ctr G yX7_takesVertex wsX7_takesVertex rm_X7_takesVertex [.ref (kadr G 104), .ref (kadr G 101), .ref (kadr G k2)] (I, J) (QsB Q) := by
  unfold wp_X7_takesVertex at h
  obtain ⟨hk2, h⟩ := h
  refine Ctr.ofZ (cc := cX7_takesVertex) (nL := 3) (ret := (some .boolean)) [some (.ref (kadr G 104)), some (.ref (kadr G 101)), some (.ref (kadr G k2))] hG (by decide +kernel) rfl (Nat.le_of_ble_eq_true rfl) (Nat.le_of_ble_eq_true rfl) (by simp [lvA, lv_args, Value.category]) ?_
  intro X hX C
  refine wz_aload_n C rfl rfl dX7_takesVertex_0 ?_
  refine wm_callV C (o := 101) (As := []) (st := []) (a' := 0) (b' := 0) rfl rfl (k_X10_advance G hG I J _ h) 0 gX7_takesVertex_X10_advance rfl (by decide +kernel) (by rw [hX]; exact ⟨Nat.le_of_ble_eq_true rfl, Nat.le_of_ble_eq_true rfl⟩) rfl (Nat.le_of_ble_eq_true rfl) rfl rfl rfl dX7_takesVertex_1 (kk_sV (fun I1 J1 h => ?_))
  refine wz_aload_n C rfl rfl dX7_takesVertex_4 ?_
  refine wz_getI C rfl f_X7_takesVertex_25 rfl dX7_takesVertex_5 ?_
  refine wz_iconst C dX7_takesVertex_8 ?_
  obtain ⟨g2, h⟩ := h
  refine wz_icmp_eq C (tgt := 18) g2 (by decide) dX7_takesVertex_9 (by decide) (fun c => ?_) (fun c => ?_)
  · replace h := h.1 c
    refine wz_aload_n C rfl rfl dX7_takesVertex_18 ?_
    refine wz_aload_n C rfl rfl dX7_takesVertex_19 ?_
    refine wz_getJ C rfl f_X7_takesVertex_119 rfl dX7_takesVertex_20 ?_
    refine wm_callV C (o := k2) (As := [.long (J1 101 6)]) (st := []) (a' := 0) (b' := 0) (spX2 hk2) rfl (k_X2_vertexNamed G hG k2 (J1 101 6) I1 J1 _ h) 1 gX7_takesVertex_X2_vertexNamed rfl (by decide +kernel) (by rw [hX]; exact ⟨Nat.le_of_ble_eq_true rfl, Nat.le_of_ble_eq_true rfl⟩) rfl (Nat.le_of_ble_eq_true rfl) rfl rfl rfl dX7_takesVertex_23 (kk_sI (fun v3 I3 J3 h => ?_))
    refine wz_iconst C dX7_takesVertex_26 ?_
    obtain ⟨g4, h⟩ := h
    refine wz_icmp_ne C (tgt := 38) g4 (by decide) dX7_takesVertex_27 (by decide) (fun c => ?_) (fun c => ?_)
    · replace h := h.1 c
      refine wz_iconst C dX7_takesVertex_38 ?_
      refine wz_goto C dX7_takesVertex_39 (tgt := 43) (by decide) ?_
      exact wz_zret C (Or.inr rfl) dX7_takesVertex_43 ⟨_, rfl, (Or.inr rfl), h⟩
    · replace h := h.2 c
      refine wz_aload_n C rfl rfl dX7_takesVertex_30 ?_
      refine wz_iconst C dX7_takesVertex_31 ?_
      refine wm_callV C (o := 101) (As := [.int (iZ 3)]) (st := []) (a' := 0) (b' := 0) rfl rfl (k_X10_fail G hG 3 I3 J3 _ h) 1 gX7_takesVertex_X10_fail rfl (by decide +kernel) (by rw [hX]; exact ⟨Nat.le_of_ble_eq_true rfl, Nat.le_of_ble_eq_true rfl⟩) rfl (Nat.le_of_ble_eq_true rfl) rfl rfl rfl dX7_takesVertex_32 (kk_sB (fun v5 I5 J5 hb5 h => ?_))
      refine wz_if_eq C (tgt := 42) (rgB hb5) dX7_takesVertex_35 (by decide) (fun c => ?_) (fun c => ?_)
      · replace h := h.1 c
        refine wz_iconst C dX7_takesVertex_42 ?_
        exact wz_zret C (Or.inl rfl) dX7_takesVertex_43 ⟨_, rfl, (Or.inl rfl), h⟩
      · replace h := h.2 c
        refine wz_iconst C dX7_takesVertex_38 ?_
        refine wz_goto C dX7_takesVertex_39 (tgt := 43) (by decide) ?_
        exact wz_zret C (Or.inr rfl) dX7_takesVertex_43 ⟨_, rfl, (Or.inr rfl), h⟩
  · replace h := h.2 c
    refine wz_aload_n C rfl rfl dX7_takesVertex_12 ?_
    refine wz_iconst C dX7_takesVertex_13 ?_
    refine wm_callV C (o := 101) (As := [.int (iZ 1)]) (st := []) (a' := 0) (b' := 0) rfl rfl (k_X10_fail G hG 1 I1 J1 _ h) 1 gX7_takesVertex_X10_fail rfl (by decide +kernel) (by rw [hX]; exact ⟨Nat.le_of_ble_eq_true rfl, Nat.le_of_ble_eq_true rfl⟩) rfl (Nat.le_of_ble_eq_true rfl) rfl rfl rfl dX7_takesVertex_14 (kk_sB (fun v6 I6 J6 hb6 h => ?_))
    exact wz_zret C h.1 dX7_takesVertex_17 ⟨_, rfl, h.1, h.2⟩
theorem in_X9_readVertex_X10 : ∀ w ∈ wsX100, w ∈ wsX9_readVertex := by decide +kernel
theorem in_X9_readVertex_X2 : ∀ w ∈ wsX20, w ∈ wsX9_readVertex := by decide +kernel
theorem f_X9_readVertex_68 : FLk wsX9_readVertex RX9 68 2 0 := flk 2 0 rfl tyX2_ok nmX2 in_X9_readVertex_X2 (by decide) (by decide +kernel)
theorem f_X9_readVertex_71 : FLk wsX9_readVertex RX9 71 10 6 := flk 10 6 rfl tyX10_ok nmX10 in_X9_readVertex_X10 (by decide) (by decide +kernel)
theorem f_X9_readVertex_83 : FLk wsX9_readVertex RX9 83 10 7 := flk 10 7 rfl tyX10_ok nmX10 in_X9_readVertex_X10 (by decide) (by decide +kernel)
def rm_X9_readVertex : Room := { frames := 4, cells := 0, slots := 0, locals := 85 }
set_option maxHeartbeats 4000000 in
set_option maxRecDepth 100000 in
theorem k_X9_readVertex (G : KG) (hG : Kok G) (k2 : Nat) (I : Ii) (J : Jj) (Q : Int → Ii → Jj → Prop) (h : wp_X9_readVertex k2 I J Q) : Ctr G yX9_readVertex wsX9_readVertex rm_X9_readVertex [.ref (kadr G 103), .ref (kadr G 101), .ref (kadr G k2)] (I, J) (QsB Q) := by
  unfold wp_X9_readVertex at h
  obtain ⟨hk2, h⟩ := h
  refine Ctr.ofZ (cc := cX9_readVertex) (nL := 5) (ret := (some .boolean)) [some (.ref (kadr G 103)), some (.ref (kadr G 101)), some (.ref (kadr G k2)), none, none] hG (by decide +kernel) rfl (Nat.le_of_ble_eq_true rfl) (Nat.le_of_ble_eq_true rfl) (by simp [lvA, lv_args, Value.category]) ?_
  intro X hX C
  refine wz_aload_n C rfl rfl dX9_readVertex_0 ?_
  refine wz_getI C rfl f_X9_readVertex_68 (soX2_0 hk2) dX9_readVertex_1 ?_
  refine wz_bipush C (by decide) dX9_readVertex_4 ?_
  obtain ⟨g1, h⟩ := h
  refine wz_icmp_lt C (tgt := 16) g1 (by decide) dX9_readVertex_6 (by decide) (fun c => ?_) (fun c => ?_)
  · replace h := h.1 c
    refine wz_aload_n C rfl rfl dX9_readVertex_16 ?_
    refine wz_iconst C dX9_readVertex_17 ?_
    refine wm_callV C (o := 101) (As := [.int (iZ 1)]) (st := []) (a' := 0) (b' := 0) rfl rfl (k_X10_takes G hG 1 I J _ h) 1 gX9_readVertex_X10_takes rfl (by decide +kernel) (by rw [hX]; exact ⟨Nat.le_of_ble_eq_true rfl, Nat.le_of_ble_eq_true rfl⟩) rfl (Nat.le_of_ble_eq_true rfl) rfl rfl rfl dX9_readVertex_18 (kk_sB (fun v2 I2 J2 hb2 h => ?_))
    refine wz_if_ne C (tgt := 26) (rgB hb2) dX9_readVertex_21 (by decide) (fun c => ?_) (fun c => ?_)
    · replace h := h.1 c
      refine wz_aload_n C rfl rfl dX9_readVertex_26 ?_
      refine wz_getJ C rfl f_X9_readVertex_71 rfl dX9_readVertex_27 ?_
      refine wz_lstore_3 C rfl dX9_readVertex_30 ?_
      refine wz_aload_n C rfl rfl dX9_readVertex_31 ?_
      refine wz_lload_n C rfl rfl dX9_readVertex_32 ?_
      refine wm_callV C (o := k2) (As := [.long (J2 101 6)]) (st := []) (a' := 0) (b' := 0) (spX2 hk2) rfl (k_X2_vertexNamed G hG k2 (J2 101 6) I2 J2 _ h) 1 gX9_readVertex_X2_vertexNamed rfl (by decide +kernel) (by rw [hX]; exact ⟨Nat.le_of_ble_eq_true rfl, Nat.le_of_ble_eq_true rfl⟩) rfl (Nat.le_of_ble_eq_true rfl) rfl rfl rfl dX9_readVertex_33 (kk_sI (fun v3 I3 J3 h => ?_))
      refine wz_iconst C dX9_readVertex_36 ?_
      obtain ⟨g4, h⟩ := h
      refine wz_icmp_eq C (tgt := 46) g4 (by decide) dX9_readVertex_37 (by decide) (fun c => ?_) (fun c => ?_)
      · replace h := h.1 c
        refine wz_aload_n C rfl rfl dX9_readVertex_46 ?_
        refine wz_iconst C dX9_readVertex_47 ?_
        refine wz_bipush C (by decide) dX9_readVertex_48 ?_
        refine wm_callV C (o := 101) (As := [.int (iZ 1), .int (iZ 99)]) (st := []) (a' := 0) (b' := 0) rfl rfl (k_X10_takesNumber G hG 1 99 I3 J3 _ h) 2 gX9_readVertex_X10_takesNumber rfl (by decide +kernel) (by rw [hX]; exact ⟨Nat.le_of_ble_eq_true rfl, Nat.le_of_ble_eq_true rfl⟩) rfl (Nat.le_of_ble_eq_true rfl) rfl rfl rfl dX9_readVertex_50 (kk_sB (fun v5 I5 J5 hb5 h => ?_))
        refine wz_if_ne C (tgt := 58) (rgB hb5) dX9_readVertex_53 (by decide) (fun c => ?_) (fun c => ?_)
        · replace h := h.1 c
          refine wz_aload_n C rfl rfl dX9_readVertex_58 ?_
          refine wz_lload_n C rfl rfl dX9_readVertex_59 ?_
          refine wz_aload_n C rfl rfl dX9_readVertex_60 ?_
          refine wz_getI C rfl f_X9_readVertex_83 rfl dX9_readVertex_61 ?_
          refine wm_callV C (o := k2) (As := [.long (J2 101 6), .int (iZ (I5 101 7))]) (st := []) (a' := 0) (b' := 0) (spX2 hk2) rfl (k_X2_addVertex G hG k2 (J2 101 6) (I5 101 7) I5 J5 _ h) 2 gX9_readVertex_X2_addVertex rfl (by decide +kernel) (by rw [hX]; exact ⟨Nat.le_of_ble_eq_true rfl, Nat.le_of_ble_eq_true rfl⟩) rfl (Nat.le_of_ble_eq_true rfl) rfl rfl rfl dX9_readVertex_64 (kk_sV (fun I6 J6 h => ?_))
          refine wz_iconst C dX9_readVertex_67 ?_
          exact wz_zret C (Or.inr rfl) dX9_readVertex_68 ⟨_, rfl, (Or.inr rfl), h⟩
        · replace h := h.2 c
          refine wz_iconst C dX9_readVertex_56 ?_
          exact wz_zret C (Or.inl rfl) dX9_readVertex_57 ⟨_, rfl, (Or.inl rfl), h⟩
      · replace h := h.2 c
        refine wz_aload_n C rfl rfl dX9_readVertex_40 ?_
        refine wz_iconst C dX9_readVertex_41 ?_
        refine wm_callV C (o := 101) (As := [.int (iZ 3)]) (st := []) (a' := 0) (b' := 0) rfl rfl (k_X10_fail G hG 3 I3 J3 _ h) 1 gX9_readVertex_X10_fail rfl (by decide +kernel) (by rw [hX]; exact ⟨Nat.le_of_ble_eq_true rfl, Nat.le_of_ble_eq_true rfl⟩) rfl (Nat.le_of_ble_eq_true rfl) rfl rfl rfl dX9_readVertex_42 (kk_sB (fun v7 I7 J7 hb7 h => ?_))
        exact wz_zret C h.1 dX9_readVertex_45 ⟨_, rfl, h.1, h.2⟩
    · replace h := h.2 c
      refine wz_iconst C dX9_readVertex_24 ?_
      exact wz_zret C (Or.inl rfl) dX9_readVertex_25 ⟨_, rfl, (Or.inl rfl), h⟩
  · replace h := h.2 c
    refine wz_aload_n C rfl rfl dX9_readVertex_9 ?_
    refine wz_bipush C (by decide) dX9_readVertex_10 ?_
    refine wm_callV C (o := 101) (As := [.int (iZ 6)]) (st := []) (a' := 0) (b' := 0) rfl rfl (k_X10_fail G hG 6 I J _ h) 1 gX9_readVertex_X10_fail rfl (by decide +kernel) (by rw [hX]; exact ⟨Nat.le_of_ble_eq_true rfl, Nat.le_of_ble_eq_true rfl⟩) rfl (Nat.le_of_ble_eq_true rfl) rfl rfl rfl dX9_readVertex_12 (kk_sB (fun v8 I8 J8 hb8 h => ?_))
    exact wz_zret C h.1 dX9_readVertex_15 ⟨_, rfl, h.1, h.2⟩
theorem in_X9_readEdge_X10 : ∀ w ∈ wsX100, w ∈ wsX9_readEdge := by decide +kernel
theorem in_X9_readEdge_X2 : ∀ w ∈ wsX20, w ∈ wsX9_readEdge := by decide +kernel
theorem f_X9_readEdge_90 : FLk wsX9_readEdge RX9 90 2 1 := flk 2 1 rfl tyX2_ok nmX2 in_X9_readEdge_X2 (by decide) (by decide +kernel)
theorem f_X9_readEdge_71 : FLk wsX9_readEdge RX9 71 10 6 := flk 10 6 rfl tyX10_ok nmX10 in_X9_readEdge_X10 (by decide) (by decide +kernel)
theorem f_X9_readEdge_83 : FLk wsX9_readEdge RX9 83 10 7 := flk 10 7 rfl tyX10_ok nmX10 in_X9_readEdge_X10 (by decide) (by decide +kernel)
def rm_X9_readEdge : Room := { frames := 4, cells := 0, slots := 0, locals := 85 }
set_option maxHeartbeats 4000000 in
set_option maxRecDepth 100000 in
theorem bk_X9_readEdge_78 (G : KG) (hG : Kok G) (X : KX) (hX : KR X = rm_X9_readEdge) (C : Fr G X cX9_readEdge 5 yX9_readEdge.cls (some .boolean) wsX9_readEdge) (k2 : Nat) (hk2 : gK k2) (Q : Int → Ii → Jj → Prop)  (I : Ii) (J : Jj) (h : B_X9_readEdge_78 k2 Q  I J) : Wz G X 5 (QsU G X (QsB Q)) 0 0 78 [none, some (.ref (kadr G 101)), none, none, none] [] I J := by
  unfold B_X9_readEdge_78 at h
  refine wz_aload_n C rfl rfl dX9_readEdge_78 ?_
  refine wz_iconst C dX9_readEdge_79 ?_
  refine wm_callV C (o := 101) (As := [.int (iZ 3)]) (st := []) (a' := 0) (b' := 0) rfl rfl (k_X10_fail G hG 3 I J _ h) 1 gX9_readEdge_X10_fail rfl (by decide +kernel) (by rw [hX]; exact ⟨Nat.le_of_ble_eq_true rfl, Nat.le_of_ble_eq_true rfl⟩) rfl (Nat.le_of_ble_eq_true rfl) rfl rfl rfl dX9_readEdge_80 (kk_sB (fun v16 I16 J16 hb16 h => ?_))
  exact wz_zret C h.1 dX9_readEdge_83 ⟨_, rfl, h.1, h.2⟩
set_option maxHeartbeats 4000000 in
set_option maxRecDepth 100000 in
theorem k_X9_readEdge (G : KG) (hG : Kok G) (k2 : Nat) (I : Ii) (J : Jj) (Q : Int → Ii → Jj → Prop) (h : wp_X9_readEdge k2 I J Q) : Ctr G yX9_readEdge wsX9_readEdge rm_X9_readEdge [.ref (kadr G 103), .ref (kadr G 101), .ref (kadr G k2)] (I, J) (QsB Q) := by
  unfold wp_X9_readEdge at h
  obtain ⟨hk2, h⟩ := h
  refine Ctr.ofZ (cc := cX9_readEdge) (nL := 5) (ret := (some .boolean)) [some (.ref (kadr G 103)), some (.ref (kadr G 101)), some (.ref (kadr G k2)), none, none] hG (by decide +kernel) rfl (Nat.le_of_ble_eq_true rfl) (Nat.le_of_ble_eq_true rfl) (by simp [lvA, lv_args, Value.category]) ?_
  intro X hX C
  refine wz_aload_n C rfl rfl dX9_readEdge_0 ?_
  refine wz_getI C rfl f_X9_readEdge_90 (soX2_1 hk2) dX9_readEdge_1 ?_
  refine wz_bipush C (by decide) dX9_readEdge_4 ?_
  obtain ⟨g1, h⟩ := h
  refine wz_icmp_lt C (tgt := 16) g1 (by decide) dX9_readEdge_6 (by decide) (fun c => ?_) (fun c => ?_)
  · replace h := h.1 c
    refine wz_aload_n C rfl rfl dX9_readEdge_16 ?_
    refine wz_iconst C dX9_readEdge_17 ?_
    refine wm_callV C (o := 101) (As := [.int (iZ 1)]) (st := []) (a' := 0) (b' := 0) rfl rfl (k_X10_takes G hG 1 I J _ h) 1 gX9_readEdge_X10_takes rfl (by decide +kernel) (by rw [hX]; exact ⟨Nat.le_of_ble_eq_true rfl, Nat.le_of_ble_eq_true rfl⟩) rfl (Nat.le_of_ble_eq_true rfl) rfl rfl rfl dX9_readEdge_18 (kk_sB (fun v2 I2 J2 hb2 h => ?_))
    refine wz_if_ne C (tgt := 26) (rgB hb2) dX9_readEdge_21 (by decide) (fun c => ?_) (fun c => ?_)
    · replace h := h.1 c
      refine wz_aload_n C rfl rfl dX9_readEdge_26 ?_
      refine wz_aload_n C rfl rfl dX9_readEdge_27 ?_
      refine wz_getJ C rfl f_X9_readEdge_71 rfl dX9_readEdge_28 ?_
      refine wm_callV C (o := k2) (As := [.long (J2 101 6)]) (st := []) (a' := 0) (b' := 0) (spX2 hk2) rfl (k_X2_vertexNamed G hG k2 (J2 101 6) I2 J2 _ h) 1 gX9_readEdge_X2_vertexNamed rfl (by decide +kernel) (by rw [hX]; exact ⟨Nat.le_of_ble_eq_true rfl, Nat.le_of_ble_eq_true rfl⟩) rfl (Nat.le_of_ble_eq_true rfl) rfl rfl rfl dX9_readEdge_31 (kk_sI (fun v3 I3 J3 h => ?_))
      refine wz_istore_3 C rfl dX9_readEdge_34 ?_
      refine wz_iload_n C rfl rfl dX9_readEdge_35 ?_
      refine wz_iconst C dX9_readEdge_36 ?_
      obtain ⟨g4, h⟩ := h
      refine wz_icmp_ne C (tgt := 46) g4 (by decide) dX9_readEdge_37 (by decide) (fun c => ?_) (fun c => ?_)
      · replace h := h.1 c
        refine wz_aload_n C rfl rfl dX9_readEdge_46 ?_
        refine wz_iconst C dX9_readEdge_47 ?_
        refine wm_callV C (o := 101) (As := [.int (iZ 1)]) (st := []) (a' := 0) (b' := 0) rfl rfl (k_X10_takes G hG 1 I3 J3 _ h) 1 gX9_readEdge_X10_takes rfl (by decide +kernel) (by rw [hX]; exact ⟨Nat.le_of_ble_eq_true rfl, Nat.le_of_ble_eq_true rfl⟩) rfl (Nat.le_of_ble_eq_true rfl) rfl rfl rfl dX9_readEdge_48 (kk_sB (fun v5 I5 J5 hb5 h => ?_))
        refine wz_if_ne C (tgt := 56) (rgB hb5) dX9_readEdge_51 (by decide) (fun c => ?_) (fun c => ?_)
        · replace h := h.1 c
          refine wz_aload_n C rfl rfl dX9_readEdge_56 ?_
          refine wz_aload_n C rfl rfl dX9_readEdge_57 ?_
          refine wz_getJ C rfl f_X9_readEdge_71 rfl dX9_readEdge_58 ?_
          refine wm_callV C (o := k2) (As := [.long (J5 101 6)]) (st := []) (a' := 0) (b' := 0) (spX2 hk2) rfl (k_X2_vertexNamed G hG k2 (J5 101 6) I5 J5 _ h) 1 gX9_readEdge_X2_vertexNamed rfl (by decide +kernel) (by rw [hX]; exact ⟨Nat.le_of_ble_eq_true rfl, Nat.le_of_ble_eq_true rfl⟩) rfl (Nat.le_of_ble_eq_true rfl) rfl rfl rfl dX9_readEdge_61 (kk_sI (fun v6 I6 J6 h => ?_))
          refine wz_istore_4 C rfl dX9_readEdge_64 ?_
          refine wz_iload C rfl dX9_readEdge_66 ?_
          refine wz_iconst C dX9_readEdge_68 ?_
          obtain ⟨g7, h⟩ := h
          refine wz_icmp_eq C (tgt := 78) g7 (by decide) dX9_readEdge_69 (by decide) (fun c => ?_) (fun c => ?_)
          · replace h := h.1 c
            exact Wz.drop (bk_X9_readEdge_78 G hG X hX C k2 hk2 Q I6 J6 h) (And.intro rfl trivial)
          · replace h := h.2 c
            refine wz_iload C rfl dX9_readEdge_72 ?_
            refine wz_iload_n C rfl rfl dX9_readEdge_74 ?_
            obtain ⟨g8, h⟩ := h
            refine wz_icmp_ne C (tgt := 84) g7 g8 dX9_readEdge_75 (by decide) (fun c => ?_) (fun c => ?_)
            · replace h := h.1 c
              refine wz_aload_n C rfl rfl dX9_readEdge_84 ?_
              refine wz_iload_n C rfl rfl dX9_readEdge_85 ?_
              refine wz_iload C rfl dX9_readEdge_86 ?_
              refine wm_callV C (o := k2) (As := [.int (iZ v3), .int (iZ v6)]) (st := []) (a' := 0) (b' := 0) (spX2 hk2) rfl (k_X2_edgeOf G hG k2 v3 v6 I6 J6 _ h) 2 gX9_readEdge_X2_edgeOf rfl (by decide +kernel) (by rw [hX]; exact ⟨Nat.le_of_ble_eq_true rfl, Nat.le_of_ble_eq_true rfl⟩) rfl (Nat.le_of_ble_eq_true rfl) rfl rfl rfl dX9_readEdge_88 (kk_sI (fun v9 I9 J9 h => ?_))
              refine wz_iconst C dX9_readEdge_91 ?_
              obtain ⟨g10, h⟩ := h
              refine wz_icmp_eq C (tgt := 101) g10 (by decide) dX9_readEdge_92 (by decide) (fun c => ?_) (fun c => ?_)
              · replace h := h.1 c
                refine wz_aload_n C rfl rfl dX9_readEdge_101 ?_
                refine wz_iconst C dX9_readEdge_102 ?_
                refine wz_bipush C (by decide) dX9_readEdge_103 ?_
                refine wm_callV C (o := 101) (As := [.int (iZ 1), .int (iZ 99)]) (st := []) (a' := 0) (b' := 0) rfl rfl (k_X10_takesNumber G hG 1 99 I9 J9 _ h) 2 gX9_readEdge_X10_takesNumber rfl (by decide +kernel) (by rw [hX]; exact ⟨Nat.le_of_ble_eq_true rfl, Nat.le_of_ble_eq_true rfl⟩) rfl (Nat.le_of_ble_eq_true rfl) rfl rfl rfl dX9_readEdge_105 (kk_sB (fun v11 I11 J11 hb11 h => ?_))
                refine wz_if_ne C (tgt := 113) (rgB hb11) dX9_readEdge_108 (by decide) (fun c => ?_) (fun c => ?_)
                · replace h := h.1 c
                  refine wz_aload_n C rfl rfl dX9_readEdge_113 ?_
                  refine wz_iload_n C rfl rfl dX9_readEdge_114 ?_
                  refine wz_iload C rfl dX9_readEdge_115 ?_
                  refine wz_aload_n C rfl rfl dX9_readEdge_117 ?_
                  refine wz_getI C rfl f_X9_readEdge_83 rfl dX9_readEdge_118 ?_
                  refine wm_callV C (o := k2) (As := [.int (iZ v3), .int (iZ v6), .int (iZ (I11 101 7))]) (st := []) (a' := 0) (b' := 0) (spX2 hk2) rfl (k_X2_addEdge G hG k2 v3 v6 (I11 101 7) I11 J11 _ h) 3 gX9_readEdge_X2_addEdge rfl (by decide +kernel) (by rw [hX]; exact ⟨Nat.le_of_ble_eq_true rfl, Nat.le_of_ble_eq_true rfl⟩) rfl (Nat.le_of_ble_eq_true rfl) rfl rfl rfl dX9_readEdge_121 (kk_sV (fun I12 J12 h => ?_))
                  refine wz_iconst C dX9_readEdge_124 ?_
                  exact wz_zret C (Or.inr rfl) dX9_readEdge_125 ⟨_, rfl, (Or.inr rfl), h⟩
                · replace h := h.2 c
                  refine wz_iconst C dX9_readEdge_111 ?_
                  exact wz_zret C (Or.inl rfl) dX9_readEdge_112 ⟨_, rfl, (Or.inl rfl), h⟩
              · replace h := h.2 c
                refine wz_aload_n C rfl rfl dX9_readEdge_95 ?_
                refine wz_iconst C dX9_readEdge_96 ?_
                refine wm_callV C (o := 101) (As := [.int (iZ 4)]) (st := []) (a' := 0) (b' := 0) rfl rfl (k_X10_fail G hG 4 I9 J9 _ h) 1 gX9_readEdge_X10_fail rfl (by decide +kernel) (by rw [hX]; exact ⟨Nat.le_of_ble_eq_true rfl, Nat.le_of_ble_eq_true rfl⟩) rfl (Nat.le_of_ble_eq_true rfl) rfl rfl rfl dX9_readEdge_97 (kk_sB (fun v13 I13 J13 hb13 h => ?_))
                exact wz_zret C h.1 dX9_readEdge_100 ⟨_, rfl, h.1, h.2⟩
            · replace h := h.2 c
              exact Wz.drop (bk_X9_readEdge_78 G hG X hX C k2 hk2 Q I6 J6 h) (And.intro rfl trivial)
        · replace h := h.2 c
          refine wz_iconst C dX9_readEdge_54 ?_
          exact wz_zret C (Or.inl rfl) dX9_readEdge_55 ⟨_, rfl, (Or.inl rfl), h⟩
      · replace h := h.2 c
        refine wz_aload_n C rfl rfl dX9_readEdge_40 ?_
        refine wz_iconst C dX9_readEdge_41 ?_
        refine wm_callV C (o := 101) (As := [.int (iZ 3)]) (st := []) (a' := 0) (b' := 0) rfl rfl (k_X10_fail G hG 3 I3 J3 _ h) 1 gX9_readEdge_X10_fail rfl (by decide +kernel) (by rw [hX]; exact ⟨Nat.le_of_ble_eq_true rfl, Nat.le_of_ble_eq_true rfl⟩) rfl (Nat.le_of_ble_eq_true rfl) rfl rfl rfl dX9_readEdge_42 (kk_sB (fun v14 I14 J14 hb14 h => ?_))
        exact wz_zret C h.1 dX9_readEdge_45 ⟨_, rfl, h.1, h.2⟩
    · replace h := h.2 c
      refine wz_iconst C dX9_readEdge_24 ?_
      exact wz_zret C (Or.inl rfl) dX9_readEdge_25 ⟨_, rfl, (Or.inl rfl), h⟩
  · replace h := h.2 c
    refine wz_aload_n C rfl rfl dX9_readEdge_9 ?_
    refine wz_bipush C (by decide) dX9_readEdge_10 ?_
    refine wm_callV C (o := 101) (As := [.int (iZ 6)]) (st := []) (a' := 0) (b' := 0) rfl rfl (k_X10_fail G hG 6 I J _ h) 1 gX9_readEdge_X10_fail rfl (by decide +kernel) (by rw [hX]; exact ⟨Nat.le_of_ble_eq_true rfl, Nat.le_of_ble_eq_true rfl⟩) rfl (Nat.le_of_ble_eq_true rfl) rfl rfl rfl dX9_readEdge_12 (kk_sB (fun v15 I15 J15 hb15 h => ?_))
    exact wz_zret C h.1 dX9_readEdge_15 ⟨_, rfl, h.1, h.2⟩
theorem in_X9_readParts_X10 : ∀ w ∈ wsX100, w ∈ wsX9_readParts := by decide +kernel
theorem in_X9_readParts_X2 : ∀ w ∈ wsX20, w ∈ wsX9_readParts := by decide +kernel
theorem f_X9_readParts_83 : FLk wsX9_readParts RX9 83 10 7 := flk 10 7 rfl tyX10_ok nmX10 in_X9_readParts_X10 (by decide) (by decide +kernel)
theorem f_X9_readParts_105 : FLk wsX9_readParts RX9 105 2 2 := flk 2 2 rfl tyX2_ok nmX2 in_X9_readParts_X2 (by decide) (by decide +kernel)
def rm_X9_readParts : Room := { frames := 4, cells := 0, slots := 0, locals := 85 }
set_option maxHeartbeats 4000000 in
set_option maxRecDepth 100000 in
theorem k_X9_readParts (G : KG) (hG : Kok G) (k2 : Nat) (I : Ii) (J : Jj) (Q : Int → Ii → Jj → Prop) (h : wp_X9_readParts k2 I J Q) : Ctr G yX9_readParts wsX9_readParts rm_X9_readParts [.ref (kadr G 103), .ref (kadr G 101), .ref (kadr G k2)] (I, J) (QsB Q) := by
  unfold wp_X9_readParts at h
  obtain ⟨hk2, h⟩ := h
  refine Ctr.ofZ (cc := cX9_readParts) (nL := 3) (ret := (some .boolean)) [some (.ref (kadr G 103)), some (.ref (kadr G 101)), some (.ref (kadr G k2))] hG (by decide +kernel) rfl (Nat.le_of_ble_eq_true rfl) (Nat.le_of_ble_eq_true rfl) (by simp [lvA, lv_args, Value.category]) ?_
  intro X hX C
  refine wz_aload_n C rfl rfl dX9_readParts_0 ?_
  refine wz_aload_n C rfl rfl dX9_readParts_1 ?_
  refine wz_iconst C dX9_readParts_2 ?_
  refine wm_callV C (o := 103) (As := [.ref (kadr G 101), .int (iZ 1)]) (st := []) (a' := 0) (b' := 0) rfl rfl (k_X9_takesOnce G hG 1 I J _ h) 2 gX9_readParts_X9_takesOnce rfl (by decide +kernel) (by rw [hX]; exact ⟨Nat.le_of_ble_eq_true rfl, Nat.le_of_ble_eq_true rfl⟩) rfl (Nat.le_of_ble_eq_true rfl) rfl rfl rfl dX9_readParts_3 (kk_sB (fun v1 I1 J1 hb1 h => ?_))
  refine wz_if_eq C (tgt := 18) (rgB hb1) dX9_readParts_6 (by decide) (fun c => ?_) (fun c => ?_)
  · replace h := h.1 c
    refine wz_iconst C dX9_readParts_18 ?_
    exact wz_zret C (Or.inl rfl) dX9_readParts_19 ⟨_, rfl, (Or.inl rfl), h⟩
  · replace h := h.2 c
    refine wz_aload_n C rfl rfl dX9_readParts_9 ?_
    refine wz_iconst C dX9_readParts_10 ?_
    refine wz_iconst C dX9_readParts_11 ?_
    refine wm_callV C (o := 101) (As := [.int (iZ 2), .int (iZ 4)]) (st := []) (a' := 0) (b' := 0) rfl rfl (k_X10_takesNumber G hG 2 4 I1 J1 _ h) 2 gX9_readParts_X10_takesNumber rfl (by decide +kernel) (by rw [hX]; exact ⟨Nat.le_of_ble_eq_true rfl, Nat.le_of_ble_eq_true rfl⟩) rfl (Nat.le_of_ble_eq_true rfl) rfl rfl rfl dX9_readParts_12 (kk_sB (fun v2 I2 J2 hb2 h => ?_))
    refine wz_if_ne C (tgt := 20) (rgB hb2) dX9_readParts_15 (by decide) (fun c => ?_) (fun c => ?_)
    · replace h := h.1 c
      refine wz_aload_n C rfl rfl dX9_readParts_20 ?_
      refine wz_aload_n C rfl rfl dX9_readParts_21 ?_
      refine wz_getI C rfl f_X9_readParts_83 rfl dX9_readParts_22 ?_
      refine wd_putI C f_X9_readParts_105 fp_X2_2 (soX2_2 hk2) dX9_readParts_25 (fun I3 e => ?_)
      replace h := h I3 e
      refine wz_iconst C dX9_readParts_28 ?_
      exact wz_zret C (Or.inr rfl) dX9_readParts_29 ⟨_, rfl, (Or.inr rfl), h⟩
    · replace h := h.2 c
      refine wz_iconst C dX9_readParts_18 ?_
      exact wz_zret C (Or.inl rfl) dX9_readParts_19 ⟨_, rfl, (Or.inl rfl), h⟩
theorem in_X9_readSlack_X10 : ∀ w ∈ wsX100, w ∈ wsX9_readSlack := by decide +kernel
theorem in_X9_readSlack_X2 : ∀ w ∈ wsX20, w ∈ wsX9_readSlack := by decide +kernel
theorem f_X9_readSlack_83 : FLk wsX9_readSlack RX9 83 10 7 := flk 10 7 rfl tyX10_ok nmX10 in_X9_readSlack_X10 (by decide) (by decide +kernel)
theorem f_X9_readSlack_107 : FLk wsX9_readSlack RX9 107 2 3 := flk 2 3 rfl tyX2_ok nmX2 in_X9_readSlack_X2 (by decide) (by decide +kernel)
def rm_X9_readSlack : Room := { frames := 4, cells := 0, slots := 0, locals := 85 }
set_option maxHeartbeats 4000000 in
set_option maxRecDepth 100000 in
theorem k_X9_readSlack (G : KG) (hG : Kok G) (k2 : Nat) (I : Ii) (J : Jj) (Q : Int → Ii → Jj → Prop) (h : wp_X9_readSlack k2 I J Q) : Ctr G yX9_readSlack wsX9_readSlack rm_X9_readSlack [.ref (kadr G 103), .ref (kadr G 101), .ref (kadr G k2)] (I, J) (QsB Q) := by
  unfold wp_X9_readSlack at h
  obtain ⟨hk2, h⟩ := h
  refine Ctr.ofZ (cc := cX9_readSlack) (nL := 3) (ret := (some .boolean)) [some (.ref (kadr G 103)), some (.ref (kadr G 101)), some (.ref (kadr G k2))] hG (by decide +kernel) rfl (Nat.le_of_ble_eq_true rfl) (Nat.le_of_ble_eq_true rfl) (by simp [lvA, lv_args, Value.category]) ?_
  intro X hX C
  refine wz_aload_n C rfl rfl dX9_readSlack_0 ?_
  refine wz_aload_n C rfl rfl dX9_readSlack_1 ?_
  refine wz_iconst C dX9_readSlack_2 ?_
  refine wm_callV C (o := 103) (As := [.ref (kadr G 101), .int (iZ 2)]) (st := []) (a' := 0) (b' := 0) rfl rfl (k_X9_takesOnce G hG 2 I J _ h) 2 gX9_readSlack_X9_takesOnce rfl (by decide +kernel) (by rw [hX]; exact ⟨Nat.le_of_ble_eq_true rfl, Nat.le_of_ble_eq_true rfl⟩) rfl (Nat.le_of_ble_eq_true rfl) rfl rfl rfl dX9_readSlack_3 (kk_sB (fun v1 I1 J1 hb1 h => ?_))
  refine wz_if_eq C (tgt := 19) (rgB hb1) dX9_readSlack_6 (by decide) (fun c => ?_) (fun c => ?_)
  · replace h := h.1 c
    refine wz_iconst C dX9_readSlack_19 ?_
    exact wz_zret C (Or.inl rfl) dX9_readSlack_20 ⟨_, rfl, (Or.inl rfl), h⟩
  · replace h := h.2 c
    refine wz_aload_n C rfl rfl dX9_readSlack_9 ?_
    refine wz_iconst C dX9_readSlack_10 ?_
    refine wz_bipush C (by decide) dX9_readSlack_11 ?_
    refine wm_callV C (o := 101) (As := [.int (iZ 0), .int (iZ 99)]) (st := []) (a' := 0) (b' := 0) rfl rfl (k_X10_takesNumber G hG 0 99 I1 J1 _ h) 2 gX9_readSlack_X10_takesNumber rfl (by decide +kernel) (by rw [hX]; exact ⟨Nat.le_of_ble_eq_true rfl, Nat.le_of_ble_eq_true rfl⟩) rfl (Nat.le_of_ble_eq_true rfl) rfl rfl rfl dX9_readSlack_13 (kk_sB (fun v2 I2 J2 hb2 h => ?_))
    refine wz_if_ne C (tgt := 21) (rgB hb2) dX9_readSlack_16 (by decide) (fun c => ?_) (fun c => ?_)
    · replace h := h.1 c
      refine wz_aload_n C rfl rfl dX9_readSlack_21 ?_
      refine wz_aload_n C rfl rfl dX9_readSlack_22 ?_
      refine wz_getI C rfl f_X9_readSlack_83 rfl dX9_readSlack_23 ?_
      refine wd_putI C f_X9_readSlack_107 fp_X2_3 (soX2_3 hk2) dX9_readSlack_26 (fun I3 e => ?_)
      replace h := h I3 e
      refine wz_iconst C dX9_readSlack_29 ?_
      exact wz_zret C (Or.inr rfl) dX9_readSlack_30 ⟨_, rfl, (Or.inr rfl), h⟩
    · replace h := h.2 c
      refine wz_iconst C dX9_readSlack_19 ?_
      exact wz_zret C (Or.inl rfl) dX9_readSlack_20 ⟨_, rfl, (Or.inl rfl), h⟩
theorem in_X9_readCredit_X10 : ∀ w ∈ wsX100, w ∈ wsX9_readCredit := by decide +kernel
theorem in_X9_readCredit_X2 : ∀ w ∈ wsX20, w ∈ wsX9_readCredit := by decide +kernel
theorem f_X9_readCredit_83 : FLk wsX9_readCredit RX9 83 10 7 := flk 10 7 rfl tyX10_ok nmX10 in_X9_readCredit_X10 (by decide) (by decide +kernel)
theorem f_X9_readCredit_109 : FLk wsX9_readCredit RX9 109 2 4 := flk 2 4 rfl tyX2_ok nmX2 in_X9_readCredit_X2 (by decide) (by decide +kernel)
def rm_X9_readCredit : Room := { frames := 4, cells := 0, slots := 0, locals := 85 }
set_option maxHeartbeats 4000000 in
set_option maxRecDepth 100000 in
theorem k_X9_readCredit (G : KG) (hG : Kok G) (k2 : Nat) (I : Ii) (J : Jj) (Q : Int → Ii → Jj → Prop) (h : wp_X9_readCredit k2 I J Q) : Ctr G yX9_readCredit wsX9_readCredit rm_X9_readCredit [.ref (kadr G 103), .ref (kadr G 101), .ref (kadr G k2)] (I, J) (QsB Q) := by
  unfold wp_X9_readCredit at h
  obtain ⟨hk2, h⟩ := h
  refine Ctr.ofZ (cc := cX9_readCredit) (nL := 3) (ret := (some .boolean)) [some (.ref (kadr G 103)), some (.ref (kadr G 101)), some (.ref (kadr G k2))] hG (by decide +kernel) rfl (Nat.le_of_ble_eq_true rfl) (Nat.le_of_ble_eq_true rfl) (by simp [lvA, lv_args, Value.category]) ?_
  intro X hX C
  refine wz_aload_n C rfl rfl dX9_readCredit_0 ?_
  refine wz_aload_n C rfl rfl dX9_readCredit_1 ?_
  refine wz_iconst C dX9_readCredit_2 ?_
  refine wm_callV C (o := 103) (As := [.ref (kadr G 101), .int (iZ 4)]) (st := []) (a' := 0) (b' := 0) rfl rfl (k_X9_takesOnce G hG 4 I J _ h) 2 gX9_readCredit_X9_takesOnce rfl (by decide +kernel) (by rw [hX]; exact ⟨Nat.le_of_ble_eq_true rfl, Nat.le_of_ble_eq_true rfl⟩) rfl (Nat.le_of_ble_eq_true rfl) rfl rfl rfl dX9_readCredit_3 (kk_sB (fun v1 I1 J1 hb1 h => ?_))
  refine wz_if_eq C (tgt := 19) (rgB hb1) dX9_readCredit_6 (by decide) (fun c => ?_) (fun c => ?_)
  · replace h := h.1 c
    refine wz_iconst C dX9_readCredit_19 ?_
    exact wz_zret C (Or.inl rfl) dX9_readCredit_20 ⟨_, rfl, (Or.inl rfl), h⟩
  · replace h := h.2 c
    refine wz_aload_n C rfl rfl dX9_readCredit_9 ?_
    refine wz_iconst C dX9_readCredit_10 ?_
    refine wz_bipush C (by decide) dX9_readCredit_11 ?_
    refine wm_callV C (o := 101) (As := [.int (iZ 0), .int (iZ 99)]) (st := []) (a' := 0) (b' := 0) rfl rfl (k_X10_takesNumber G hG 0 99 I1 J1 _ h) 2 gX9_readCredit_X10_takesNumber rfl (by decide +kernel) (by rw [hX]; exact ⟨Nat.le_of_ble_eq_true rfl, Nat.le_of_ble_eq_true rfl⟩) rfl (Nat.le_of_ble_eq_true rfl) rfl rfl rfl dX9_readCredit_13 (kk_sB (fun v2 I2 J2 hb2 h => ?_))
    refine wz_if_ne C (tgt := 21) (rgB hb2) dX9_readCredit_16 (by decide) (fun c => ?_) (fun c => ?_)
    · replace h := h.1 c
      refine wz_aload_n C rfl rfl dX9_readCredit_21 ?_
      refine wz_aload_n C rfl rfl dX9_readCredit_22 ?_
      refine wz_getI C rfl f_X9_readCredit_83 rfl dX9_readCredit_23 ?_
      refine wd_putI C f_X9_readCredit_109 fp_X2_4 (soX2_4 hk2) dX9_readCredit_26 (fun I3 e => ?_)
      replace h := h I3 e
      refine wz_iconst C dX9_readCredit_29 ?_
      exact wz_zret C (Or.inr rfl) dX9_readCredit_30 ⟨_, rfl, (Or.inr rfl), h⟩
    · replace h := h.2 c
      refine wz_iconst C dX9_readCredit_19 ?_
      exact wz_zret C (Or.inl rfl) dX9_readCredit_20 ⟨_, rfl, (Or.inl rfl), h⟩
theorem in_X11_whyNotShrink_X11 : ∀ w ∈ wsX110, w ∈ wsX11_whyNotShrink := by decide +kernel
theorem in_X11_whyNotShrink_X5 : ∀ w ∈ wsX50, w ∈ wsX11_whyNotShrink := by decide +kernel
theorem in_X11_whyNotShrink_X8 : ∀ w ∈ wsX80, w ∈ wsX11_whyNotShrink := by decide +kernel
theorem f_X11_whyNotShrink_53 : FLk wsX11_whyNotShrink RX11 53 11 7 := flk 11 7 rfl tyX11_ok nmX11 in_X11_whyNotShrink_X11 (by decide) (by decide +kernel)
theorem f_X11_whyNotShrink_192 : FLk wsX11_whyNotShrink RX11 192 8 0 := flk 8 0 rfl tyX8_ok nmX8 in_X11_whyNotShrink_X8 (by decide) (by decide +kernel)
theorem f_X11_whyNotShrink_80 : FLk wsX11_whyNotShrink RX11 80 11 13 := flk 11 13 rfl tyX11_ok nmX11 in_X11_whyNotShrink_X11 (by decide) (by decide +kernel)
theorem f_X11_whyNotShrink_395 : FLk wsX11_whyNotShrink RX11 395 5 4 := flk 5 4 rfl tyX5_ok nmX5 in_X11_whyNotShrink_X5 (by decide) (by decide +kernel)
def rm_X11_whyNotShrink : Room := { frames := 4, cells := 0, slots := 0, locals := 93 }
set_option maxHeartbeats 4000000 in
set_option maxRecDepth 100000 in
theorem k_X11_whyNotShrink (G : KG) (hG : Kok G) (I : Ii) (J : Jj) (Q : Int → Ii → Jj → Prop) (h : wp_X11_whyNotShrink I J Q) : Ctr G yX11_whyNotShrink wsX11_whyNotShrink rm_X11_whyNotShrink [.ref (kadr G 100)] (I, J) (QsI Q) := by
  unfold wp_X11_whyNotShrink at h
  skip
  refine Ctr.ofZ (cc := cX11_whyNotShrink) (nL := 1) (ret := (some .int)) [some (.ref (kadr G 100))] hG (by decide +kernel) rfl (Nat.le_of_ble_eq_true rfl) (Nat.le_of_ble_eq_true rfl) (by simp [lvA, lv_args, Value.category]) ?_
  intro X hX C
  refine wz_aload_n C rfl rfl dX11_whyNotShrink_0 ?_
  refine wz_getR C (j := 300) f_X11_whyNotShrink_53 rfl dX11_whyNotShrink_1 ?_
  refine wz_getI C rfl f_X11_whyNotShrink_192 rfl dX11_whyNotShrink_4 ?_
  refine wz_iconst C dX11_whyNotShrink_7 ?_
  obtain ⟨g1, h⟩ := h
  refine wz_icmp_lt C (tgt := 13) g1 (by decide) dX11_whyNotShrink_8 (by decide) (fun c => ?_) (fun c => ?_)
  · replace h := h.1 c
    refine wz_aload_n C rfl rfl dX11_whyNotShrink_13 ?_
    refine wm_callV C (o := 100) (As := []) (st := []) (a' := 0) (b' := 0) rfl rfl (k_X11_findPairs G hG I J _ h) 0 gX11_whyNotShrink_X11_findPairs rfl (by decide +kernel) (by rw [hX]; exact ⟨Nat.le_of_ble_eq_true rfl, Nat.le_of_ble_eq_true rfl⟩) rfl (Nat.le_of_ble_eq_true rfl) rfl rfl rfl dX11_whyNotShrink_14 (kk_sV (fun I2 J2 h => ?_))
    refine wz_aload_n C rfl rfl dX11_whyNotShrink_17 ?_
    refine wz_getR C (j := 120) f_X11_whyNotShrink_80 rfl dX11_whyNotShrink_18 ?_
    refine wz_getI C rfl f_X11_whyNotShrink_395 rfl dX11_whyNotShrink_21 ?_
    obtain ⟨g3, h⟩ := h
    refine wz_if_eq C (tgt := 31) g3 dX11_whyNotShrink_24 (by decide) (fun c => ?_) (fun c => ?_)
    · replace h := h.1 c
      refine wz_iconst C dX11_whyNotShrink_31 ?_
      exact wz_iret C dX11_whyNotShrink_32 ⟨_, rfl, h⟩
    · replace h := h.2 c
      refine wz_iconst C dX11_whyNotShrink_27 ?_
      refine wz_goto C dX11_whyNotShrink_28 (tgt := 32) (by decide) ?_
      exact wz_iret C dX11_whyNotShrink_32 ⟨_, rfl, h⟩
  · replace h := h.2 c
    refine wz_iconst C dX11_whyNotShrink_11 ?_
    exact wz_iret C dX11_whyNotShrink_12 ⟨_, rfl, h⟩
theorem in_X11_searchBest_X11 : ∀ w ∈ wsX110, w ∈ wsX11_searchBest := by decide +kernel
theorem f_X11_searchBest_73 : FLk wsX11_searchBest RX11 73 11 12 := flk 11 12 rfl tyX11_ok nmX11 in_X11_searchBest_X11 (by decide) (by decide +kernel)
theorem f_X11_searchBest_40 : FLk wsX11_searchBest RX11 40 11 4 := flk 11 4 rfl tyX11_ok nmX11 in_X11_searchBest_X11 (by decide) (by decide +kernel)
theorem f_X11_searchBest_53 : FLk wsX11_searchBest RX11 53 11 7 := flk 11 7 rfl tyX11_ok nmX11 in_X11_searchBest_X11 (by decide) (by decide +kernel)
theorem f_X11_searchBest_80 : FLk wsX11_searchBest RX11 80 11 13 := flk 11 13 rfl tyX11_ok nmX11 in_X11_searchBest_X11 (by decide) (by decide +kernel)
theorem f_X11_searchBest_87 : FLk wsX11_searchBest RX11 87 11 14 := flk 11 14 rfl tyX11_ok nmX11 in_X11_searchBest_X11 (by decide) (by decide +kernel)
def rm_X11_searchBest : Room := { frames := 4, cells := 0, slots := 0, locals := 107 }
set_option maxHeartbeats 4000000 in
set_option maxRecDepth 100000 in
theorem k_X11_searchBest (G : KG) (hG : Kok G) (I : Ii) (J : Jj) (Q : Ii → Jj → Prop) (h : wp_X11_searchBest I J Q) : Ctr G yX11_searchBest wsX11_searchBest rm_X11_searchBest [.ref (kadr G 100)] (I, J) (QsV Q) := by
  unfold wp_X11_searchBest at h
  skip
  refine Ctr.ofZ (cc := cX11_searchBest) (nL := 1) (ret := none) [some (.ref (kadr G 100))] hG (by decide +kernel) rfl (Nat.le_of_ble_eq_true rfl) (Nat.le_of_ble_eq_true rfl) (by simp [lvA, lv_args, Value.category]) ?_
  intro X hX C
  refine wz_aload_n C rfl rfl dX11_searchBest_0 ?_
  refine wz_getR C (j := 113) f_X11_searchBest_73 rfl dX11_searchBest_1 ?_
  refine wz_aload_n C rfl rfl dX11_searchBest_4 ?_
  refine wz_getR C (j := 200) f_X11_searchBest_40 rfl dX11_searchBest_5 ?_
  refine wz_aload_n C rfl rfl dX11_searchBest_8 ?_
  refine wz_getR C (j := 300) f_X11_searchBest_53 rfl dX11_searchBest_9 ?_
  refine wm_callV C (o := 113) (As := [.ref (kadr G 200), .ref (kadr G 300)]) (st := []) (a' := 0) (b' := 0) rfl rfl (k_X4_take G hG 200 300 I J _ h) 2 gX11_searchBest_X4_take rfl (by decide +kernel) (by rw [hX]; exact ⟨Nat.le_of_ble_eq_true rfl, Nat.le_of_ble_eq_true rfl⟩) rfl (Nat.le_of_ble_eq_true rfl) rfl rfl rfl dX11_searchBest_12 (kk_sV (fun I1 J1 h => ?_))
  refine wz_aload_n C rfl rfl dX11_searchBest_15 ?_
  refine wz_getR C (j := 120) f_X11_searchBest_80 rfl dX11_searchBest_16 ?_
  refine wz_aload_n C rfl rfl dX11_searchBest_19 ?_
  refine wz_getR C (j := 200) f_X11_searchBest_40 rfl dX11_searchBest_20 ?_
  refine wz_aload_n C rfl rfl dX11_searchBest_23 ?_
  refine wz_getR C (j := 300) f_X11_searchBest_53 rfl dX11_searchBest_24 ?_
  refine wm_callV C (o := 120) (As := [.ref (kadr G 200), .ref (kadr G 300)]) (st := []) (a' := 0) (b' := 0) rfl rfl (k_X5_join G hG 200 300 I1 J1 _ h) 2 gX11_searchBest_X5_join rfl (by decide +kernel) (by rw [hX]; exact ⟨Nat.le_of_ble_eq_true rfl, Nat.le_of_ble_eq_true rfl⟩) rfl (Nat.le_of_ble_eq_true rfl) rfl rfl rfl dX11_searchBest_27 (kk_sV (fun I2 J2 h => ?_))
  refine wz_aload_n C rfl rfl dX11_searchBest_30 ?_
  refine wz_getR C (j := 124) f_X11_searchBest_87 rfl dX11_searchBest_31 ?_
  refine wz_aload_n C rfl rfl dX11_searchBest_34 ?_
  refine wz_getR C (j := 113) f_X11_searchBest_73 rfl dX11_searchBest_35 ?_
  refine wz_aload_n C rfl rfl dX11_searchBest_38 ?_
  refine wz_getR C (j := 120) f_X11_searchBest_80 rfl dX11_searchBest_39 ?_
  refine wm_callV C (o := 124) (As := [.ref (kadr G 113), .ref (kadr G 120)]) (st := []) (a' := 0) (b' := 0) rfl rfl (k_X0_search G hG I2 J2 _ h) 2 gX11_searchBest_X0_search rfl (by decide +kernel) (by rw [hX]; exact ⟨Nat.le_of_ble_eq_true rfl, Nat.le_of_ble_eq_true rfl⟩) rfl (Nat.le_of_ble_eq_true rfl) rfl rfl rfl dX11_searchBest_42 (kk_sV (fun I3 J3 h => ?_))
  exact wz_vret C dX11_searchBest_45 ⟨rfl, h⟩
theorem in_X11_trySteps_X11 : ∀ w ∈ wsX110, w ∈ wsX11_trySteps := by decide +kernel
theorem f_X11_trySteps_57 : FLk wsX11_trySteps RX11 57 11 8 := flk 11 8 rfl tyX11_ok nmX11 in_X11_trySteps_X11 (by decide) (by decide +kernel)
theorem f_X11_trySteps_53 : FLk wsX11_trySteps RX11 53 11 7 := flk 11 7 rfl tyX11_ok nmX11 in_X11_trySteps_X11 (by decide) (by decide +kernel)
def rm_X11_trySteps : Room := { frames := 5, cells := 0, slots := 0, locals := 132 }
set_option maxHeartbeats 4000000 in
set_option maxRecDepth 100000 in
theorem k_X11_trySteps (G : KG) (hG : Kok G) (l1 : Int) (I : Ii) (J : Jj) (Q : Int → Ii → Jj → Prop) (h : wp_X11_trySteps l1 I J Q) : Ctr G yX11_trySteps wsX11_trySteps rm_X11_trySteps [.ref (kadr G 100), .int (iZ l1)] (I, J) (QsI Q) := by
  unfold wp_X11_trySteps at h
  skip
  refine Ctr.ofZ (cc := cX11_trySteps) (nL := 2) (ret := (some .int)) [some (.ref (kadr G 100)), some (.int (iZ l1))] hG (by decide +kernel) rfl (Nat.le_of_ble_eq_true rfl) (Nat.le_of_ble_eq_true rfl) (by simp [lvA, lv_args, Value.category]) ?_
  intro X hX C
  refine wz_aload_n C rfl rfl dX11_trySteps_0 ?_
  refine wz_getR C (j := 310) f_X11_trySteps_57 rfl dX11_trySteps_1 ?_
  refine wz_aload_n C rfl rfl dX11_trySteps_4 ?_
  refine wz_getR C (j := 300) f_X11_trySteps_53 rfl dX11_trySteps_5 ?_
  refine wm_callV C (o := 310) (As := [.ref (kadr G 300)]) (st := []) (a' := 0) (b' := 0) rfl rfl (k_X8_copyFrom G hG 310 300 I J _ h) 1 gX11_trySteps_X8_copyFrom rfl (by decide +kernel) (by rw [hX]; exact ⟨Nat.le_of_ble_eq_true rfl, Nat.le_of_ble_eq_true rfl⟩) rfl (Nat.le_of_ble_eq_true rfl) rfl rfl rfl dX11_trySteps_8 (kk_sV (fun I1 J1 h => ?_))
  refine wz_aload_n C rfl rfl dX11_trySteps_11 ?_
  refine wz_aload_n C rfl rfl dX11_trySteps_12 ?_
  refine wz_getR C (j := 310) f_X11_trySteps_57 rfl dX11_trySteps_13 ?_
  refine wz_iload_n C rfl rfl dX11_trySteps_16 ?_
  refine wm_callV C (o := 100) (As := [.ref (kadr G 310), .int (iZ l1)]) (st := []) (a' := 0) (b' := 0) rfl rfl (k_X11_makeSteps G hG 310 l1 I1 J1 _ h) 2 gX11_trySteps_X11_makeSteps rfl (by decide +kernel) (by rw [hX]; exact ⟨Nat.le_of_ble_eq_true rfl, Nat.le_of_ble_eq_true rfl⟩) rfl (Nat.le_of_ble_eq_true rfl) rfl rfl rfl dX11_trySteps_17 (kk_sI (fun v2 I2 J2 h => ?_))
  exact wz_iret C dX11_trySteps_20 ⟨_, rfl, h⟩
theorem in_X11_shrink_X11 : ∀ w ∈ wsX110, w ∈ wsX11_shrink := by decide +kernel
theorem f_X11_shrink_66 : FLk wsX11_shrink RX11 66 11 11 := flk 11 11 rfl tyX11_ok nmX11 in_X11_shrink_X11 (by decide) (by decide +kernel)
theorem f_X11_shrink_53 : FLk wsX11_shrink RX11 53 11 7 := flk 11 7 rfl tyX11_ok nmX11 in_X11_shrink_X11 (by decide) (by decide +kernel)
def rm_X11_shrink : Room := { frames := 5, cells := 0, slots := 0, locals := 124 }
set_option maxHeartbeats 4000000 in
set_option maxRecDepth 100000 in
theorem k_X11_shrink (G : KG) (hG : Kok G) (I : Ii) (J : Jj) (Q : Int → Ii → Jj → Prop) (h : wp_X11_shrink I J Q) : Ctr G yX11_shrink wsX11_shrink rm_X11_shrink [.ref (kadr G 100)] (I, J) (QsI Q) := by
  unfold wp_X11_shrink at h
  skip
  refine Ctr.ofZ (cc := cX11_shrink) (nL := 1) (ret := (some .int)) [some (.ref (kadr G 100))] hG (by decide +kernel) rfl (Nat.le_of_ble_eq_true rfl) (Nat.le_of_ble_eq_true rfl) (by simp [lvA, lv_args, Value.category]) ?_
  intro X hX C
  refine wz_aload_n C rfl rfl dX11_shrink_0 ?_
  refine wm_callV C (o := 100) (As := []) (st := []) (a' := 0) (b' := 0) rfl rfl (k_X11_whyNotShrink G hG I J _ h) 0 gX11_shrink_X11_whyNotShrink rfl (by decide +kernel) (by rw [hX]; exact ⟨Nat.le_of_ble_eq_true rfl, Nat.le_of_ble_eq_true rfl⟩) rfl (Nat.le_of_ble_eq_true rfl) rfl rfl rfl dX11_shrink_1 (kk_sI (fun v1 I1 J1 h => ?_))
  obtain ⟨g2, h⟩ := h
  refine wz_if_eq C (tgt := 18) g2 dX11_shrink_4 (by decide) (fun c => ?_) (fun c => ?_)
  · replace h := h.1 c
    refine wz_aload_n C rfl rfl dX11_shrink_18 ?_
    refine wz_getR C (j := 111) f_X11_shrink_66 rfl dX11_shrink_19 ?_
    refine wz_aload_n C rfl rfl dX11_shrink_22 ?_
    refine wz_getR C (j := 300) f_X11_shrink_53 rfl dX11_shrink_23 ?_
    refine wm_callV C (o := 111) (As := [.ref (kadr G 300)]) (st := []) (a' := 0) (b' := 0) rfl rfl (k_X3_keep G hG 300 I1 J1 _ h) 1 gX11_shrink_X3_keep rfl (by decide +kernel) (by rw [hX]; exact ⟨Nat.le_of_ble_eq_true rfl, Nat.le_of_ble_eq_true rfl⟩) rfl (Nat.le_of_ble_eq_true rfl) rfl rfl rfl dX11_shrink_26 (kk_sV (fun I3 J3 h => ?_))
    refine wz_aload_n C rfl rfl dX11_shrink_29 ?_
    refine wm_callV C (o := 100) (As := []) (st := []) (a' := 0) (b' := 0) rfl rfl (k_X11_mergeGroups G hG I3 J3 _ h) 0 gX11_shrink_X11_mergeGroups rfl (by decide +kernel) (by rw [hX]; exact ⟨Nat.le_of_ble_eq_true rfl, Nat.le_of_ble_eq_true rfl⟩) rfl (Nat.le_of_ble_eq_true rfl) rfl rfl rfl dX11_shrink_30 (kk_sV (fun I4 J4 h => ?_))
    refine wz_aload_n C rfl rfl dX11_shrink_33 ?_
    refine wz_getR C (j := 300) f_X11_shrink_53 rfl dX11_shrink_34 ?_
    refine wm_callV C (o := 300) (As := []) (st := []) (a' := 0) (b' := 0) rfl rfl (k_X8_groupCount G hG 300 I4 J4 _ h) 0 gX11_shrink_X8_groupCount rfl (by decide +kernel) (by rw [hX]; exact ⟨Nat.le_of_ble_eq_true rfl, Nat.le_of_ble_eq_true rfl⟩) rfl (Nat.le_of_ble_eq_true rfl) rfl rfl rfl dX11_shrink_37 (kk_sI (fun v5 I5 J5 h => ?_))
    exact wz_iret C dX11_shrink_40 ⟨_, rfl, h⟩
  · replace h := h.2 c
    exact False.elim h
theorem in_X11_grow_X11 : ∀ w ∈ wsX110, w ∈ wsX11_grow := by decide +kernel
theorem in_X11_grow_X8 : ∀ w ∈ wsX80, w ∈ wsX11_grow := by decide +kernel
theorem f_X11_grow_53 : FLk wsX11_grow RX11 53 11 7 := flk 11 7 rfl tyX11_ok nmX11 in_X11_grow_X11 (by decide) (by decide +kernel)
theorem f_X11_grow_192 : FLk wsX11_grow RX11 192 8 0 := flk 8 0 rfl tyX8_ok nmX8 in_X11_grow_X8 (by decide) (by decide +kernel)
theorem f_X11_grow_66 : FLk wsX11_grow RX11 66 11 11 := flk 11 11 rfl tyX11_ok nmX11 in_X11_grow_X11 (by decide) (by decide +kernel)
def rm_X11_grow : Room := { frames := 4, cells := 0, slots := 0, locals := 124 }
set_option maxHeartbeats 4000000 in
set_option maxRecDepth 100000 in
theorem k_X11_grow (G : KG) (hG : Kok G) (I : Ii) (J : Jj) (Q : Int → Ii → Jj → Prop) (h : wp_X11_grow I J Q) : Ctr G yX11_grow wsX11_grow rm_X11_grow [.ref (kadr G 100)] (I, J) (QsI Q) := by
  unfold wp_X11_grow at h
  skip
  refine Ctr.ofZ (cc := cX11_grow) (nL := 1) (ret := (some .int)) [some (.ref (kadr G 100))] hG (by decide +kernel) rfl (Nat.le_of_ble_eq_true rfl) (Nat.le_of_ble_eq_true rfl) (by simp [lvA, lv_args, Value.category]) ?_
  intro X hX C
  refine wz_aload_n C rfl rfl dX11_grow_0 ?_
  refine wz_getR C (j := 300) f_X11_grow_53 rfl dX11_grow_1 ?_
  refine wz_getI C rfl f_X11_grow_192 rfl dX11_grow_4 ?_
  obtain ⟨g1, h⟩ := h
  refine wz_if_ne C (tgt := 21) g1 dX11_grow_7 (by decide) (fun c => ?_) (fun c => ?_)
  · replace h := h.1 c
    refine wz_aload_n C rfl rfl dX11_grow_21 ?_
    refine wz_getR C (j := 111) f_X11_grow_66 rfl dX11_grow_22 ?_
    refine wz_aload_n C rfl rfl dX11_grow_25 ?_
    refine wz_getR C (j := 300) f_X11_grow_53 rfl dX11_grow_26 ?_
    refine wm_callV C (o := 111) (As := [.ref (kadr G 300)]) (st := []) (a' := 0) (b' := 0) rfl rfl (k_X3_keep G hG 300 I J _ h) 1 gX11_grow_X3_keep rfl (by decide +kernel) (by rw [hX]; exact ⟨Nat.le_of_ble_eq_true rfl, Nat.le_of_ble_eq_true rfl⟩) rfl (Nat.le_of_ble_eq_true rfl) rfl rfl rfl dX11_grow_29 (kk_sV (fun I2 J2 h => ?_))
    refine wz_aload_n C rfl rfl dX11_grow_32 ?_
    refine wz_getR C (j := 300) f_X11_grow_53 rfl dX11_grow_33 ?_
    refine wz_dup C rfl dX11_grow_36 ?_
    refine wz_getI C rfl f_X11_grow_192 rfl dX11_grow_37 ?_
    refine wz_iconst C dX11_grow_40 ?_
    refine wz_isub C dX11_grow_41 ?_
    refine wd_putI C f_X11_grow_192 fp_X8_0 rfl dX11_grow_42 (fun I3 e => ?_)
    replace h := h I3 e
    refine wz_aload_n C rfl rfl dX11_grow_45 ?_
    refine wz_getR C (j := 300) f_X11_grow_53 rfl dX11_grow_46 ?_
    refine wm_callV C (o := 300) (As := []) (st := []) (a' := 0) (b' := 0) rfl rfl (k_X8_groupCount G hG 300 I3 J2 _ h) 0 gX11_grow_X8_groupCount rfl (by decide +kernel) (by rw [hX]; exact ⟨Nat.le_of_ble_eq_true rfl, Nat.le_of_ble_eq_true rfl⟩) rfl (Nat.le_of_ble_eq_true rfl) rfl rfl rfl dX11_grow_49 (kk_sI (fun v4 I4 J4 h => ?_))
    exact wz_iret C dX11_grow_52 ⟨_, rfl, h⟩
  · replace h := h.2 c
    exact False.elim h
theorem in_X11_move_X11 : ∀ w ∈ wsX110, w ∈ wsX11_move := by decide +kernel
theorem f_X11_move_66 : FLk wsX11_move RX11 66 11 11 := flk 11 11 rfl tyX11_ok nmX11 in_X11_move_X11 (by decide) (by decide +kernel)
theorem f_X11_move_53 : FLk wsX11_move RX11 53 11 7 := flk 11 7 rfl tyX11_ok nmX11 in_X11_move_X11 (by decide) (by decide +kernel)
def rm_X11_move : Room := { frames := 5, cells := 0, slots := 0, locals := 130 }
set_option maxHeartbeats 4000000 in
set_option maxRecDepth 100000 in
theorem k_X11_move (G : KG) (hG : Kok G) (l1 : Int) (l2 : Int) (I : Ii) (J : Jj) (Q : Int → Ii → Jj → Prop) (h : wp_X11_move l1 l2 I J Q) : Ctr G yX11_move wsX11_move rm_X11_move [.ref (kadr G 100), .int (iZ l1), .int (iZ l2)] (I, J) (QsI Q) := by
  unfold wp_X11_move at h
  skip
  refine Ctr.ofZ (cc := cX11_move) (nL := 3) (ret := (some .int)) [some (.ref (kadr G 100)), some (.int (iZ l1)), some (.int (iZ l2))] hG (by decide +kernel) rfl (Nat.le_of_ble_eq_true rfl) (Nat.le_of_ble_eq_true rfl) (by simp [lvA, lv_args, Value.category]) ?_
  intro X hX C
  refine wz_aload_n C rfl rfl dX11_move_0 ?_
  refine wz_iload_n C rfl rfl dX11_move_1 ?_
  refine wz_iload_n C rfl rfl dX11_move_2 ?_
  refine wm_callV C (o := 100) (As := [.int (iZ l1), .int (iZ l2)]) (st := []) (a' := 0) (b' := 0) rfl rfl (k_X11_whyNotMove G hG l1 l2 I J _ h) 2 gX11_move_X11_whyNotMove rfl (by decide +kernel) (by rw [hX]; exact ⟨Nat.le_of_ble_eq_true rfl, Nat.le_of_ble_eq_true rfl⟩) rfl (Nat.le_of_ble_eq_true rfl) rfl rfl rfl dX11_move_3 (kk_sI (fun v1 I1 J1 h => ?_))
  obtain ⟨g2, h⟩ := h
  refine wz_if_eq C (tgt := 20) g2 dX11_move_6 (by decide) (fun c => ?_) (fun c => ?_)
  · replace h := h.1 c
    refine wz_aload_n C rfl rfl dX11_move_20 ?_
    refine wz_getR C (j := 111) f_X11_move_66 rfl dX11_move_21 ?_
    refine wz_aload_n C rfl rfl dX11_move_24 ?_
    refine wz_getR C (j := 300) f_X11_move_53 rfl dX11_move_25 ?_
    refine wm_callV C (o := 111) (As := [.ref (kadr G 300)]) (st := []) (a' := 0) (b' := 0) rfl rfl (k_X3_keep G hG 300 I1 J1 _ h) 1 gX11_move_X3_keep rfl (by decide +kernel) (by rw [hX]; exact ⟨Nat.le_of_ble_eq_true rfl, Nat.le_of_ble_eq_true rfl⟩) rfl (Nat.le_of_ble_eq_true rfl) rfl rfl rfl dX11_move_28 (kk_sV (fun I3 J3 h => ?_))
    refine wz_aload_n C rfl rfl dX11_move_31 ?_
    refine wz_iload_n C rfl rfl dX11_move_32 ?_
    refine wz_iload_n C rfl rfl dX11_move_33 ?_
    refine wm_callV C (o := 100) (As := [.int (iZ l1), .int (iZ l2)]) (st := []) (a' := 0) (b' := 0) rfl rfl (k_X11_takeTo G hG l1 l2 I3 J3 _ h) 2 gX11_move_X11_takeTo rfl (by decide +kernel) (by rw [hX]; exact ⟨Nat.le_of_ble_eq_true rfl, Nat.le_of_ble_eq_true rfl⟩) rfl (Nat.le_of_ble_eq_true rfl) rfl rfl rfl dX11_move_34 (kk_sV (fun I4 J4 h => ?_))
    refine wz_aload_n C rfl rfl dX11_move_37 ?_
    refine wm_callV C (o := 100) (As := []) (st := []) (a' := 0) (b' := 0) rfl rfl (k_X11_cut G hG I4 J4 _ h) 0 gX11_move_X11_cut rfl (by decide +kernel) (by rw [hX]; exact ⟨Nat.le_of_ble_eq_true rfl, Nat.le_of_ble_eq_true rfl⟩) rfl (Nat.le_of_ble_eq_true rfl) rfl rfl rfl dX11_move_38 (kk_sI (fun v5 I5 J5 h => ?_))
    exact wz_iret C dX11_move_41 ⟨_, rfl, h⟩
  · replace h := h.2 c
    exact False.elim h
theorem in_X11_step_X11 : ∀ w ∈ wsX110, w ∈ wsX11_step := by decide +kernel
theorem f_X11_step_66 : FLk wsX11_step RX11 66 11 11 := flk 11 11 rfl tyX11_ok nmX11 in_X11_step_X11 (by decide) (by decide +kernel)
theorem f_X11_step_53 : FLk wsX11_step RX11 53 11 7 := flk 11 7 rfl tyX11_ok nmX11 in_X11_step_X11 (by decide) (by decide +kernel)
def rm_X11_step : Room := { frames := 5, cells := 0, slots := 0, locals := 132 }
set_option maxHeartbeats 4000000 in
set_option maxRecDepth 100000 in
theorem k_X11_step (G : KG) (hG : Kok G) (I : Ii) (J : Jj) (Q : Int → Ii → Jj → Prop) (h : wp_X11_step I J Q) : Ctr G yX11_step wsX11_step rm_X11_step [.ref (kadr G 100)] (I, J) (QsI Q) := by
  unfold wp_X11_step at h
  skip
  refine Ctr.ofZ (cc := cX11_step) (nL := 1) (ret := (some .int)) [some (.ref (kadr G 100))] hG (by decide +kernel) rfl (Nat.le_of_ble_eq_true rfl) (Nat.le_of_ble_eq_true rfl) (by simp [lvA, lv_args, Value.category]) ?_
  intro X hX C
  refine wz_aload_n C rfl rfl dX11_step_0 ?_
  refine wm_callV C (o := 100) (As := []) (st := []) (a' := 0) (b' := 0) rfl rfl (k_X11_nextStep G hG I J _ h) 0 gX11_step_X11_nextStep rfl (by decide +kernel) (by rw [hX]; exact ⟨Nat.le_of_ble_eq_true rfl, Nat.le_of_ble_eq_true rfl⟩) rfl (Nat.le_of_ble_eq_true rfl) rfl rfl rfl dX11_step_1 (kk_sI (fun v1 I1 J1 h => ?_))
  refine wz_iconst C dX11_step_4 ?_
  obtain ⟨g2, h⟩ := h
  refine wz_icmp_ne C (tgt := 10) g2 (by decide) dX11_step_5 (by decide) (fun c => ?_) (fun c => ?_)
  · replace h := h.1 c
    refine wz_aload_n C rfl rfl dX11_step_10 ?_
    refine wz_getR C (j := 111) f_X11_step_66 rfl dX11_step_11 ?_
    refine wz_aload_n C rfl rfl dX11_step_14 ?_
    refine wz_getR C (j := 300) f_X11_step_53 rfl dX11_step_15 ?_
    refine wm_callV C (o := 111) (As := [.ref (kadr G 300)]) (st := []) (a' := 0) (b' := 0) rfl rfl (k_X3_keep G hG 300 I1 J1 _ h) 1 gX11_step_X3_keep rfl (by decide +kernel) (by rw [hX]; exact ⟨Nat.le_of_ble_eq_true rfl, Nat.le_of_ble_eq_true rfl⟩) rfl (Nat.le_of_ble_eq_true rfl) rfl rfl rfl dX11_step_18 (kk_sV (fun I3 J3 h => ?_))
    refine wz_aload_n C rfl rfl dX11_step_21 ?_
    refine wz_aload_n C rfl rfl dX11_step_22 ?_
    refine wz_getR C (j := 300) f_X11_step_53 rfl dX11_step_23 ?_
    refine wz_iconst C dX11_step_26 ?_
    refine wm_callV C (o := 100) (As := [.ref (kadr G 300), .int (iZ 1)]) (st := []) (a' := 0) (b' := 0) rfl rfl (k_X11_makeSteps G hG 300 1 I3 J3 _ h) 2 gX11_step_X11_makeSteps rfl (by decide +kernel) (by rw [hX]; exact ⟨Nat.le_of_ble_eq_true rfl, Nat.le_of_ble_eq_true rfl⟩) rfl (Nat.le_of_ble_eq_true rfl) rfl rfl rfl dX11_step_27 (kk_sI (fun v4 I4 J4 h => ?_))
    refine wz_pop C rfl dX11_step_30 ?_
    refine wz_aload_n C rfl rfl dX11_step_31 ?_
    refine wm_callV C (o := 100) (As := []) (st := []) (a' := 0) (b' := 0) rfl rfl (k_X11_cut G hG I4 J4 _ h) 0 gX11_step_X11_cut rfl (by decide +kernel) (by rw [hX]; exact ⟨Nat.le_of_ble_eq_true rfl, Nat.le_of_ble_eq_true rfl⟩) rfl (Nat.le_of_ble_eq_true rfl) rfl rfl rfl dX11_step_32 (kk_sI (fun v5 I5 J5 h => ?_))
    exact wz_iret C dX11_step_35 ⟨_, rfl, h⟩
  · replace h := h.2 c
    refine wz_iconst C dX11_step_8 ?_
    exact wz_iret C dX11_step_9 ⟨_, rfl, h⟩
