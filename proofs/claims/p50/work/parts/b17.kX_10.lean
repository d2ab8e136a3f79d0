theorem in_X11_searchBest_X11 : ∀ w ∈ wsX110, w ∈ wsX11_searchBest := by decide +kernel
theorem f_X11_searchBest_73 : FLk wsX11_searchBest RX11 73 14 12 := flk 14 12 rfl tyX11_ok nmX11 in_X11_searchBest_X11 (by decide) (by decide +kernel)
theorem f_X11_searchBest_40 : FLk wsX11_searchBest RX11 40 14 4 := flk 14 4 rfl tyX11_ok nmX11 in_X11_searchBest_X11 (by decide) (by decide +kernel)
theorem f_X11_searchBest_53 : FLk wsX11_searchBest RX11 53 14 7 := flk 14 7 rfl tyX11_ok nmX11 in_X11_searchBest_X11 (by decide) (by decide +kernel)
theorem f_X11_searchBest_80 : FLk wsX11_searchBest RX11 80 14 13 := flk 14 13 rfl tyX11_ok nmX11 in_X11_searchBest_X11 (by decide) (by decide +kernel)
theorem f_X11_searchBest_87 : FLk wsX11_searchBest RX11 87 14 14 := flk 14 14 rfl tyX11_ok nmX11 in_X11_searchBest_X11 (by decide) (by decide +kernel)
def rm_X11_searchBest : Room := { frames := 4, cells := 0, slots := 0, locals := 107 }
set_option maxHeartbeats 4000000 in
set_option maxRecDepth 100000 in
theorem k_X11_searchBest (G : KG) (hG : KokC G) (I : Ii) (J : Jj) (Q : Ii → Jj → Prop) (h : wp_X11_searchBest I J Q) : Ctr G yX11_searchBest wsX11_searchBest rm_X11_searchBest [.ref (kadr G 100)] (I, J) (QsV Q) := by
  unfold wp_X11_searchBest at h
  skip
  refine Ctr.ofZ (cc := cX11_searchBest) (nL := 1) (ret := none) [some (.ref (kadr G 100))] hG.1 (by decide +kernel) rfl (Nat.le_of_ble_eq_true rfl) (Nat.le_of_ble_eq_true rfl) (by simp [lvA, lv_args, Value.category]) ?_
  intro X hX C
  have hz := hG.2
  refine wz_aload_n C rfl rfl dX11_searchBest_0 ?_
  refine wz_getR C (j := 113) f_X11_searchBest_73 (sOc hz rfl) (by decide) dX11_searchBest_1 ?_
  refine wz_aload_n C rfl rfl dX11_searchBest_4 ?_
  refine wz_getR C (j := 200) f_X11_searchBest_40 (sOc hz rfl) (by decide) dX11_searchBest_5 ?_
  refine wz_aload_n C rfl rfl dX11_searchBest_8 ?_
  refine wz_getR C (j := 300) f_X11_searchBest_53 (sOc hz rfl) (by decide) dX11_searchBest_9 ?_
  refine wm_callV C (o := 113) (As := [.ref (kadr G 200), .ref (kadr G 300)]) (st := []) (a' := 0) (b' := 0) (shK_c hz rfl) rfl (k_X4_take G hG 200 300 I J _ h) 2 gX11_searchBest_X4_take rfl (by decide +kernel) (by rw [hX]; exact ⟨Nat.le_of_ble_eq_true rfl, Nat.le_of_ble_eq_true rfl⟩) rfl (Nat.le_of_ble_eq_true rfl) rfl rfl rfl dX11_searchBest_12 (kk_sV (fun I1 J1 h => ?_))
  refine wz_aload_n C rfl rfl dX11_searchBest_15 ?_
  refine wz_getR C (j := 120) f_X11_searchBest_80 (sOc hz rfl) (by decide) dX11_searchBest_16 ?_
  refine wz_aload_n C rfl rfl dX11_searchBest_19 ?_
  refine wz_getR C (j := 200) f_X11_searchBest_40 (sOc hz rfl) (by decide) dX11_searchBest_20 ?_
  refine wz_aload_n C rfl rfl dX11_searchBest_23 ?_
  refine wz_getR C (j := 300) f_X11_searchBest_53 (sOc hz rfl) (by decide) dX11_searchBest_24 ?_
  refine wm_callV C (o := 120) (As := [.ref (kadr G 200), .ref (kadr G 300)]) (st := []) (a' := 0) (b' := 0) (shK_c hz rfl) rfl (k_X5_join G hG 200 300 I1 J1 _ h) 2 gX11_searchBest_X5_join rfl (by decide +kernel) (by rw [hX]; exact ⟨Nat.le_of_ble_eq_true rfl, Nat.le_of_ble_eq_true rfl⟩) rfl (Nat.le_of_ble_eq_true rfl) rfl rfl rfl dX11_searchBest_27 (kk_sV (fun I2 J2 h => ?_))
  refine wz_aload_n C rfl rfl dX11_searchBest_30 ?_
  refine wz_getR C (j := 124) f_X11_searchBest_87 (sOc hz rfl) (by decide) dX11_searchBest_31 ?_
  refine wz_aload_n C rfl rfl dX11_searchBest_34 ?_
  refine wz_getR C (j := 113) f_X11_searchBest_73 (sOc hz rfl) (by decide) dX11_searchBest_35 ?_
  refine wz_aload_n C rfl rfl dX11_searchBest_38 ?_
  refine wz_getR C (j := 120) f_X11_searchBest_80 (sOc hz rfl) (by decide) dX11_searchBest_39 ?_
  refine wm_callV C (o := 124) (As := [.ref (kadr G 113), .ref (kadr G 120)]) (st := []) (a' := 0) (b' := 0) (shK_c hz rfl) rfl (k_X0_search G hG I2 J2 _ h) 2 gX11_searchBest_X0_search rfl (by decide +kernel) (by rw [hX]; exact ⟨Nat.le_of_ble_eq_true rfl, Nat.le_of_ble_eq_true rfl⟩) rfl (Nat.le_of_ble_eq_true rfl) rfl rfl rfl dX11_searchBest_42 (kk_sV (fun I3 J3 h => ?_))
  exact wz_vret C dX11_searchBest_45 ⟨rfl, h⟩
theorem in_X11_trySteps_X11 : ∀ w ∈ wsX110, w ∈ wsX11_trySteps := by decide +kernel
theorem f_X11_trySteps_57 : FLk wsX11_trySteps RX11 57 14 8 := flk 14 8 rfl tyX11_ok nmX11 in_X11_trySteps_X11 (by decide) (by decide +kernel)
theorem f_X11_trySteps_53 : FLk wsX11_trySteps RX11 53 14 7 := flk 14 7 rfl tyX11_ok nmX11 in_X11_trySteps_X11 (by decide) (by decide +kernel)
def rm_X11_trySteps : Room := { frames := 5, cells := 0, slots := 0, locals := 132 }
set_option maxHeartbeats 4000000 in
set_option maxRecDepth 100000 in
theorem k_X11_trySteps (G : KG) (hG : KokC G) (l1 : Int) (I : Ii) (J : Jj) (Q : Int → Ii → Jj → Prop) (h : wp_X11_trySteps l1 I J Q) : Ctr G yX11_trySteps wsX11_trySteps rm_X11_trySteps [.ref (kadr G 100), .int (iZ l1)] (I, J) (QsI Q) := by
  unfold wp_X11_trySteps at h
  skip
  refine Ctr.ofZ (cc := cX11_trySteps) (nL := 2) (ret := (some .int)) [some (.ref (kadr G 100)), some (.int (iZ l1))] hG.1 (by decide +kernel) rfl (Nat.le_of_ble_eq_true rfl) (Nat.le_of_ble_eq_true rfl) (by simp [lvA, lv_args, Value.category]) ?_
  intro X hX C
  have hz := hG.2
  refine wz_aload_n C rfl rfl dX11_trySteps_0 ?_
  refine wz_getR C (j := 310) f_X11_trySteps_57 (sOc hz rfl) (by decide) dX11_trySteps_1 ?_
  refine wz_aload_n C rfl rfl dX11_trySteps_4 ?_
  refine wz_getR C (j := 300) f_X11_trySteps_53 (sOc hz rfl) (by decide) dX11_trySteps_5 ?_
  refine wm_callV C (o := 310) (As := [.ref (kadr G 300)]) (st := []) (a' := 0) (b' := 0) (shK_c hz rfl) rfl (k_X8_copyFrom G hG 310 300 I J _ h) 1 gX11_trySteps_X8_copyFrom rfl (by decide +kernel) (by rw [hX]; exact ⟨Nat.le_of_ble_eq_true rfl, Nat.le_of_ble_eq_true rfl⟩) rfl (Nat.le_of_ble_eq_true rfl) rfl rfl rfl dX11_trySteps_8 (kk_sV (fun I1 J1 h => ?_))
  refine wz_aload_n C rfl rfl dX11_trySteps_11 ?_
  refine wz_aload_n C rfl rfl dX11_trySteps_12 ?_
  refine wz_getR C (j := 310) f_X11_trySteps_57 (sOc hz rfl) (by decide) dX11_trySteps_13 ?_
  refine wz_iload_n C rfl rfl dX11_trySteps_16 ?_
  refine wm_callV C (o := 100) (As := [.ref (kadr G 310), .int (iZ l1)]) (st := []) (a' := 0) (b' := 0) (shK_c hz rfl) rfl (k_X11_makeSteps G hG 310 l1 I1 J1 _ h) 2 gX11_trySteps_X11_makeSteps rfl (by decide +kernel) (by rw [hX]; exact ⟨Nat.le_of_ble_eq_true rfl, Nat.le_of_ble_eq_true rfl⟩) rfl (Nat.le_of_ble_eq_true rfl) rfl rfl rfl dX11_trySteps_17 (kk_sI (fun v2 I2 J2 h => ?_))
  exact wz_iret C dX11_trySteps_20 ⟨_, rfl, h⟩
theorem in_X11_shrink_X11 : ∀ w ∈ wsX110, w ∈ wsX11_shrink := by decide +kernel
theorem f_X11_shrink_66 : FLk wsX11_shrink RX11 66 14 11 := flk 14 11 rfl tyX11_ok nmX11 in_X11_shrink_X11 (by decide) (by decide +kernel)
theorem f_X11_shrink_53 : FLk wsX11_shrink RX11 53 14 7 := flk 14 7 rfl tyX11_ok nmX11 in_X11_shrink_X11 (by decide) (by decide +kernel)
def rm_X11_shrink : Room := { frames := 5, cells := 0, slots := 0, locals := 124 }
set_option maxHeartbeats 4000000 in
set_option maxRecDepth 100000 in
theorem k_X11_shrink (G : KG) (hG : KokC G) (I : Ii) (J : Jj) (Q : Int → Ii → Jj → Prop) (h : wp_X11_shrink I J Q) : Ctr G yX11_shrink wsX11_shrink rm_X11_shrink [.ref (kadr G 100)] (I, J) (QsI Q) := by
  unfold wp_X11_shrink at h
  skip
  refine Ctr.ofZ (cc := cX11_shrink) (nL := 1) (ret := (some .int)) [some (.ref (kadr G 100))] hG.1 (by decide +kernel) rfl (Nat.le_of_ble_eq_true rfl) (Nat.le_of_ble_eq_true rfl) (by simp [lvA, lv_args, Value.category]) ?_
  intro X hX C
  have hz := hG.2
  refine wz_aload_n C rfl rfl dX11_shrink_0 ?_
  refine wm_callV C (o := 100) (As := []) (st := []) (a' := 0) (b' := 0) (shK_c hz rfl) rfl (k_X11_whyNotShrink G hG I J _ h) 0 gX11_shrink_X11_whyNotShrink rfl (by decide +kernel) (by rw [hX]; exact ⟨Nat.le_of_ble_eq_true rfl, Nat.le_of_ble_eq_true rfl⟩) rfl (Nat.le_of_ble_eq_true rfl) rfl rfl rfl dX11_shrink_1 (kk_sI (fun v1 I1 J1 h => ?_))
  obtain ⟨g2, h⟩ := h
  refine wz_if_eq C (tgt := 18) g2 dX11_shrink_4 (by decide) (fun c => ?_) (fun c => ?_)
  · replace h := h.1 c
    refine wz_aload_n C rfl rfl dX11_shrink_18 ?_
    refine wz_getR C (j := 111) f_X11_shrink_66 (sOc hz rfl) (by decide) dX11_shrink_19 ?_
    refine wz_aload_n C rfl rfl dX11_shrink_22 ?_
    refine wz_getR C (j := 300) f_X11_shrink_53 (sOc hz rfl) (by decide) dX11_shrink_23 ?_
    refine wm_callV C (o := 111) (As := [.ref (kadr G 300)]) (st := []) (a' := 0) (b' := 0) (shK_c hz rfl) rfl (k_X3_keep G hG 300 I1 J1 _ h) 1 gX11_shrink_X3_keep rfl (by decide +kernel) (by rw [hX]; exact ⟨Nat.le_of_ble_eq_true rfl, Nat.le_of_ble_eq_true rfl⟩) rfl (Nat.le_of_ble_eq_true rfl) rfl rfl rfl dX11_shrink_26 (kk_sV (fun I3 J3 h => ?_))
    refine wz_aload_n C rfl rfl dX11_shrink_29 ?_
    refine wm_callV C (o := 100) (As := []) (st := []) (a' := 0) (b' := 0) (shK_c hz rfl) rfl (k_X11_mergeGroups G hG I3 J3 _ h) 0 gX11_shrink_X11_mergeGroups rfl (by decide +kernel) (by rw [hX]; exact ⟨Nat.le_of_ble_eq_true rfl, Nat.le_of_ble_eq_true rfl⟩) rfl (Nat.le_of_ble_eq_true rfl) rfl rfl rfl dX11_shrink_30 (kk_sV (fun I4 J4 h => ?_))
    refine wz_aload_n C rfl rfl dX11_shrink_33 ?_
    refine wz_getR C (j := 300) f_X11_shrink_53 (sOc hz rfl) (by decide) dX11_shrink_34 ?_
    refine wm_callV C (o := 300) (As := []) (st := []) (a' := 0) (b' := 0) (shK_c hz rfl) rfl (k_X8_groupCount G hG 300 I4 J4 _ h) 0 gX11_shrink_X8_groupCount rfl (by decide +kernel) (by rw [hX]; exact ⟨Nat.le_of_ble_eq_true rfl, Nat.le_of_ble_eq_true rfl⟩) rfl (Nat.le_of_ble_eq_true rfl) rfl rfl rfl dX11_shrink_37 (kk_sI (fun v5 I5 J5 h => ?_))
    exact wz_iret C dX11_shrink_40 ⟨_, rfl, h⟩
  · replace h := h.2 c
    exact False.elim h
theorem in_X11_grow_X11 : ∀ w ∈ wsX110, w ∈ wsX11_grow := by decide +kernel
theorem in_X11_grow_X8 : ∀ w ∈ wsX80, w ∈ wsX11_grow := by decide +kernel
theorem f_X11_grow_53 : FLk wsX11_grow RX11 53 14 7 := flk 14 7 rfl tyX11_ok nmX11 in_X11_grow_X11 (by decide) (by decide +kernel)
theorem f_X11_grow_192 : FLk wsX11_grow RX11 192 11 0 := flk 11 0 rfl tyX8_ok nmX8 in_X11_grow_X8 (by decide) (by decide +kernel)
theorem f_X11_grow_66 : FLk wsX11_grow RX11 66 14 11 := flk 14 11 rfl tyX11_ok nmX11 in_X11_grow_X11 (by decide) (by decide +kernel)
def rm_X11_grow : Room := { frames := 4, cells := 0, slots := 0, locals := 124 }
set_option maxHeartbeats 4000000 in
set_option maxRecDepth 100000 in
theorem k_X11_grow (G : KG) (hG : KokC G) (I : Ii) (J : Jj) (Q : Int → Ii → Jj → Prop) (h : wp_X11_grow I J Q) : Ctr G yX11_grow wsX11_grow rm_X11_grow [.ref (kadr G 100)] (I, J) (QsI Q) := by
  unfold wp_X11_grow at h
  skip
  refine Ctr.ofZ (cc := cX11_grow) (nL := 1) (ret := (some .int)) [some (.ref (kadr G 100))] hG.1 (by decide +kernel) rfl (Nat.le_of_ble_eq_true rfl) (Nat.le_of_ble_eq_true rfl) (by simp [lvA, lv_args, Value.category]) ?_
  intro X hX C
  have hz := hG.2
  refine wz_aload_n C rfl rfl dX11_grow_0 ?_
  refine wz_getR C (j := 300) f_X11_grow_53 (sOc hz rfl) (by decide) dX11_grow_1 ?_
  refine wz_getI C rfl f_X11_grow_192 (sOc hz rfl) dX11_grow_4 ?_
  obtain ⟨g1, h⟩ := h
  refine wz_if_ne C (tgt := 21) g1 dX11_grow_7 (by decide) (fun c => ?_) (fun c => ?_)
  · replace h := h.1 c
    refine wz_aload_n C rfl rfl dX11_grow_21 ?_
    refine wz_getR C (j := 111) f_X11_grow_66 (sOc hz rfl) (by decide) dX11_grow_22 ?_
    refine wz_aload_n C rfl rfl dX11_grow_25 ?_
    refine wz_getR C (j := 300) f_X11_grow_53 (sOc hz rfl) (by decide) dX11_grow_26 ?_
    refine wm_callV C (o := 111) (As := [.ref (kadr G 300)]) (st := []) (a' := 0) (b' := 0) (shK_c hz rfl) rfl (k_X3_keep G hG 300 I J _ h) 1 gX11_grow_X3_keep rfl (by decide +kernel) (by rw [hX]; exact ⟨Nat.le_of_ble_eq_true rfl, Nat.le_of_ble_eq_true rfl⟩) rfl (Nat.le_of_ble_eq_true rfl) rfl rfl rfl dX11_grow_29 (kk_sV (fun I2 J2 h => ?_))
    refine wz_aload_n C rfl rfl dX11_grow_32 ?_
    refine wz_getR C (j := 300) f_X11_grow_53 (sOc hz rfl) (by decide) dX11_grow_33 ?_
    refine wz_dup C rfl dX11_grow_36 ?_
    refine wz_getI C rfl f_X11_grow_192 (sOc hz rfl) dX11_grow_37 ?_
    refine wz_iconst C dX11_grow_40 ?_
    refine wz_isub C dX11_grow_41 ?_
    refine wd_putI C f_X11_grow_192 fp_X8_0 (sOc hz rfl) dX11_grow_42 (fun I3 e => ?_)
    replace h := h I3 e
    refine wz_aload_n C rfl rfl dX11_grow_45 ?_
    refine wz_getR C (j := 300) f_X11_grow_53 (sOc hz rfl) (by decide) dX11_grow_46 ?_
    refine wm_callV C (o := 300) (As := []) (st := []) (a' := 0) (b' := 0) (shK_c hz rfl) rfl (k_X8_groupCount G hG 300 I3 J2 _ h) 0 gX11_grow_X8_groupCount rfl (by decide +kernel) (by rw [hX]; exact ⟨Nat.le_of_ble_eq_true rfl, Nat.le_of_ble_eq_true rfl⟩) rfl (Nat.le_of_ble_eq_true rfl) rfl rfl rfl dX11_grow_49 (kk_sI (fun v4 I4 J4 h => ?_))
    exact wz_iret C dX11_grow_52 ⟨_, rfl, h⟩
  · replace h := h.2 c
    exact False.elim h
theorem in_X11_move_X11 : ∀ w ∈ wsX110, w ∈ wsX11_move := by decide +kernel
theorem f_X11_move_66 : FLk wsX11_move RX11 66 14 11 := flk 14 11 rfl tyX11_ok nmX11 in_X11_move_X11 (by decide) (by decide +kernel)
theorem f_X11_move_53 : FLk wsX11_move RX11 53 14 7 := flk 14 7 rfl tyX11_ok nmX11 in_X11_move_X11 (by decide) (by decide +kernel)
def rm_X11_move : Room := { frames := 5, cells := 0, slots := 0, locals := 130 }
set_option maxHeartbeats 4000000 in
set_option maxRecDepth 100000 in
theorem k_X11_move (G : KG) (hG : KokC G) (l1 : Int) (l2 : Int) (I : Ii) (J : Jj) (Q : Int → Ii → Jj → Prop) (h : wp_X11_move l1 l2 I J Q) : Ctr G yX11_move wsX11_move rm_X11_move [.ref (kadr G 100), .int (iZ l1), .int (iZ l2)] (I, J) (QsI Q) := by
  unfold wp_X11_move at h
  skip
  refine Ctr.ofZ (cc := cX11_move) (nL := 3) (ret := (some .int)) [some (.ref (kadr G 100)), some (.int (iZ l1)), some (.int (iZ l2))] hG.1 (by decide +kernel) rfl (Nat.le_of_ble_eq_true rfl) (Nat.le_of_ble_eq_true rfl) (by simp [lvA, lv_args, Value.category]) ?_
  intro X hX C
  have hz := hG.2
  refine wz_aload_n C rfl rfl dX11_move_0 ?_
  refine wz_iload_n C rfl rfl dX11_move_1 ?_
  refine wz_iload_n C rfl rfl dX11_move_2 ?_
  refine wm_callV C (o := 100) (As := [.int (iZ l1), .int (iZ l2)]) (st := []) (a' := 0) (b' := 0) (shK_c hz rfl) rfl (k_X11_whyNotMove G hG l1 l2 I J _ h) 2 gX11_move_X11_whyNotMove rfl (by decide +kernel) (by rw [hX]; exact ⟨Nat.le_of_ble_eq_true rfl, Nat.le_of_ble_eq_true rfl⟩) rfl (Nat.le_of_ble_eq_true rfl) rfl rfl rfl dX11_move_3 (kk_sI (fun v1 I1 J1 h => ?_))
  obtain ⟨g2, h⟩ := h
  refine wz_if_eq C (tgt := 20) g2 dX11_move_6 (by decide) (fun c => ?_) (fun c => ?_)
  · replace h := h.1 c
    refine wz_aload_n C rfl rfl dX11_move_20 ?_
    refine wz_getR C (j := 111) f_X11_move_66 (sOc hz rfl) (by decide) dX11_move_21 ?_
    refine wz_aload_n C rfl rfl dX11_move_24 ?_
    refine wz_getR C (j := 300) f_X11_move_53 (sOc hz rfl) (by decide) dX11_move_25 ?_
    refine wm_callV C (o := 111) (As := [.ref (kadr G 300)]) (st := []) (a' := 0) (b' := 0) (shK_c hz rfl) rfl (k_X3_keep G hG 300 I1 J1 _ h) 1 gX11_move_X3_keep rfl (by decide +kernel) (by rw [hX]; exact ⟨Nat.le_of_ble_eq_true rfl, Nat.le_of_ble_eq_true rfl⟩) rfl (Nat.le_of_ble_eq_true rfl) rfl rfl rfl dX11_move_28 (kk_sV (fun I3 J3 h => ?_))
    refine wz_aload_n C rfl rfl dX11_move_31 ?_
    refine wz_iload_n C rfl rfl dX11_move_32 ?_
    refine wz_iload_n C rfl rfl dX11_move_33 ?_
    refine wm_callV C (o := 100) (As := [.int (iZ l1), .int (iZ l2)]) (st := []) (a' := 0) (b' := 0) (shK_c hz rfl) rfl (k_X11_takeTo G hG l1 l2 I3 J3 _ h) 2 gX11_move_X11_takeTo rfl (by decide +kernel) (by rw [hX]; exact ⟨Nat.le_of_ble_eq_true rfl, Nat.le_of_ble_eq_true rfl⟩) rfl (Nat.le_of_ble_eq_true rfl) rfl rfl rfl dX11_move_34 (kk_sV (fun I4 J4 h => ?_))
    refine wz_aload_n C rfl rfl dX11_move_37 ?_
    refine wm_callV C (o := 100) (As := []) (st := []) (a' := 0) (b' := 0) (shK_c hz rfl) rfl (k_X11_cut G hG I4 J4 _ h) 0 gX11_move_X11_cut rfl (by decide +kernel) (by rw [hX]; exact ⟨Nat.le_of_ble_eq_true rfl, Nat.le_of_ble_eq_true rfl⟩) rfl (Nat.le_of_ble_eq_true rfl) rfl rfl rfl dX11_move_38 (kk_sI (fun v5 I5 J5 h => ?_))
    exact wz_iret C dX11_move_41 ⟨_, rfl, h⟩
  · replace h := h.2 c
    exact False.elim h
theorem in_X11_step_X11 : ∀ w ∈ wsX110, w ∈ wsX11_step := by decide +kernel
theorem f_X11_step_66 : FLk wsX11_step RX11 66 14 11 := flk 14 11 rfl tyX11_ok nmX11 in_X11_step_X11 (by decide) (by decide +kernel)
theorem f_X11_step_53 : FLk wsX11_step RX11 53 14 7 := flk 14 7 rfl tyX11_ok nmX11 in_X11_step_X11 (by decide) (by decide +kernel)
def rm_X11_step : Room := { frames := 5, cells := 0, slots := 0, locals := 132 }
set_option maxHeartbeats 4000000 in
set_option maxRecDepth 100000 in
theorem k_X11_step (G : KG) (hG : KokC G) (I : Ii) (J : Jj) (Q : Int → Ii → Jj → Prop) (h : wp_X11_step I J Q) : Ctr G yX11_step wsX11_step rm_X11_step [.ref (kadr G 100)] (I, J) (QsI Q) := by
  unfold wp_X11_step at h
  skip
  refine Ctr.ofZ (cc := cX11_step) (nL := 1) (ret := (some .int)) [some (.ref (kadr G 100))] hG.1 (by decide +kernel) rfl (Nat.le_of_ble_eq_true rfl) (Nat.le_of_ble_eq_true rfl) (by simp [lvA, lv_args, Value.category]) ?_
  intro X hX C
  have hz := hG.2
  refine wz_aload_n C rfl rfl dX11_step_0 ?_
  refine wm_callV C (o := 100) (As := []) (st := []) (a' := 0) (b' := 0) (shK_c hz rfl) rfl (k_X11_nextStep G hG I J _ h) 0 gX11_step_X11_nextStep rfl (by decide +kernel) (by rw [hX]; exact ⟨Nat.le_of_ble_eq_true rfl, Nat.le_of_ble_eq_true rfl⟩) rfl (Nat.le_of_ble_eq_true rfl) rfl rfl rfl dX11_step_1 (kk_sI (fun v1 I1 J1 h => ?_))
  refine wz_iconst C dX11_step_4 ?_
  obtain ⟨g2, h⟩ := h
  refine wz_icmp_ne C (tgt := 10) g2 (by decide) dX11_step_5 (by decide) (fun c => ?_) (fun c => ?_)
  · replace h := h.1 c
    refine wz_aload_n C rfl rfl dX11_step_10 ?_
    refine wz_getR C (j := 111) f_X11_step_66 (sOc hz rfl) (by decide) dX11_step_11 ?_
    refine wz_aload_n C rfl rfl dX11_step_14 ?_
    refine wz_getR C (j := 300) f_X11_step_53 (sOc hz rfl) (by decide) dX11_step_15 ?_
    refine wm_callV C (o := 111) (As := [.ref (kadr G 300)]) (st := []) (a' := 0) (b' := 0) (shK_c hz rfl) rfl (k_X3_keep G hG 300 I1 J1 _ h) 1 gX11_step_X3_keep rfl (by decide +kernel) (by rw [hX]; exact ⟨Nat.le_of_ble_eq_true rfl, Nat.le_of_ble_eq_true rfl⟩) rfl (Nat.le_of_ble_eq_true rfl) rfl rfl rfl dX11_step_18 (kk_sV (fun I3 J3 h => ?_))
    refine wz_aload_n C rfl rfl dX11_step_21 ?_
    refine wz_aload_n C rfl rfl dX11_step_22 ?_
    refine wz_getR C (j := 300) f_X11_step_53 (sOc hz rfl) (by decide) dX11_step_23 ?_
    refine wz_iconst C dX11_step_26 ?_
    refine wm_callV C (o := 100) (As := [.ref (kadr G 300), .int (iZ 1)]) (st := []) (a' := 0) (b' := 0) (shK_c hz rfl) rfl (k_X11_makeSteps G hG 300 1 I3 J3 _ h) 2 gX11_step_X11_makeSteps rfl (by decide +kernel) (by rw [hX]; exact ⟨Nat.le_of_ble_eq_true rfl, Nat.le_of_ble_eq_true rfl⟩) rfl (Nat.le_of_ble_eq_true rfl) rfl rfl rfl dX11_step_27 (kk_sI (fun v4 I4 J4 h => ?_))
    refine wz_pop C rfl dX11_step_30 ?_
    refine wz_aload_n C rfl rfl dX11_step_31 ?_
    refine wm_callV C (o := 100) (As := []) (st := []) (a' := 0) (b' := 0) (shK_c hz rfl) rfl (k_X11_cut G hG I4 J4 _ h) 0 gX11_step_X11_cut rfl (by decide +kernel) (by rw [hX]; exact ⟨Nat.le_of_ble_eq_true rfl, Nat.le_of_ble_eq_true rfl⟩) rfl (Nat.le_of_ble_eq_true rfl) rfl rfl rfl dX11_step_32 (kk_sI (fun v5 I5 J5 h => ?_))
    exact wz_iret C dX11_step_35 ⟨_, rfl, h⟩
  · replace h := h.2 c
    refine wz_iconst C dX11_step_8 ?_
    exact wz_iret C dX11_step_9 ⟨_, rfl, h⟩
theorem in_X11_steps_X11 : ∀ w ∈ wsX110, w ∈ wsX11_steps := by decide +kernel
theorem f_X11_steps_66 : FLk wsX11_steps RX11 66 14 11 := flk 14 11 rfl tyX11_ok nmX11 in_X11_steps_X11 (by decide) (by decide +kernel)
theorem f_X11_steps_53 : FLk wsX11_steps RX11 53 14 7 := flk 14 7 rfl tyX11_ok nmX11 in_X11_steps_X11 (by decide) (by decide +kernel)
def rm_X11_steps : Room := { frames := 5, cells := 0, slots := 0, locals := 132 }
set_option maxHeartbeats 4000000 in
set_option maxRecDepth 100000 in
theorem k_X11_steps (G : KG) (hG : KokC G) (l1 : Int) (I : Ii) (J : Jj) (Q : Int → Ii → Jj → Prop) (h : wp_X11_steps l1 I J Q) : Ctr G yX11_steps wsX11_steps rm_X11_steps [.ref (kadr G 100), .int (iZ l1)] (I, J) (QsI Q) := by
  unfold wp_X11_steps at h
  skip
  refine Ctr.ofZ (cc := cX11_steps) (nL := 2) (ret := (some .int)) [some (.ref (kadr G 100)), some (.int (iZ l1))] hG.1 (by decide +kernel) rfl (Nat.le_of_ble_eq_true rfl) (Nat.le_of_ble_eq_true rfl) (by simp [lvA, lv_args, Value.category]) ?_
  intro X hX C
  have hz := hG.2
  refine wz_aload_n C rfl rfl dX11_steps_0 ?_
  refine wz_iload_n C rfl rfl dX11_steps_1 ?_
  refine wm_callV C (o := 100) (As := [.int (iZ l1)]) (st := []) (a' := 0) (b' := 0) (shK_c hz rfl) rfl (k_X11_isStepCount G hG l1 I J _ h) 1 gX11_steps_X11_isStepCount rfl (by decide +kernel) (by rw [hX]; exact ⟨Nat.le_of_ble_eq_true rfl, Nat.le_of_ble_eq_true rfl⟩) rfl (Nat.le_of_ble_eq_true rfl) rfl rfl rfl dX11_steps_2 (kk_sB (fun v1 I1 J1 hb1 h => ?_))
  refine wz_if_ne C (tgt := 19) (rgB hb1) dX11_steps_5 (by decide) (fun c => ?_) (fun c => ?_)
  · replace h := h.1 c
    refine wz_aload_n C rfl rfl dX11_steps_19 ?_
    refine wz_getR C (j := 111) f_X11_steps_66 (sOc hz rfl) (by decide) dX11_steps_20 ?_
    refine wz_aload_n C rfl rfl dX11_steps_23 ?_
    refine wz_getR C (j := 300) f_X11_steps_53 (sOc hz rfl) (by decide) dX11_steps_24 ?_
    refine wm_callV C (o := 111) (As := [.ref (kadr G 300)]) (st := []) (a' := 0) (b' := 0) (shK_c hz rfl) rfl (k_X3_keep G hG 300 I1 J1 _ h) 1 gX11_steps_X3_keep rfl (by decide +kernel) (by rw [hX]; exact ⟨Nat.le_of_ble_eq_true rfl, Nat.le_of_ble_eq_true rfl⟩) rfl (Nat.le_of_ble_eq_true rfl) rfl rfl rfl dX11_steps_27 (kk_sV (fun I2 J2 h => ?_))
    refine wz_aload_n C rfl rfl dX11_steps_30 ?_
    refine wz_aload_n C rfl rfl dX11_steps_31 ?_
    refine wz_getR C (j := 300) f_X11_steps_53 (sOc hz rfl) (by decide) dX11_steps_32 ?_
    refine wz_iload_n C rfl rfl dX11_steps_35 ?_
    refine wm_callV C (o := 100) (As := [.ref (kadr G 300), .int (iZ l1)]) (st := []) (a' := 0) (b' := 0) (shK_c hz rfl) rfl (k_X11_makeSteps G hG 300 l1 I2 J2 _ h) 2 gX11_steps_X11_makeSteps rfl (by decide +kernel) (by rw [hX]; exact ⟨Nat.le_of_ble_eq_true rfl, Nat.le_of_ble_eq_true rfl⟩) rfl (Nat.le_of_ble_eq_true rfl) rfl rfl rfl dX11_steps_36 (kk_sI (fun v3 I3 J3 h => ?_))
    exact wz_iret C dX11_steps_39 ⟨_, rfl, h⟩
  · replace h := h.2 c
    exact False.elim h
theorem in_X11_placeBest_X11 : ∀ w ∈ wsX110, w ∈ wsX11_placeBest := by decide +kernel
theorem f_X11_placeBest_66 : FLk wsX11_placeBest RX11 66 14 11 := flk 14 11 rfl tyX11_ok nmX11 in_X11_placeBest_X11 (by decide) (by decide +kernel)
theorem f_X11_placeBest_53 : FLk wsX11_placeBest RX11 53 14 7 := flk 14 7 rfl tyX11_ok nmX11 in_X11_placeBest_X11 (by decide) (by decide +kernel)
def rm_X11_placeBest : Room := { frames := 5, cells := 0, slots := 0, locals := 154 }
set_option maxHeartbeats 4000000 in
set_option maxRecDepth 100000 in
theorem k_X11_placeBest (G : KG) (hG : KokC G) (I : Ii) (J : Jj) (Q : Int → Ii → Jj → Prop) (h : wp_X11_placeBest I J Q) : Ctr G yX11_placeBest wsX11_placeBest rm_X11_placeBest [.ref (kadr G 100)] (I, J) (QsI Q) := by
  unfold wp_X11_placeBest at h
  skip
  refine Ctr.ofZ (cc := cX11_placeBest) (nL := 1) (ret := (some .int)) [some (.ref (kadr G 100))] hG.1 (by decide +kernel) rfl (Nat.le_of_ble_eq_true rfl) (Nat.le_of_ble_eq_true rfl) (by simp [lvA, lv_args, Value.category]) ?_
  intro X hX C
  have hz := hG.2
  refine wz_aload_n C rfl rfl dX11_placeBest_0 ?_
  refine wm_callV C (o := 100) (As := []) (st := []) (a' := 0) (b' := 0) (shK_c hz rfl) rfl (k_X11_hasFewGroups G hG I J _ h) 0 gX11_placeBest_X11_hasFewGroups rfl (by decide +kernel) (by rw [hX]; exact ⟨Nat.le_of_ble_eq_true rfl, Nat.le_of_ble_eq_true rfl⟩) rfl (Nat.le_of_ble_eq_true rfl) rfl rfl rfl dX11_placeBest_1 (kk_sB (fun v1 I1 J1 hb1 h => ?_))
  refine wz_if_ne C (tgt := 18) (rgB hb1) dX11_placeBest_4 (by decide) (fun c => ?_) (fun c => ?_)
  · replace h := h.1 c
    refine wz_aload_n C rfl rfl dX11_placeBest_18 ?_
    refine wz_getR C (j := 111) f_X11_placeBest_66 (sOc hz rfl) (by decide) dX11_placeBest_19 ?_
    refine wz_aload_n C rfl rfl dX11_placeBest_22 ?_
    refine wz_getR C (j := 300) f_X11_placeBest_53 (sOc hz rfl) (by decide) dX11_placeBest_23 ?_
    refine wm_callV C (o := 111) (As := [.ref (kadr G 300)]) (st := []) (a' := 0) (b' := 0) (shK_c hz rfl) rfl (k_X3_keep G hG 300 I1 J1 _ h) 1 gX11_placeBest_X3_keep rfl (by decide +kernel) (by rw [hX]; exact ⟨Nat.le_of_ble_eq_true rfl, Nat.le_of_ble_eq_true rfl⟩) rfl (Nat.le_of_ble_eq_true rfl) rfl rfl rfl dX11_placeBest_26 (kk_sV (fun I2 J2 h => ?_))
    refine wz_aload_n C rfl rfl dX11_placeBest_29 ?_
    refine wm_callV C (o := 100) (As := []) (st := []) (a' := 0) (b' := 0) (shK_c hz rfl) rfl (k_X11_searchBest G hG I2 J2 _ h) 0 gX11_placeBest_X11_searchBest rfl (by decide +kernel) (by rw [hX]; exact ⟨Nat.le_of_ble_eq_true rfl, Nat.le_of_ble_eq_true rfl⟩) rfl (Nat.le_of_ble_eq_true rfl) rfl rfl rfl dX11_placeBest_30 (kk_sV (fun I3 J3 h => ?_))
    refine wz_aload_n C rfl rfl dX11_placeBest_33 ?_
    refine wm_callV C (o := 100) (As := []) (st := []) (a' := 0) (b' := 0) (shK_c hz rfl) rfl (k_X11_takeBest G hG I3 J3 _ h) 0 gX11_placeBest_X11_takeBest rfl (by decide +kernel) (by rw [hX]; exact ⟨Nat.le_of_ble_eq_true rfl, Nat.le_of_ble_eq_true rfl⟩) rfl (Nat.le_of_ble_eq_true rfl) rfl rfl rfl dX11_placeBest_34 (kk_sI (fun v4 I4 J4 h => ?_))
    exact wz_iret C dX11_placeBest_37 ⟨_, rfl, h⟩
  · replace h := h.2 c
    exact False.elim h
theorem in_X11_placeApart_X11 : ∀ w ∈ wsX110, w ∈ wsX11_placeApart := by decide +kernel
theorem f_X11_placeApart_66 : FLk wsX11_placeApart RX11 66 14 11 := flk 14 11 rfl tyX11_ok nmX11 in_X11_placeApart_X11 (by decide) (by decide +kernel)
theorem f_X11_placeApart_53 : FLk wsX11_placeApart RX11 53 14 7 := flk 14 7 rfl tyX11_ok nmX11 in_X11_placeApart_X11 (by decide) (by decide +kernel)
def rm_X11_placeApart : Room := { frames := 5, cells := 0, slots := 0, locals := 155 }
set_option maxHeartbeats 4000000 in
set_option maxRecDepth 100000 in
theorem k_X11_placeApart (G : KG) (hG : KokC G) (l1 : Int) (l2 : Int) (I : Ii) (J : Jj) (Q : Int → Ii → Jj → Prop) (h : wp_X11_placeApart l1 l2 I J Q) : Ctr G yX11_placeApart wsX11_placeApart rm_X11_placeApart [.ref (kadr G 100), .int (iZ l1), .int (iZ l2)] (I, J) (QsI Q) := by
  unfold wp_X11_placeApart at h
  skip
  refine Ctr.ofZ (cc := cX11_placeApart) (nL := 3) (ret := (some .int)) [some (.ref (kadr G 100)), some (.int (iZ l1)), some (.int (iZ l2))] hG.1 (by decide +kernel) rfl (Nat.le_of_ble_eq_true rfl) (Nat.le_of_ble_eq_true rfl) (by simp [lvA, lv_args, Value.category]) ?_
  intro X hX C
  have hz := hG.2
  refine wz_aload_n C rfl rfl dX11_placeApart_0 ?_
  refine wz_iload_n C rfl rfl dX11_placeApart_1 ?_
  refine wm_callV C (o := 100) (As := [.int (iZ l1)]) (st := []) (a' := 0) (b' := 0) (shK_c hz rfl) rfl (k_X11_requireVertex G hG l1 I J _ h) 1 gX11_placeApart_X11_requireVertex rfl (by decide +kernel) (by rw [hX]; exact ⟨Nat.le_of_ble_eq_true rfl, Nat.le_of_ble_eq_true rfl⟩) rfl (Nat.le_of_ble_eq_true rfl) rfl rfl rfl dX11_placeApart_2 (kk_sV (fun I1 J1 h => ?_))
  refine wz_aload_n C rfl rfl dX11_placeApart_5 ?_
  refine wz_iload_n C rfl rfl dX11_placeApart_6 ?_
  refine wm_callV C (o := 100) (As := [.int (iZ l2)]) (st := []) (a' := 0) (b' := 0) (shK_c hz rfl) rfl (k_X11_requireVertex G hG l2 I1 J1 _ h) 1 gX11_placeApart_X11_requireVertex rfl (by decide +kernel) (by rw [hX]; exact ⟨Nat.le_of_ble_eq_true rfl, Nat.le_of_ble_eq_true rfl⟩) rfl (Nat.le_of_ble_eq_true rfl) rfl rfl rfl dX11_placeApart_7 (kk_sV (fun I2 J2 h => ?_))
  refine wz_iload_n C rfl rfl dX11_placeApart_10 ?_
  refine wz_iload_n C rfl rfl dX11_placeApart_11 ?_
  obtain ⟨g3, h⟩ := h
  obtain ⟨g4, h⟩ := h
  refine wz_icmp_ne C (tgt := 26) g3 g4 dX11_placeApart_12 (by decide) (fun c => ?_) (fun c => ?_)
  · replace h := h.1 c
    refine wz_aload_n C rfl rfl dX11_placeApart_26 ?_
    refine wm_callV C (o := 100) (As := []) (st := []) (a' := 0) (b' := 0) (shK_c hz rfl) rfl (k_X11_canTakeApart G hG I2 J2 _ h) 0 gX11_placeApart_X11_canTakeApart rfl (by decide +kernel) (by rw [hX]; exact ⟨Nat.le_of_ble_eq_true rfl, Nat.le_of_ble_eq_true rfl⟩) rfl (Nat.le_of_ble_eq_true rfl) rfl rfl rfl dX11_placeApart_27 (kk_sB (fun v5 I5 J5 hb5 h => ?_))
    refine wz_if_ne C (tgt := 44) (rgB hb5) dX11_placeApart_30 (by decide) (fun c => ?_) (fun c => ?_)
    · replace h := h.1 c
      refine wz_aload_n C rfl rfl dX11_placeApart_44 ?_
      refine wz_getR C (j := 111) f_X11_placeApart_66 (sOc hz rfl) (by decide) dX11_placeApart_45 ?_
      refine wz_aload_n C rfl rfl dX11_placeApart_48 ?_
      refine wz_getR C (j := 300) f_X11_placeApart_53 (sOc hz rfl) (by decide) dX11_placeApart_49 ?_
      refine wm_callV C (o := 111) (As := [.ref (kadr G 300)]) (st := []) (a' := 0) (b' := 0) (shK_c hz rfl) rfl (k_X3_keep G hG 300 I5 J5 _ h) 1 gX11_placeApart_X3_keep rfl (by decide +kernel) (by rw [hX]; exact ⟨Nat.le_of_ble_eq_true rfl, Nat.le_of_ble_eq_true rfl⟩) rfl (Nat.le_of_ble_eq_true rfl) rfl rfl rfl dX11_placeApart_52 (kk_sV (fun I6 J6 h => ?_))
      refine wz_aload_n C rfl rfl dX11_placeApart_55 ?_
      refine wz_iload_n C rfl rfl dX11_placeApart_56 ?_
      refine wz_iload_n C rfl rfl dX11_placeApart_57 ?_
      refine wm_callV C (o := 100) (As := [.int (iZ l1), .int (iZ l2)]) (st := []) (a' := 0) (b' := 0) (shK_c hz rfl) rfl (k_X11_takeApart G hG l1 l2 I6 J6 _ h) 2 gX11_placeApart_X11_takeApart rfl (by decide +kernel) (by rw [hX]; exact ⟨Nat.le_of_ble_eq_true rfl, Nat.le_of_ble_eq_true rfl⟩) rfl (Nat.le_of_ble_eq_true rfl) rfl rfl rfl dX11_placeApart_58 (kk_sI (fun v7 I7 J7 h => ?_))
      exact wz_iret C dX11_placeApart_61 ⟨_, rfl, h⟩
    · replace h := h.2 c
      exact False.elim h
  · replace h := h.2 c
    exact False.elim h
theorem in_X11_setCredit_X11 : ∀ w ∈ wsX110, w ∈ wsX11_setCredit := by decide +kernel
theorem in_X11_setCredit_X8 : ∀ w ∈ wsX80, w ∈ wsX11_setCredit := by decide +kernel
theorem f_X11_setCredit_66 : FLk wsX11_setCredit RX11 66 14 11 := flk 14 11 rfl tyX11_ok nmX11 in_X11_setCredit_X11 (by decide) (by decide +kernel)
theorem f_X11_setCredit_53 : FLk wsX11_setCredit RX11 53 14 7 := flk 14 7 rfl tyX11_ok nmX11 in_X11_setCredit_X11 (by decide) (by decide +kernel)
theorem f_X11_setCredit_245 : FLk wsX11_setCredit RX11 245 11 1 := flk 11 1 rfl tyX8_ok nmX8 in_X11_setCredit_X8 (by decide) (by decide +kernel)
def rm_X11_setCredit : Room := { frames := 4, cells := 0, slots := 0, locals := 124 }
set_option maxHeartbeats 4000000 in
set_option maxRecDepth 100000 in
theorem k_X11_setCredit (G : KG) (hG : KokC G) (l1 : Int) (I : Ii) (J : Jj) (Q : Int → Ii → Jj → Prop) (h : wp_X11_setCredit l1 I J Q) : Ctr G yX11_setCredit wsX11_setCredit rm_X11_setCredit [.ref (kadr G 100), .int (iZ l1)] (I, J) (QsI Q) := by
  unfold wp_X11_setCredit at h
  skip
  refine Ctr.ofZ (cc := cX11_setCredit) (nL := 3) (ret := (some .int)) [some (.ref (kadr G 100)), some (.int (iZ l1)), none] hG.1 (by decide +kernel) rfl (Nat.le_of_ble_eq_true rfl) (Nat.le_of_ble_eq_true rfl) (by simp [lvA, lv_args, Value.category]) ?_
  intro X hX C
  have hz := hG.2
  refine wz_aload_n C rfl rfl dX11_setCredit_0 ?_
  refine wz_iload_n C rfl rfl dX11_setCredit_1 ?_
  refine wm_callV C (o := 100) (As := [.int (iZ l1)]) (st := []) (a' := 0) (b' := 0) (shK_c hz rfl) rfl (k_X11_isAllowance G hG l1 I J _ h) 1 gX11_setCredit_X11_isAllowance rfl (by decide +kernel) (by rw [hX]; exact ⟨Nat.le_of_ble_eq_true rfl, Nat.le_of_ble_eq_true rfl⟩) rfl (Nat.le_of_ble_eq_true rfl) rfl rfl rfl dX11_setCredit_2 (kk_sB (fun v1 I1 J1 hb1 h => ?_))
  refine wz_if_ne C (tgt := 19) (rgB hb1) dX11_setCredit_5 (by decide) (fun c => ?_) (fun c => ?_)
  · replace h := h.1 c
    refine wz_aload_n C rfl rfl dX11_setCredit_19 ?_
    refine wz_getR C (j := 111) f_X11_setCredit_66 (sOc hz rfl) (by decide) dX11_setCredit_20 ?_
    refine wz_aload_n C rfl rfl dX11_setCredit_23 ?_
    refine wz_getR C (j := 300) f_X11_setCredit_53 (sOc hz rfl) (by decide) dX11_setCredit_24 ?_
    refine wm_callV C (o := 111) (As := [.ref (kadr G 300)]) (st := []) (a' := 0) (b' := 0) (shK_c hz rfl) rfl (k_X3_keep G hG 300 I1 J1 _ h) 1 gX11_setCredit_X3_keep rfl (by decide +kernel) (by rw [hX]; exact ⟨Nat.le_of_ble_eq_true rfl, Nat.le_of_ble_eq_true rfl⟩) rfl (Nat.le_of_ble_eq_true rfl) rfl rfl rfl dX11_setCredit_27 (kk_sV (fun I2 J2 h => ?_))
    refine wz_aload_n C rfl rfl dX11_setCredit_30 ?_
    refine wz_getR C (j := 300) f_X11_setCredit_53 (sOc hz rfl) (by decide) dX11_setCredit_31 ?_
    refine wz_getI C rfl f_X11_setCredit_245 (sOc hz rfl) dX11_setCredit_34 ?_
    refine wz_istore_2 C rfl dX11_setCredit_37 ?_
    refine wz_aload_n C rfl rfl dX11_setCredit_38 ?_
    refine wz_getR C (j := 300) f_X11_setCredit_53 (sOc hz rfl) (by decide) dX11_setCredit_39 ?_
    refine wz_iload_n C rfl rfl dX11_setCredit_42 ?_
    refine wd_putI C f_X11_setCredit_245 fp_X8_1 (sOc hz rfl) dX11_setCredit_43 (fun I3 e => ?_)
    replace h := h I3 e
    refine wz_iload_n C rfl rfl dX11_setCredit_46 ?_
    exact wz_iret C dX11_setCredit_47 ⟨_, rfl, h⟩
  · replace h := h.2 c
    exact False.elim h
theorem in_X11_undo_X11 : ∀ w ∈ wsX110, w ∈ wsX11_undo := by decide +kernel
theorem in_X11_undo_X3 : ∀ w ∈ wsX30, w ∈ wsX11_undo := by decide +kernel
theorem f_X11_undo_66 : FLk wsX11_undo RX11 66 14 11 := flk 14 11 rfl tyX11_ok nmX11 in_X11_undo_X11 (by decide) (by decide +kernel)
theorem f_X11_undo_53 : FLk wsX11_undo RX11 53 14 7 := flk 14 7 rfl tyX11_ok nmX11 in_X11_undo_X11 (by decide) (by decide +kernel)
theorem f_X11_undo_280 : FLk wsX11_undo RX11 280 6 2 := flk 6 2 rfl tyX3_ok nmX3 in_X11_undo_X3 (by decide) (by decide +kernel)
def rm_X11_undo : Room := { frames := 4, cells := 0, slots := 0, locals := 124 }
set_option maxHeartbeats 4000000 in
set_option maxRecDepth 100000 in
theorem k_X11_undo (G : KG) (hG : KokC G) (I : Ii) (J : Jj) (Q : Int → Ii → Jj → Prop) (h : wp_X11_undo I J Q) : Ctr G yX11_undo wsX11_undo rm_X11_undo [.ref (kadr G 100)] (I, J) (QsI Q) := by
  unfold wp_X11_undo at h
  skip
  refine Ctr.ofZ (cc := cX11_undo) (nL := 1) (ret := (some .int)) [some (.ref (kadr G 100))] hG.1 (by decide +kernel) rfl (Nat.le_of_ble_eq_true rfl) (Nat.le_of_ble_eq_true rfl) (by simp [lvA, lv_args, Value.category]) ?_
  intro X hX C
  have hz := hG.2
  refine wz_aload_n C rfl rfl dX11_undo_0 ?_
  refine wz_getR C (j := 111) f_X11_undo_66 (sOc hz rfl) (by decide) dX11_undo_1 ?_
  refine wz_aload_n C rfl rfl dX11_undo_4 ?_
  refine wz_getR C (j := 300) f_X11_undo_53 (sOc hz rfl) (by decide) dX11_undo_5 ?_
  refine wm_callV C (o := 111) (As := [.ref (kadr G 300)]) (st := []) (a' := 0) (b' := 0) (shK_c hz rfl) rfl (k_X3_takeBack G hG 300 I J _ h) 1 gX11_undo_X3_takeBack rfl (by decide +kernel) (by rw [hX]; exact ⟨Nat.le_of_ble_eq_true rfl, Nat.le_of_ble_eq_true rfl⟩) rfl (Nat.le_of_ble_eq_true rfl) rfl rfl rfl dX11_undo_8 (kk_sB (fun v1 I1 J1 hb1 h => ?_))
  refine wz_if_eq C (tgt := 24) (rgB hb1) dX11_undo_11 (by decide) (fun c => ?_) (fun c => ?_)
  · replace h := h.1 c
    refine wz_iconst C dX11_undo_24 ?_
    exact wz_iret C dX11_undo_25 ⟨_, rfl, h⟩
  · replace h := h.2 c
    refine wz_aload_n C rfl rfl dX11_undo_14 ?_
    refine wz_getR C (j := 111) f_X11_undo_66 (sOc hz rfl) (by decide) dX11_undo_15 ?_
    refine wz_getI C rfl f_X11_undo_280 (sOc hz rfl) dX11_undo_18 ?_
    refine wz_goto C dX11_undo_21 (tgt := 25) (by decide) ?_
    exact wz_iret C dX11_undo_25 ⟨_, rfl, h⟩
theorem in_X11_bestDebts_X0 : ∀ w ∈ wsX00, w ∈ wsX11_bestDebts := by decide +kernel
theorem in_X11_bestDebts_X11 : ∀ w ∈ wsX110, w ∈ wsX11_bestDebts := by decide +kernel
theorem f_X11_bestDebts_87 : FLk wsX11_bestDebts RX11 87 14 14 := flk 14 14 rfl tyX11_ok nmX11 in_X11_bestDebts_X11 (by decide) (by decide +kernel)
theorem f_X11_bestDebts_421 : FLk wsX11_bestDebts RX11 421 3 3 := flk 3 3 rfl tyX0_ok nmX0 in_X11_bestDebts_X0 (by decide) (by decide +kernel)
def rm_X11_bestDebts : Room := { frames := 5, cells := 0, slots := 0, locals := 127 }
set_option maxHeartbeats 4000000 in
set_option maxRecDepth 100000 in
theorem k_X11_bestDebts (G : KG) (hG : KokC G) (I : Ii) (J : Jj) (Q : Int → Ii → Jj → Prop) (h : wp_X11_bestDebts I J Q) : Ctr G yX11_bestDebts wsX11_bestDebts rm_X11_bestDebts [.ref (kadr G 100)] (I, J) (QsI Q) := by
  unfold wp_X11_bestDebts at h
  skip
  refine Ctr.ofZ (cc := cX11_bestDebts) (nL := 1) (ret := (some .int)) [some (.ref (kadr G 100))] hG.1 (by decide +kernel) rfl (Nat.le_of_ble_eq_true rfl) (Nat.le_of_ble_eq_true rfl) (by simp [lvA, lv_args, Value.category]) ?_
  intro X hX C
  have hz := hG.2
  refine wz_aload_n C rfl rfl dX11_bestDebts_0 ?_
  refine wm_callV C (o := 100) (As := []) (st := []) (a' := 0) (b' := 0) (shK_c hz rfl) rfl (k_X11_hasFewGroups G hG I J _ h) 0 gX11_bestDebts_X11_hasFewGroups rfl (by decide +kernel) (by rw [hX]; exact ⟨Nat.le_of_ble_eq_true rfl, Nat.le_of_ble_eq_true rfl⟩) rfl (Nat.le_of_ble_eq_true rfl) rfl rfl rfl dX11_bestDebts_1 (kk_sB (fun v1 I1 J1 hb1 h => ?_))
  refine wz_if_ne C (tgt := 9) (rgB hb1) dX11_bestDebts_4 (by decide) (fun c => ?_) (fun c => ?_)
  · replace h := h.1 c
    refine wz_aload_n C rfl rfl dX11_bestDebts_9 ?_
    refine wm_callV C (o := 100) (As := []) (st := []) (a' := 0) (b' := 0) (shK_c hz rfl) rfl (k_X11_searchBest G hG I1 J1 _ h) 0 gX11_bestDebts_X11_searchBest rfl (by decide +kernel) (by rw [hX]; exact ⟨Nat.le_of_ble_eq_true rfl, Nat.le_of_ble_eq_true rfl⟩) rfl (Nat.le_of_ble_eq_true rfl) rfl rfl rfl dX11_bestDebts_10 (kk_sV (fun I2 J2 h => ?_))
    refine wz_aload_n C rfl rfl dX11_bestDebts_13 ?_
    refine wz_getR C (j := 124) f_X11_bestDebts_87 (sOc hz rfl) (by decide) dX11_bestDebts_14 ?_
    refine wz_getI C rfl f_X11_bestDebts_421 (sOc hz rfl) dX11_bestDebts_17 ?_
    exact wz_iret C dX11_bestDebts_20 ⟨_, rfl, h⟩
  · replace h := h.2 c
    refine wz_iconst C dX11_bestDebts_7 ?_
    exact wz_iret C dX11_bestDebts_8 ⟨_, rfl, h⟩
theorem in_X11_bestCut_X0 : ∀ w ∈ wsX00, w ∈ wsX11_bestCut := by decide +kernel
theorem in_X11_bestCut_X11 : ∀ w ∈ wsX110, w ∈ wsX11_bestCut := by decide +kernel
theorem f_X11_bestCut_87 : FLk wsX11_bestCut RX11 87 14 14 := flk 14 14 rfl tyX11_ok nmX11 in_X11_bestCut_X11 (by decide) (by decide +kernel)
theorem f_X11_bestCut_424 : FLk wsX11_bestCut RX11 424 3 4 := flk 3 4 rfl tyX0_ok nmX0 in_X11_bestCut_X0 (by decide) (by decide +kernel)
def rm_X11_bestCut : Room := { frames := 5, cells := 0, slots := 0, locals := 127 }
set_option maxHeartbeats 4000000 in
set_option maxRecDepth 100000 in
theorem k_X11_bestCut (G : KG) (hG : KokC G) (I : Ii) (J : Jj) (Q : Int → Ii → Jj → Prop) (h : wp_X11_bestCut I J Q) : Ctr G yX11_bestCut wsX11_bestCut rm_X11_bestCut [.ref (kadr G 100)] (I, J) (QsI Q) := by
  unfold wp_X11_bestCut at h
  skip
  refine Ctr.ofZ (cc := cX11_bestCut) (nL := 1) (ret := (some .int)) [some (.ref (kadr G 100))] hG.1 (by decide +kernel) rfl (Nat.le_of_ble_eq_true rfl) (Nat.le_of_ble_eq_true rfl) (by simp [lvA, lv_args, Value.category]) ?_
  intro X hX C
  have hz := hG.2
  refine wz_aload_n C rfl rfl dX11_bestCut_0 ?_
  refine wm_callV C (o := 100) (As := []) (st := []) (a' := 0) (b' := 0) (shK_c hz rfl) rfl (k_X11_hasFewGroups G hG I J _ h) 0 gX11_bestCut_X11_hasFewGroups rfl (by decide +kernel) (by rw [hX]; exact ⟨Nat.le_of_ble_eq_true rfl, Nat.le_of_ble_eq_true rfl⟩) rfl (Nat.le_of_ble_eq_true rfl) rfl rfl rfl dX11_bestCut_1 (kk_sB (fun v1 I1 J1 hb1 h => ?_))
  refine wz_if_ne C (tgt := 9) (rgB hb1) dX11_bestCut_4 (by decide) (fun c => ?_) (fun c => ?_)
  · replace h := h.1 c
    refine wz_aload_n C rfl rfl dX11_bestCut_9 ?_
    refine wm_callV C (o := 100) (As := []) (st := []) (a' := 0) (b' := 0) (shK_c hz rfl) rfl (k_X11_searchBest G hG I1 J1 _ h) 0 gX11_bestCut_X11_searchBest rfl (by decide +kernel) (by rw [hX]; exact ⟨Nat.le_of_ble_eq_true rfl, Nat.le_of_ble_eq_true rfl⟩) rfl (Nat.le_of_ble_eq_true rfl) rfl rfl rfl dX11_bestCut_10 (kk_sV (fun I2 J2 h => ?_))
    refine wz_aload_n C rfl rfl dX11_bestCut_13 ?_
    refine wz_getR C (j := 124) f_X11_bestCut_87 (sOc hz rfl) (by decide) dX11_bestCut_14 ?_
    refine wz_getI C rfl f_X11_bestCut_424 (sOc hz rfl) dX11_bestCut_17 ?_
    exact wz_iret C dX11_bestCut_20 ⟨_, rfl, h⟩
  · replace h := h.2 c
    refine wz_iconst C dX11_bestCut_7 ?_
    exact wz_iret C dX11_bestCut_8 ⟨_, rfl, h⟩
theorem in_X11_stepsToEnd_X11 : ∀ w ∈ wsX110, w ∈ wsX11_stepsToEnd := by decide +kernel
theorem f_X11_stepsToEnd_73 : FLk wsX11_stepsToEnd RX11 73 14 12 := flk 14 12 rfl tyX11_ok nmX11 in_X11_stepsToEnd_X11 (by decide) (by decide +kernel)
theorem f_X11_stepsToEnd_40 : FLk wsX11_stepsToEnd RX11 40 14 4 := flk 14 4 rfl tyX11_ok nmX11 in_X11_stepsToEnd_X11 (by decide) (by decide +kernel)
theorem f_X11_stepsToEnd_57 : FLk wsX11_stepsToEnd RX11 57 14 8 := flk 14 8 rfl tyX11_ok nmX11 in_X11_stepsToEnd_X11 (by decide) (by decide +kernel)
def rm_X11_stepsToEnd : Room := { frames := 6, cells := 0, slots := 0, locals := 153 }
set_option maxHeartbeats 4000000 in
set_option maxRecDepth 100000 in
theorem k_X11_stepsToEnd (G : KG) (hG : KokC G) (l1 : Int) (I : Ii) (J : Jj) (Q : Int → Ii → Jj → Prop) (h : wp_X11_stepsToEnd l1 I J Q) : Ctr G yX11_stepsToEnd wsX11_stepsToEnd rm_X11_stepsToEnd [.ref (kadr G 100), .int (iZ l1)] (I, J) (QsI Q) := by
  unfold wp_X11_stepsToEnd at h
  skip
  refine Ctr.ofZ (cc := cX11_stepsToEnd) (nL := 3) (ret := (some .int)) [some (.ref (kadr G 100)), some (.int (iZ l1)), none] hG.1 (by decide +kernel) rfl (Nat.le_of_ble_eq_true rfl) (Nat.le_of_ble_eq_true rfl) (by simp [lvA, lv_args, Value.category]) ?_
  intro X hX C
  have hz := hG.2
  refine wz_aload_n C rfl rfl dX11_stepsToEnd_0 ?_
  refine wz_iload_n C rfl rfl dX11_stepsToEnd_1 ?_
  refine wm_callV C (o := 100) (As := [.int (iZ l1)]) (st := []) (a' := 0) (b' := 0) (shK_c hz rfl) rfl (k_X11_requireTriedSteps G hG l1 I J _ h) 1 gX11_stepsToEnd_X11_requireTriedSteps rfl (by decide +kernel) (by rw [hX]; exact ⟨Nat.le_of_ble_eq_true rfl, Nat.le_of_ble_eq_true rfl⟩) rfl (Nat.le_of_ble_eq_true rfl) rfl rfl rfl dX11_stepsToEnd_2 (kk_sV (fun I1 J1 h => ?_))
  refine wz_aload_n C rfl rfl dX11_stepsToEnd_5 ?_
  refine wz_iload_n C rfl rfl dX11_stepsToEnd_6 ?_
  refine wm_callV C (o := 100) (As := [.int (iZ l1)]) (st := []) (a' := 0) (b' := 0) (shK_c hz rfl) rfl (k_X11_trySteps G hG l1 I1 J1 _ h) 1 gX11_stepsToEnd_X11_trySteps rfl (by decide +kernel) (by rw [hX]; exact ⟨Nat.le_of_ble_eq_true rfl, Nat.le_of_ble_eq_true rfl⟩) rfl (Nat.le_of_ble_eq_true rfl) rfl rfl rfl dX11_stepsToEnd_7 (kk_sI (fun v2 I2 J2 h => ?_))
  refine wz_istore_2 C rfl dX11_stepsToEnd_10 ?_
  refine wz_aload_n C rfl rfl dX11_stepsToEnd_11 ?_
  refine wz_getR C (j := 113) f_X11_stepsToEnd_73 (sOc hz rfl) (by decide) dX11_stepsToEnd_12 ?_
  refine wz_aload_n C rfl rfl dX11_stepsToEnd_15 ?_
  refine wz_getR C (j := 200) f_X11_stepsToEnd_40 (sOc hz rfl) (by decide) dX11_stepsToEnd_16 ?_
  refine wz_aload_n C rfl rfl dX11_stepsToEnd_19 ?_
  refine wz_getR C (j := 310) f_X11_stepsToEnd_57 (sOc hz rfl) (by decide) dX11_stepsToEnd_20 ?_
  refine wm_callV C (o := 113) (As := [.ref (kadr G 200), .ref (kadr G 310)]) (st := []) (a' := 0) (b' := 0) (shK_c hz rfl) rfl (k_X4_take G hG 200 310 I2 J2 _ h) 2 gX11_stepsToEnd_X4_take rfl (by decide +kernel) (by rw [hX]; exact ⟨Nat.le_of_ble_eq_true rfl, Nat.le_of_ble_eq_true rfl⟩) rfl (Nat.le_of_ble_eq_true rfl) rfl rfl rfl dX11_stepsToEnd_23 (kk_sV (fun I3 J3 h => ?_))
  refine wz_aload_n C rfl rfl dX11_stepsToEnd_26 ?_
  refine wz_getR C (j := 113) f_X11_stepsToEnd_73 (sOc hz rfl) (by decide) dX11_stepsToEnd_27 ?_
  refine wm_callV C (o := 113) (As := []) (st := []) (a' := 0) (b' := 0) (shK_c hz rfl) rfl (k_X4_chosenStep G hG I3 J3 _ h) 0 gX11_stepsToEnd_X4_chosenStep rfl (by decide +kernel) (by rw [hX]; exact ⟨Nat.le_of_ble_eq_true rfl, Nat.le_of_ble_eq_true rfl⟩) rfl (Nat.le_of_ble_eq_true rfl) rfl rfl rfl dX11_stepsToEnd_30 (kk_sI (fun v4 I4 J4 h => ?_))
  refine wz_iconst C dX11_stepsToEnd_33 ?_
  obtain ⟨g5, h⟩ := h
  refine wz_icmp_ne C (tgt := 41) g5 (by decide) dX11_stepsToEnd_34 (by decide) (fun c => ?_) (fun c => ?_)
  · replace h := h.1 c
    refine wz_iconst C dX11_stepsToEnd_41 ?_
    exact wz_iret C dX11_stepsToEnd_42 ⟨_, rfl, h⟩
  · replace h := h.2 c
    refine wz_iload_n C rfl rfl dX11_stepsToEnd_37 ?_
    refine wz_goto C dX11_stepsToEnd_38 (tgt := 42) (by decide) ?_
    exact wz_iret C dX11_stepsToEnd_42 ⟨_, rfl, h⟩
theorem in_X11_cutBehind_X11 : ∀ w ∈ wsX110, w ∈ wsX11_cutBehind := by decide +kernel
theorem in_X11_cutBehind_X4 : ∀ w ∈ wsX40, w ∈ wsX11_cutBehind := by decide +kernel
theorem f_X11_cutBehind_73 : FLk wsX11_cutBehind RX11 73 14 12 := flk 14 12 rfl tyX11_ok nmX11 in_X11_cutBehind_X11 (by decide) (by decide +kernel)
theorem f_X11_cutBehind_40 : FLk wsX11_cutBehind RX11 40 14 4 := flk 14 4 rfl tyX11_ok nmX11 in_X11_cutBehind_X11 (by decide) (by decide +kernel)
theorem f_X11_cutBehind_57 : FLk wsX11_cutBehind RX11 57 14 8 := flk 14 8 rfl tyX11_ok nmX11 in_X11_cutBehind_X11 (by decide) (by decide +kernel)
theorem f_X11_cutBehind_357 : FLk wsX11_cutBehind RX11 357 7 5 := flk 7 5 rfl tyX4_ok nmX4 in_X11_cutBehind_X4 (by decide) (by decide +kernel)
def rm_X11_cutBehind : Room := { frames := 6, cells := 0, slots := 0, locals := 153 }
set_option maxHeartbeats 4000000 in
set_option maxRecDepth 100000 in
theorem k_X11_cutBehind (G : KG) (hG : KokC G) (l1 : Int) (I : Ii) (J : Jj) (Q : Int → Ii → Jj → Prop) (h : wp_X11_cutBehind l1 I J Q) : Ctr G yX11_cutBehind wsX11_cutBehind rm_X11_cutBehind [.ref (kadr G 100), .int (iZ l1)] (I, J) (QsI Q) := by
  unfold wp_X11_cutBehind at h
  skip
  refine Ctr.ofZ (cc := cX11_cutBehind) (nL := 2) (ret := (some .int)) [some (.ref (kadr G 100)), some (.int (iZ l1))] hG.1 (by decide +kernel) rfl (Nat.le_of_ble_eq_true rfl) (Nat.le_of_ble_eq_true rfl) (by simp [lvA, lv_args, Value.category]) ?_
  intro X hX C
  have hz := hG.2
  refine wz_aload_n C rfl rfl dX11_cutBehind_0 ?_
  refine wz_iload_n C rfl rfl dX11_cutBehind_1 ?_
  refine wm_callV C (o := 100) (As := [.int (iZ l1)]) (st := []) (a' := 0) (b' := 0) (shK_c hz rfl) rfl (k_X11_requireTriedSteps G hG l1 I J _ h) 1 gX11_cutBehind_X11_requireTriedSteps rfl (by decide +kernel) (by rw [hX]; exact ⟨Nat.le_of_ble_eq_true rfl, Nat.le_of_ble_eq_true rfl⟩) rfl (Nat.le_of_ble_eq_true rfl) rfl rfl rfl dX11_cutBehind_2 (kk_sV (fun I1 J1 h => ?_))
  refine wz_aload_n C rfl rfl dX11_cutBehind_5 ?_
  refine wz_iload_n C rfl rfl dX11_cutBehind_6 ?_
  refine wm_callV C (o := 100) (As := [.int (iZ l1)]) (st := []) (a' := 0) (b' := 0) (shK_c hz rfl) rfl (k_X11_trySteps G hG l1 I1 J1 _ h) 1 gX11_cutBehind_X11_trySteps rfl (by decide +kernel) (by rw [hX]; exact ⟨Nat.le_of_ble_eq_true rfl, Nat.le_of_ble_eq_true rfl⟩) rfl (Nat.le_of_ble_eq_true rfl) rfl rfl rfl dX11_cutBehind_7 (kk_sI (fun v2 I2 J2 h => ?_))
  refine wz_pop C rfl dX11_cutBehind_10 ?_
  refine wz_aload_n C rfl rfl dX11_cutBehind_11 ?_
  refine wz_getR C (j := 113) f_X11_cutBehind_73 (sOc hz rfl) (by decide) dX11_cutBehind_12 ?_
  refine wz_aload_n C rfl rfl dX11_cutBehind_15 ?_
  refine wz_getR C (j := 200) f_X11_cutBehind_40 (sOc hz rfl) (by decide) dX11_cutBehind_16 ?_
  refine wz_aload_n C rfl rfl dX11_cutBehind_19 ?_
  refine wz_getR C (j := 310) f_X11_cutBehind_57 (sOc hz rfl) (by decide) dX11_cutBehind_20 ?_
  refine wm_callV C (o := 113) (As := [.ref (kadr G 200), .ref (kadr G 310)]) (st := []) (a' := 0) (b' := 0) (shK_c hz rfl) rfl (k_X4_take G hG 200 310 I2 J2 _ h) 2 gX11_cutBehind_X4_take rfl (by decide +kernel) (by rw [hX]; exact ⟨Nat.le_of_ble_eq_true rfl, Nat.le_of_ble_eq_true rfl⟩) rfl (Nat.le_of_ble_eq_true rfl) rfl rfl rfl dX11_cutBehind_23 (kk_sV (fun I3 J3 h => ?_))
  refine wz_aload_n C rfl rfl dX11_cutBehind_26 ?_
  refine wz_getR C (j := 113) f_X11_cutBehind_73 (sOc hz rfl) (by decide) dX11_cutBehind_27 ?_
  refine wz_getI C rfl f_X11_cutBehind_357 (sOc hz rfl) dX11_cutBehind_30 ?_
  exact wz_iret C dX11_cutBehind_33 ⟨_, rfl, h⟩
