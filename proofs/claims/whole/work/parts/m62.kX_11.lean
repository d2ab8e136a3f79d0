theorem in_X11_steps_X11 : ∀ w ∈ wsX110, w ∈ wsX11_steps := by decide +kernel
theorem f_X11_steps_66 : FLk wsX11_steps RX11 66 11 11 := flk 11 11 rfl tyX11_ok nmX11 in_X11_steps_X11 (by decide) (by decide +kernel)
theorem f_X11_steps_53 : FLk wsX11_steps RX11 53 11 7 := flk 11 7 rfl tyX11_ok nmX11 in_X11_steps_X11 (by decide) (by decide +kernel)
def rm_X11_steps : Room := { frames := 5, cells := 0, slots := 0, locals := 132 }
set_option maxHeartbeats 4000000 in
set_option maxRecDepth 100000 in
theorem k_X11_steps (G : KG) (hG : Kok G) (l1 : Int) (I : Ii) (J : Jj) (Q : Int → Ii → Jj → Prop) (h : wp_X11_steps l1 I J Q) : Ctr G yX11_steps wsX11_steps rm_X11_steps [.ref (kadr G 100), .int (iZ l1)] (I, J) (QsI Q) := by
  unfold wp_X11_steps at h
  skip
  refine Ctr.ofZ (cc := cX11_steps) (nL := 2) (ret := (some .int)) [some (.ref (kadr G 100)), some (.int (iZ l1))] hG (by decide +kernel) rfl (Nat.le_of_ble_eq_true rfl) (Nat.le_of_ble_eq_true rfl) (by simp [lvA, lv_args, Value.category]) ?_
  intro X hX C
  refine wz_aload_n C rfl rfl dX11_steps_0 ?_
  refine wz_iload_n C rfl rfl dX11_steps_1 ?_
  refine wm_callV C (o := 100) (As := [.int (iZ l1)]) (st := []) (a' := 0) (b' := 0) rfl rfl (k_X11_isStepCount G hG l1 I J _ h) 1 gX11_steps_X11_isStepCount rfl (by decide +kernel) (by rw [hX]; exact ⟨Nat.le_of_ble_eq_true rfl, Nat.le_of_ble_eq_true rfl⟩) rfl (Nat.le_of_ble_eq_true rfl) rfl rfl rfl dX11_steps_2 (kk_sB (fun v1 I1 J1 hb1 h => ?_))
  refine wz_if_ne C (tgt := 19) (rgB hb1) dX11_steps_5 (by decide) (fun c => ?_) (fun c => ?_)
  · replace h := h.1 c
    refine wz_aload_n C rfl rfl dX11_steps_19 ?_
    refine wz_getR C (j := 111) f_X11_steps_66 rfl dX11_steps_20 ?_
    refine wz_aload_n C rfl rfl dX11_steps_23 ?_
    refine wz_getR C (j := 300) f_X11_steps_53 rfl dX11_steps_24 ?_
    refine wm_callV C (o := 111) (As := [.ref (kadr G 300)]) (st := []) (a' := 0) (b' := 0) rfl rfl (k_X3_keep G hG 300 I1 J1 _ h) 1 gX11_steps_X3_keep rfl (by decide +kernel) (by rw [hX]; exact ⟨Nat.le_of_ble_eq_true rfl, Nat.le_of_ble_eq_true rfl⟩) rfl (Nat.le_of_ble_eq_true rfl) rfl rfl rfl dX11_steps_27 (kk_sV (fun I2 J2 h => ?_))
    refine wz_aload_n C rfl rfl dX11_steps_30 ?_
    refine wz_aload_n C rfl rfl dX11_steps_31 ?_
    refine wz_getR C (j := 300) f_X11_steps_53 rfl dX11_steps_32 ?_
    refine wz_iload_n C rfl rfl dX11_steps_35 ?_
    refine wm_callV C (o := 100) (As := [.ref (kadr G 300), .int (iZ l1)]) (st := []) (a' := 0) (b' := 0) rfl rfl (k_X11_makeSteps G hG 300 l1 I2 J2 _ h) 2 gX11_steps_X11_makeSteps rfl (by decide +kernel) (by rw [hX]; exact ⟨Nat.le_of_ble_eq_true rfl, Nat.le_of_ble_eq_true rfl⟩) rfl (Nat.le_of_ble_eq_true rfl) rfl rfl rfl dX11_steps_36 (kk_sI (fun v3 I3 J3 h => ?_))
    exact wz_iret C dX11_steps_39 ⟨_, rfl, h⟩
  · replace h := h.2 c
    exact False.elim h
theorem in_X11_placeBest_X11 : ∀ w ∈ wsX110, w ∈ wsX11_placeBest := by decide +kernel
theorem f_X11_placeBest_66 : FLk wsX11_placeBest RX11 66 11 11 := flk 11 11 rfl tyX11_ok nmX11 in_X11_placeBest_X11 (by decide) (by decide +kernel)
theorem f_X11_placeBest_53 : FLk wsX11_placeBest RX11 53 11 7 := flk 11 7 rfl tyX11_ok nmX11 in_X11_placeBest_X11 (by decide) (by decide +kernel)
def rm_X11_placeBest : Room := { frames := 5, cells := 0, slots := 0, locals := 154 }
set_option maxHeartbeats 4000000 in
set_option maxRecDepth 100000 in
theorem k_X11_placeBest (G : KG) (hG : Kok G) (I : Ii) (J : Jj) (Q : Int → Ii → Jj → Prop) (h : wp_X11_placeBest I J Q) : Ctr G yX11_placeBest wsX11_placeBest rm_X11_placeBest [.ref (kadr G 100)] (I, J) (QsI Q) := by
  unfold wp_X11_placeBest at h
  skip
  refine Ctr.ofZ (cc := cX11_placeBest) (nL := 1) (ret := (some .int)) [some (.ref (kadr G 100))] hG (by decide +kernel) rfl (Nat.le_of_ble_eq_true rfl) (Nat.le_of_ble_eq_true rfl) (by simp [lvA, lv_args, Value.category]) ?_
  intro X hX C
  refine wz_aload_n C rfl rfl dX11_placeBest_0 ?_
  refine wm_callV C (o := 100) (As := []) (st := []) (a' := 0) (b' := 0) rfl rfl (k_X11_hasFewGroups G hG I J _ h) 0 gX11_placeBest_X11_hasFewGroups rfl (by decide +kernel) (by rw [hX]; exact ⟨Nat.le_of_ble_eq_true rfl, Nat.le_of_ble_eq_true rfl⟩) rfl (Nat.le_of_ble_eq_true rfl) rfl rfl rfl dX11_placeBest_1 (kk_sB (fun v1 I1 J1 hb1 h => ?_))
  refine wz_if_ne C (tgt := 18) (rgB hb1) dX11_placeBest_4 (by decide) (fun c => ?_) (fun c => ?_)
  · replace h := h.1 c
    refine wz_aload_n C rfl rfl dX11_placeBest_18 ?_
    refine wz_getR C (j := 111) f_X11_placeBest_66 rfl dX11_placeBest_19 ?_
    refine wz_aload_n C rfl rfl dX11_placeBest_22 ?_
    refine wz_getR C (j := 300) f_X11_placeBest_53 rfl dX11_placeBest_23 ?_
    refine wm_callV C (o := 111) (As := [.ref (kadr G 300)]) (st := []) (a' := 0) (b' := 0) rfl rfl (k_X3_keep G hG 300 I1 J1 _ h) 1 gX11_placeBest_X3_keep rfl (by decide +kernel) (by rw [hX]; exact ⟨Nat.le_of_ble_eq_true rfl, Nat.le_of_ble_eq_true rfl⟩) rfl (Nat.le_of_ble_eq_true rfl) rfl rfl rfl dX11_placeBest_26 (kk_sV (fun I2 J2 h => ?_))
    refine wz_aload_n C rfl rfl dX11_placeBest_29 ?_
    refine wm_callV C (o := 100) (As := []) (st := []) (a' := 0) (b' := 0) rfl rfl (k_X11_searchBest G hG I2 J2 _ h) 0 gX11_placeBest_X11_searchBest rfl (by decide +kernel) (by rw [hX]; exact ⟨Nat.le_of_ble_eq_true rfl, Nat.le_of_ble_eq_true rfl⟩) rfl (Nat.le_of_ble_eq_true rfl) rfl rfl rfl dX11_placeBest_30 (kk_sV (fun I3 J3 h => ?_))
    refine wz_aload_n C rfl rfl dX11_placeBest_33 ?_
    refine wm_callV C (o := 100) (As := []) (st := []) (a' := 0) (b' := 0) rfl rfl (k_X11_takeBest G hG I3 J3 _ h) 0 gX11_placeBest_X11_takeBest rfl (by decide +kernel) (by rw [hX]; exact ⟨Nat.le_of_ble_eq_true rfl, Nat.le_of_ble_eq_true rfl⟩) rfl (Nat.le_of_ble_eq_true rfl) rfl rfl rfl dX11_placeBest_34 (kk_sI (fun v4 I4 J4 h => ?_))
    exact wz_iret C dX11_placeBest_37 ⟨_, rfl, h⟩
  · replace h := h.2 c
    exact False.elim h
theorem in_X11_placeApart_X11 : ∀ w ∈ wsX110, w ∈ wsX11_placeApart := by decide +kernel
theorem f_X11_placeApart_66 : FLk wsX11_placeApart RX11 66 11 11 := flk 11 11 rfl tyX11_ok nmX11 in_X11_placeApart_X11 (by decide) (by decide +kernel)
theorem f_X11_placeApart_53 : FLk wsX11_placeApart RX11 53 11 7 := flk 11 7 rfl tyX11_ok nmX11 in_X11_placeApart_X11 (by decide) (by decide +kernel)
def rm_X11_placeApart : Room := { frames := 5, cells := 0, slots := 0, locals := 155 }
set_option maxHeartbeats 4000000 in
set_option maxRecDepth 100000 in
theorem k_X11_placeApart (G : KG) (hG : Kok G) (l1 : Int) (l2 : Int) (I : Ii) (J : Jj) (Q : Int → Ii → Jj → Prop) (h : wp_X11_placeApart l1 l2 I J Q) : Ctr G yX11_placeApart wsX11_placeApart rm_X11_placeApart [.ref (kadr G 100), .int (iZ l1), .int (iZ l2)] (I, J) (QsI Q) := by
  unfold wp_X11_placeApart at h
  skip
  refine Ctr.ofZ (cc := cX11_placeApart) (nL := 3) (ret := (some .int)) [some (.ref (kadr G 100)), some (.int (iZ l1)), some (.int (iZ l2))] hG (by decide +kernel) rfl (Nat.le_of_ble_eq_true rfl) (Nat.le_of_ble_eq_true rfl) (by simp [lvA, lv_args, Value.category]) ?_
  intro X hX C
  refine wz_aload_n C rfl rfl dX11_placeApart_0 ?_
  refine wz_iload_n C rfl rfl dX11_placeApart_1 ?_
  refine wm_callV C (o := 100) (As := [.int (iZ l1)]) (st := []) (a' := 0) (b' := 0) rfl rfl (k_X11_requireVertex G hG l1 I J _ h) 1 gX11_placeApart_X11_requireVertex rfl (by decide +kernel) (by rw [hX]; exact ⟨Nat.le_of_ble_eq_true rfl, Nat.le_of_ble_eq_true rfl⟩) rfl (Nat.le_of_ble_eq_true rfl) rfl rfl rfl dX11_placeApart_2 (kk_sV (fun I1 J1 h => ?_))
  refine wz_aload_n C rfl rfl dX11_placeApart_5 ?_
  refine wz_iload_n C rfl rfl dX11_placeApart_6 ?_
  refine wm_callV C (o := 100) (As := [.int (iZ l2)]) (st := []) (a' := 0) (b' := 0) rfl rfl (k_X11_requireVertex G hG l2 I1 J1 _ h) 1 gX11_placeApart_X11_requireVertex rfl (by decide +kernel) (by rw [hX]; exact ⟨Nat.le_of_ble_eq_true rfl, Nat.le_of_ble_eq_true rfl⟩) rfl (Nat.le_of_ble_eq_true rfl) rfl rfl rfl dX11_placeApart_7 (kk_sV (fun I2 J2 h => ?_))
  refine wz_iload_n C rfl rfl dX11_placeApart_10 ?_
  refine wz_iload_n C rfl rfl dX11_placeApart_11 ?_
  obtain ⟨g3, h⟩ := h
  obtain ⟨g4, h⟩ := h
  refine wz_icmp_ne C (tgt := 26) g3 g4 dX11_placeApart_12 (by decide) (fun c => ?_) (fun c => ?_)
  · replace h := h.1 c
    refine wz_aload_n C rfl rfl dX11_placeApart_26 ?_
    refine wm_callV C (o := 100) (As := []) (st := []) (a' := 0) (b' := 0) rfl rfl (k_X11_canTakeApart G hG I2 J2 _ h) 0 gX11_placeApart_X11_canTakeApart rfl (by decide +kernel) (by rw [hX]; exact ⟨Nat.le_of_ble_eq_true rfl, Nat.le_of_ble_eq_true rfl⟩) rfl (Nat.le_of_ble_eq_true rfl) rfl rfl rfl dX11_placeApart_27 (kk_sB (fun v5 I5 J5 hb5 h => ?_))
    refine wz_if_ne C (tgt := 44) (rgB hb5) dX11_placeApart_30 (by decide) (fun c => ?_) (fun c => ?_)
    · replace h := h.1 c
      refine wz_aload_n C rfl rfl dX11_placeApart_44 ?_
      refine wz_getR C (j := 111) f_X11_placeApart_66 rfl dX11_placeApart_45 ?_
      refine wz_aload_n C rfl rfl dX11_placeApart_48 ?_
      refine wz_getR C (j := 300) f_X11_placeApart_53 rfl dX11_placeApart_49 ?_
      refine wm_callV C (o := 111) (As := [.ref (kadr G 300)]) (st := []) (a' := 0) (b' := 0) rfl rfl (k_X3_keep G hG 300 I5 J5 _ h) 1 gX11_placeApart_X3_keep rfl (by decide +kernel) (by rw [hX]; exact ⟨Nat.le_of_ble_eq_true rfl, Nat.le_of_ble_eq_true rfl⟩) rfl (Nat.le_of_ble_eq_true rfl) rfl rfl rfl dX11_placeApart_52 (kk_sV (fun I6 J6 h => ?_))
      refine wz_aload_n C rfl rfl dX11_placeApart_55 ?_
      refine wz_iload_n C rfl rfl dX11_placeApart_56 ?_
      refine wz_iload_n C rfl rfl dX11_placeApart_57 ?_
      refine wm_callV C (o := 100) (As := [.int (iZ l1), .int (iZ l2)]) (st := []) (a' := 0) (b' := 0) rfl rfl (k_X11_takeApart G hG l1 l2 I6 J6 _ h) 2 gX11_placeApart_X11_takeApart rfl (by decide +kernel) (by rw [hX]; exact ⟨Nat.le_of_ble_eq_true rfl, Nat.le_of_ble_eq_true rfl⟩) rfl (Nat.le_of_ble_eq_true rfl) rfl rfl rfl dX11_placeApart_58 (kk_sI (fun v7 I7 J7 h => ?_))
      exact wz_iret C dX11_placeApart_61 ⟨_, rfl, h⟩
    · replace h := h.2 c
      exact False.elim h
  · replace h := h.2 c
    exact False.elim h
theorem in_X11_setCredit_X11 : ∀ w ∈ wsX110, w ∈ wsX11_setCredit := by decide +kernel
theorem in_X11_setCredit_X8 : ∀ w ∈ wsX80, w ∈ wsX11_setCredit := by decide +kernel
theorem f_X11_setCredit_66 : FLk wsX11_setCredit RX11 66 11 11 := flk 11 11 rfl tyX11_ok nmX11 in_X11_setCredit_X11 (by decide) (by decide +kernel)
theorem f_X11_setCredit_53 : FLk wsX11_setCredit RX11 53 11 7 := flk 11 7 rfl tyX11_ok nmX11 in_X11_setCredit_X11 (by decide) (by decide +kernel)
theorem f_X11_setCredit_245 : FLk wsX11_setCredit RX11 245 8 1 := flk 8 1 rfl tyX8_ok nmX8 in_X11_setCredit_X8 (by decide) (by decide +kernel)
def rm_X11_setCredit : Room := { frames := 4, cells := 0, slots := 0, locals := 124 }
set_option maxHeartbeats 4000000 in
set_option maxRecDepth 100000 in
theorem k_X11_setCredit (G : KG) (hG : Kok G) (l1 : Int) (I : Ii) (J : Jj) (Q : Int → Ii → Jj → Prop) (h : wp_X11_setCredit l1 I J Q) : Ctr G yX11_setCredit wsX11_setCredit rm_X11_setCredit [.ref (kadr G 100), .int (iZ l1)] (I, J) (QsI Q) := by
  unfold wp_X11_setCredit at h
  skip
  refine Ctr.ofZ (cc := cX11_setCredit) (nL := 3) (ret := (some .int)) [some (.ref (kadr G 100)), some (.int (iZ l1)), none] hG (by decide +kernel) rfl (Nat.le_of_ble_eq_true rfl) (Nat.le_of_ble_eq_true rfl) (by simp [lvA, lv_args, Value.category]) ?_
  intro X hX C
  refine wz_aload_n C rfl rfl dX11_setCredit_0 ?_
  refine wz_iload_n C rfl rfl dX11_setCredit_1 ?_
  refine wm_callV C (o := 100) (As := [.int (iZ l1)]) (st := []) (a' := 0) (b' := 0) rfl rfl (k_X11_isAllowance G hG l1 I J _ h) 1 gX11_setCredit_X11_isAllowance rfl (by decide +kernel) (by rw [hX]; exact ⟨Nat.le_of_ble_eq_true rfl, Nat.le_of_ble_eq_true rfl⟩) rfl (Nat.le_of_ble_eq_true rfl) rfl rfl rfl dX11_setCredit_2 (kk_sB (fun v1 I1 J1 hb1 h => ?_))
  refine wz_if_ne C (tgt := 19) (rgB hb1) dX11_setCredit_5 (by decide) (fun c => ?_) (fun c => ?_)
  · replace h := h.1 c
    refine wz_aload_n C rfl rfl dX11_setCredit_19 ?_
    refine wz_getR C (j := 111) f_X11_setCredit_66 rfl dX11_setCredit_20 ?_
    refine wz_aload_n C rfl rfl dX11_setCredit_23 ?_
    refine wz_getR C (j := 300) f_X11_setCredit_53 rfl dX11_setCredit_24 ?_
    refine wm_callV C (o := 111) (As := [.ref (kadr G 300)]) (st := []) (a' := 0) (b' := 0) rfl rfl (k_X3_keep G hG 300 I1 J1 _ h) 1 gX11_setCredit_X3_keep rfl (by decide +kernel) (by rw [hX]; exact ⟨Nat.le_of_ble_eq_true rfl, Nat.le_of_ble_eq_true rfl⟩) rfl (Nat.le_of_ble_eq_true rfl) rfl rfl rfl dX11_setCredit_27 (kk_sV (fun I2 J2 h => ?_))
    refine wz_aload_n C rfl rfl dX11_setCredit_30 ?_
    refine wz_getR C (j := 300) f_X11_setCredit_53 rfl dX11_setCredit_31 ?_
    refine wz_getI C rfl f_X11_setCredit_245 rfl dX11_setCredit_34 ?_
    refine wz_istore_2 C rfl dX11_setCredit_37 ?_
    refine wz_aload_n C rfl rfl dX11_setCredit_38 ?_
    refine wz_getR C (j := 300) f_X11_setCredit_53 rfl dX11_setCredit_39 ?_
    refine wz_iload_n C rfl rfl dX11_setCredit_42 ?_
    refine wd_putI C f_X11_setCredit_245 fp_X8_1 rfl dX11_setCredit_43 (fun I3 e => ?_)
    replace h := h I3 e
    refine wz_iload_n C rfl rfl dX11_setCredit_46 ?_
    exact wz_iret C dX11_setCredit_47 ⟨_, rfl, h⟩
  · replace h := h.2 c
    exact False.elim h
theorem in_X11_report_X11 : ∀ w ∈ wsX110, w ∈ wsX11_report := by decide +kernel
theorem in_X11_report_X2 : ∀ w ∈ wsX20, w ∈ wsX11_report := by decide +kernel
theorem in_X11_report_X8 : ∀ w ∈ wsX80, w ∈ wsX11_report := by decide +kernel
theorem f_X11_report_495 : FLk wsX11_report RX11 495 11 17 := flk 11 17 rfl tyX11_ok nmX11 in_X11_report_X11 (by decide) (by decide +kernel)
theorem f_X11_report_40 : FLk wsX11_report RX11 40 11 4 := flk 11 4 rfl tyX11_ok nmX11 in_X11_report_X11 (by decide) (by decide +kernel)
theorem f_X11_report_262 : FLk wsX11_report RX11 262 2 2 := flk 2 2 rfl tyX2_ok nmX2 in_X11_report_X2 (by decide) (by decide +kernel)
theorem f_X11_report_141 : FLk wsX11_report RX11 141 2 0 := flk 2 0 rfl tyX2_ok nmX2 in_X11_report_X2 (by decide) (by decide +kernel)
theorem f_X11_report_53 : FLk wsX11_report RX11 53 11 7 := flk 11 7 rfl tyX11_ok nmX11 in_X11_report_X11 (by decide) (by decide +kernel)
theorem f_X11_report_315 : FLk wsX11_report RX11 315 8 3 := flk 8 3 rfl tyX8_ok nmX8 in_X11_report_X8 (by decide) (by decide +kernel)
def rm_X11_report : Room := { frames := 3, cells := 0, slots := 0, locals := 69 }
set_option maxHeartbeats 4000000 in
set_option maxRecDepth 100000 in
theorem lk_X11_report_39 (G : KG) (hG : Kok G) (X : KX) (hX : KR X = rm_X11_report) (C : Fr G X cX11_report 4 yX11_report.cls (some .int) wsX11_report) (Q : Int → Ii → Jj → Prop) (r12 : Int → Int → Ii → Jj → Prop) (w12 : ∀ (l1 : Int) (l2 : Int) (I : Ii) (J : Jj), r12 l1 l2 I J → Wz G X 4 (QsU G X (QsI Q)) 0 0 12 [some (.ref (kadr G 100)), some (.int (iZ l1)), some (.int (iZ l2)), none] [] I J) : ∀ (n : Nat) (l1 : Int) (l2 : Int) (l3 : Int) (I : Ii) (J : Jj), L_X11_report_39 Q r12 n l1 l2 l3 I J → Wz G X 4 (QsU G X (QsI Q)) 0 0 39 [some (.ref (kadr G 100)), some (.int (iZ l1)), some (.int (iZ l2)), some (.int (iZ l3))] [] I J := by
  intro n
  induction n with
  | zero => intro l1 l2 l3 I J h; exact False.elim h
  | succ n w39 =>
    intro l1 l2 l3 I J h
    have h : Lb_X11_report_39 Q r12 (L_X11_report_39 Q r12 n) l1 l2 l3 I J := h
    unfold Lb_X11_report_39 at h
    generalize L_X11_report_39 Q r12 n = r39 at h w39
    refine wz_iload_n C rfl rfl dX11_report_39 ?_
    refine wz_aload_n C rfl rfl dX11_report_40 ?_
    refine wz_getR C (j := 200) f_X11_report_40 rfl dX11_report_41 ?_
    refine wz_getI C rfl f_X11_report_141 rfl dX11_report_44 ?_
    obtain ⟨g7, h⟩ := h
    obtain ⟨g8, h⟩ := h
    refine wz_icmp_ge C (tgt := 81) g7 g8 dX11_report_47 (by decide) (fun c => ?_) (fun c => ?_)
    · replace h := h.1 c
      refine wz_aload_n C rfl rfl dX11_report_81 ?_
      refine wz_bipush C (by decide) dX11_report_82 ?_
      refine wm_callV C (o := 100) (As := [.int (iZ 10)]) (st := []) (a' := 0) (b' := 0) rfl rfl (k_X11_write G hG 10 I J _ h) 1 gX11_report_X11_write rfl (by decide +kernel) (by rw [hX]; exact ⟨Nat.le_of_ble_eq_true rfl, Nat.le_of_ble_eq_true rfl⟩) rfl (Nat.le_of_ble_eq_true rfl) rfl rfl rfl dX11_report_84 (kk_sV (fun I9 J9 h => ?_))
      refine wz_iinc_2 C rfl dX11_report_87 ?_
      refine wz_goto C dX11_report_90 (tgt := 12) (by decide) ?_
      exact Wz.drop (w12 l1 (l2 + 1) I9 J9 h) (And.intro rfl (And.intro rfl (And.intro rfl trivial)))
    · replace h := h.2 c
      refine wz_aload_n C rfl rfl dX11_report_50 ?_
      refine wz_getR C (j := 300) f_X11_report_53 rfl dX11_report_51 ?_
      refine wz_getR C (j := 301) f_X11_report_315 rfl dX11_report_54 ?_
      refine wz_iload_n C rfl rfl dX11_report_57 ?_
      refine wm_callS C (As := [.ref (kadr G 301), .int (iZ l3)]) (st := []) (a' := 0) (b' := 0) (k_X11_at G hG 301 l3 I J _ h) 2 gX11_report_X11_at rfl (by decide +kernel) (by rw [hX]; exact ⟨Nat.le_of_ble_eq_true rfl, Nat.le_of_ble_eq_true rfl⟩) rfl (Nat.le_of_ble_eq_true rfl) rfl rfl rfl dX11_report_58 (kk_sI (fun v10 I10 J10 h => ?_))
      refine wz_iload_n C rfl rfl dX11_report_61 ?_
      obtain ⟨g11, h⟩ := h
      obtain ⟨g12, h⟩ := h
      refine wz_icmp_ne C (tgt := 75) g11 g12 dX11_report_62 (by decide) (fun c => ?_) (fun c => ?_)
      · replace h := h.1 c
        refine wz_iinc_3 C rfl dX11_report_75 ?_
        refine wz_goto C dX11_report_78 (tgt := 39) (by decide) ?_
        exact w39 l1 l2 (l3 + 1) I10 J10 h
      · replace h := h.2 c
        refine wz_aload_n C rfl rfl dX11_report_65 ?_
        refine wz_iload_n C rfl rfl dX11_report_66 ?_
        refine wz_iload_n C rfl rfl dX11_report_67 ?_
        refine wz_iload_n C rfl rfl dX11_report_68 ?_
        refine wm_callS C (As := [.int (iZ l1), .int (iZ l3)]) (st := [.int (iZ l3), .ref (kadr G 100)]) (a' := 0) (b' := 0) (k_X11_isIn G hG l1 l3 I10 J10 _ h) 2 gX11_report_X11_isIn rfl (by decide +kernel) (by rw [hX]; exact ⟨Nat.le_of_ble_eq_true rfl, Nat.le_of_ble_eq_true rfl⟩) rfl (Nat.le_of_ble_eq_true rfl) rfl rfl rfl dX11_report_69 (kk_sB (fun v13 I13 J13 hb13 h => ?_))
        refine wm_callV C (o := 100) (As := [.int (iZ l3), .int (iZ v13)]) (st := []) (a' := 0) (b' := 0) rfl rfl (k_X11_writeVertex G hG l3 v13 I13 J13 _ h) 2 gX11_report_X11_writeVertex rfl (by decide +kernel) (by rw [hX]; exact ⟨Nat.le_of_ble_eq_true rfl, Nat.le_of_ble_eq_true rfl⟩) rfl (Nat.le_of_ble_eq_true rfl) rfl rfl rfl dX11_report_72 (kk_sV (fun I14 J14 h => ?_))
        refine wz_iinc_3 C rfl dX11_report_75 ?_
        refine wz_goto C dX11_report_78 (tgt := 39) (by decide) ?_
        exact w39 l1 l2 (l3 + 1) I14 J14 h
set_option maxHeartbeats 4000000 in
set_option maxRecDepth 100000 in
theorem lk_X11_report_12 (G : KG) (hG : Kok G) (X : KX) (hX : KR X = rm_X11_report) (C : Fr G X cX11_report 4 yX11_report.cls (some .int) wsX11_report) (Q : Int → Ii → Jj → Prop) : ∀ (n : Nat) (l1 : Int) (l2 : Int) (I : Ii) (J : Jj), L_X11_report_12 Q n l1 l2 I J → Wz G X 4 (QsU G X (QsI Q)) 0 0 12 [some (.ref (kadr G 100)), some (.int (iZ l1)), some (.int (iZ l2)), none] [] I J := by
  intro n
  induction n with
  | zero => intro l1 l2 I J h; exact False.elim h
  | succ n w12 =>
    intro l1 l2 I J h
    have h : Lb_X11_report_12 Q (L_X11_report_12 Q n) l1 l2 I J := h
    unfold Lb_X11_report_12 at h
    generalize L_X11_report_12 Q n = r12 at h w12
    refine wz_iload_n C rfl rfl dX11_report_12 ?_
    refine wz_aload_n C rfl rfl dX11_report_13 ?_
    refine wz_getR C (j := 200) f_X11_report_40 rfl dX11_report_14 ?_
    refine wz_getI C rfl f_X11_report_262 rfl dX11_report_17 ?_
    obtain ⟨g3, h⟩ := h
    obtain ⟨g4, h⟩ := h
    refine wz_icmp_ge C (tgt := 93) g3 g4 dX11_report_20 (by decide) (fun c => ?_) (fun c => ?_)
    · replace h := h.1 c
      refine wz_aload_n C rfl rfl dX11_report_93 ?_
      refine wz_getI C rfl f_X11_report_495 rfl dX11_report_94 ?_
      exact wz_iret C dX11_report_97 ⟨_, rfl, h⟩
    · replace h := h.2 c
      refine wz_aload_n C rfl rfl dX11_report_23 ?_
      refine wz_bipush C (by decide) dX11_report_24 ?_
      refine wz_iload_n C rfl rfl dX11_report_26 ?_
      refine wz_iadd C dX11_report_27 ?_
      refine wm_callV C (o := 100) (As := [.int (iZ (48 + l2))]) (st := []) (a' := 0) (b' := 0) rfl rfl (k_X11_write G hG (48 + l2) I J _ h) 1 gX11_report_X11_write rfl (by decide +kernel) (by rw [hX]; exact ⟨Nat.le_of_ble_eq_true rfl, Nat.le_of_ble_eq_true rfl⟩) rfl (Nat.le_of_ble_eq_true rfl) rfl rfl rfl dX11_report_28 (kk_sV (fun I5 J5 h => ?_))
      refine wz_aload_n C rfl rfl dX11_report_31 ?_
      refine wz_bipush C (by decide) dX11_report_32 ?_
      refine wm_callV C (o := 100) (As := [.int (iZ 58)]) (st := []) (a' := 0) (b' := 0) rfl rfl (k_X11_write G hG 58 I5 J5 _ h) 1 gX11_report_X11_write rfl (by decide +kernel) (by rw [hX]; exact ⟨Nat.le_of_ble_eq_true rfl, Nat.le_of_ble_eq_true rfl⟩) rfl (Nat.le_of_ble_eq_true rfl) rfl rfl rfl dX11_report_34 (kk_sV (fun I6 J6 h => ?_))
      refine wz_iconst C dX11_report_37 ?_
      refine wz_istore_3 C rfl dX11_report_38 ?_
      obtain ⟨n, h⟩ := h
      exact lk_X11_report_39 G hG X hX C Q r12 w12 n l1 l2 0 I6 J6 h
set_option maxHeartbeats 4000000 in
set_option maxRecDepth 100000 in
theorem k_X11_report (G : KG) (hG : Kok G) (I : Ii) (J : Jj) (Q : Int → Ii → Jj → Prop) (h : wp_X11_report I J Q) : Ctr G yX11_report wsX11_report rm_X11_report [.ref (kadr G 100)] (I, J) (QsI Q) := by
  unfold wp_X11_report at h
  skip
  refine Ctr.ofZ (cc := cX11_report) (nL := 4) (ret := (some .int)) [some (.ref (kadr G 100)), none, none, none] hG (by decide +kernel) rfl (Nat.le_of_ble_eq_true rfl) (Nat.le_of_ble_eq_true rfl) (by simp [lvA, lv_args, Value.category]) ?_
  intro X hX C
  refine wz_aload_n C rfl rfl dX11_report_0 ?_
  refine wm_callV C (o := 100) (As := []) (st := []) (a' := 0) (b' := 0) rfl rfl (k_X11_border G hG I J _ h) 0 gX11_report_X11_border rfl (by decide +kernel) (by rw [hX]; exact ⟨Nat.le_of_ble_eq_true rfl, Nat.le_of_ble_eq_true rfl⟩) rfl (Nat.le_of_ble_eq_true rfl) rfl rfl rfl dX11_report_1 (kk_sI (fun v1 I1 J1 h => ?_))
  refine wz_istore_1 C rfl dX11_report_4 ?_
  refine wz_aload_n C rfl rfl dX11_report_5 ?_
  refine wz_iconst C dX11_report_6 ?_
  refine wd_putI C f_X11_report_495 fp_X11_17 rfl dX11_report_7 (fun I2 e => ?_)
  replace h := h I2 e
  refine wz_iconst C dX11_report_10 ?_
  refine wz_istore_2 C rfl dX11_report_11 ?_
  obtain ⟨n, h⟩ := h
  exact lk_X11_report_12 G hG X hX C Q n v1 0 I2 J1 h
theorem in_X11_undo_X11 : ∀ w ∈ wsX110, w ∈ wsX11_undo := by decide +kernel
theorem in_X11_undo_X3 : ∀ w ∈ wsX30, w ∈ wsX11_undo := by decide +kernel
theorem f_X11_undo_66 : FLk wsX11_undo RX11 66 11 11 := flk 11 11 rfl tyX11_ok nmX11 in_X11_undo_X11 (by decide) (by decide +kernel)
theorem f_X11_undo_53 : FLk wsX11_undo RX11 53 11 7 := flk 11 7 rfl tyX11_ok nmX11 in_X11_undo_X11 (by decide) (by decide +kernel)
theorem f_X11_undo_280 : FLk wsX11_undo RX11 280 3 2 := flk 3 2 rfl tyX3_ok nmX3 in_X11_undo_X3 (by decide) (by decide +kernel)
def rm_X11_undo : Room := { frames := 4, cells := 0, slots := 0, locals := 124 }
set_option maxHeartbeats 4000000 in
set_option maxRecDepth 100000 in
theorem k_X11_undo (G : KG) (hG : Kok G) (I : Ii) (J : Jj) (Q : Int → Ii → Jj → Prop) (h : wp_X11_undo I J Q) : Ctr G yX11_undo wsX11_undo rm_X11_undo [.ref (kadr G 100)] (I, J) (QsI Q) := by
  unfold wp_X11_undo at h
  skip
  refine Ctr.ofZ (cc := cX11_undo) (nL := 1) (ret := (some .int)) [some (.ref (kadr G 100))] hG (by decide +kernel) rfl (Nat.le_of_ble_eq_true rfl) (Nat.le_of_ble_eq_true rfl) (by simp [lvA, lv_args, Value.category]) ?_
  intro X hX C
  refine wz_aload_n C rfl rfl dX11_undo_0 ?_
  refine wz_getR C (j := 111) f_X11_undo_66 rfl dX11_undo_1 ?_
  refine wz_aload_n C rfl rfl dX11_undo_4 ?_
  refine wz_getR C (j := 300) f_X11_undo_53 rfl dX11_undo_5 ?_
  refine wm_callV C (o := 111) (As := [.ref (kadr G 300)]) (st := []) (a' := 0) (b' := 0) rfl rfl (k_X3_takeBack G hG 300 I J _ h) 1 gX11_undo_X3_takeBack rfl (by decide +kernel) (by rw [hX]; exact ⟨Nat.le_of_ble_eq_true rfl, Nat.le_of_ble_eq_true rfl⟩) rfl (Nat.le_of_ble_eq_true rfl) rfl rfl rfl dX11_undo_8 (kk_sB (fun v1 I1 J1 hb1 h => ?_))
  refine wz_if_eq C (tgt := 24) (rgB hb1) dX11_undo_11 (by decide) (fun c => ?_) (fun c => ?_)
  · replace h := h.1 c
    refine wz_iconst C dX11_undo_24 ?_
    exact wz_iret C dX11_undo_25 ⟨_, rfl, h⟩
  · replace h := h.2 c
    refine wz_aload_n C rfl rfl dX11_undo_14 ?_
    refine wz_getR C (j := 111) f_X11_undo_66 rfl dX11_undo_15 ?_
    refine wz_getI C rfl f_X11_undo_280 rfl dX11_undo_18 ?_
    refine wz_goto C dX11_undo_21 (tgt := 25) (by decide) ?_
    exact wz_iret C dX11_undo_25 ⟨_, rfl, h⟩
theorem in_X7_readApart_X10 : ∀ w ∈ wsX100, w ∈ wsX7_readApart := by decide +kernel
theorem f_X7_readApart_119 : FLk wsX7_readApart RX7 119 10 6 := flk 10 6 rfl tyX10_ok nmX10 in_X7_readApart_X10 (by decide) (by decide +kernel)
def rm_X7_readApart : Room := { frames := 4, cells := 0, slots := 0, locals := 85 }
set_option maxHeartbeats 4000000 in
set_option maxRecDepth 100000 in
theorem k_X7_readApart (G : KG) (hG : Kok G) (k3 : Nat) (I : Ii) (J : Jj) (Q : Int → Ii → Jj → Prop) (h : wp_X7_readApart k3 I J Q) : Ctr G yX7_readApart wsX7_readApart rm_X7_readApart [.ref (kadr G 104), .ref (kadr G 101), .ref (kadr G 106), .ref (kadr G k3)] (I, J) (QsB Q) := by
  unfold wp_X7_readApart at h
  obtain ⟨hk3, h⟩ := h
  refine Ctr.ofZ (cc := cX7_readApart) (nL := 5) (ret := (some .boolean)) [some (.ref (kadr G 104)), some (.ref (kadr G 101)), some (.ref (kadr G 106)), some (.ref (kadr G k3)), none] hG (by decide +kernel) rfl (Nat.le_of_ble_eq_true rfl) (Nat.le_of_ble_eq_true rfl) (by simp [lvA, lv_args, Value.category]) ?_
  intro X hX C
  refine wz_aload_n C rfl rfl dX7_readApart_0 ?_
  refine wz_aload_n C rfl rfl dX7_readApart_1 ?_
  refine wz_aload_n C rfl rfl dX7_readApart_2 ?_
  refine wm_callV C (o := 104) (As := [.ref (kadr G 101), .ref (kadr G k3)]) (st := []) (a' := 0) (b' := 0) rfl rfl (k_X7_takesVertex G hG k3 I J _ h) 2 gX7_readApart_X7_takesVertex rfl (by decide +kernel) (by rw [hX]; exact ⟨Nat.le_of_ble_eq_true rfl, Nat.le_of_ble_eq_true rfl⟩) rfl (Nat.le_of_ble_eq_true rfl) rfl rfl rfl dX7_readApart_3 (kk_sB (fun v1 I1 J1 hb1 h => ?_))
  refine wz_if_ne C (tgt := 11) (rgB hb1) dX7_readApart_6 (by decide) (fun c => ?_) (fun c => ?_)
  · replace h := h.1 c
    refine wz_aload_n C rfl rfl dX7_readApart_11 ?_
    refine wz_aload_n C rfl rfl dX7_readApart_12 ?_
    refine wz_getJ C rfl f_X7_readApart_119 rfl dX7_readApart_13 ?_
    refine wm_callV C (o := k3) (As := [.long (J1 101 6)]) (st := []) (a' := 0) (b' := 0) (spX2 hk3) rfl (k_X2_vertexNamed G hG k3 (J1 101 6) I1 J1 _ h) 1 gX7_readApart_X2_vertexNamed rfl (by decide +kernel) (by rw [hX]; exact ⟨Nat.le_of_ble_eq_true rfl, Nat.le_of_ble_eq_true rfl⟩) rfl (Nat.le_of_ble_eq_true rfl) rfl rfl rfl dX7_readApart_16 (kk_sI (fun v2 I2 J2 h => ?_))
    refine wz_istore_4 C rfl dX7_readApart_19 ?_
    refine wz_aload_n C rfl rfl dX7_readApart_21 ?_
    refine wz_aload_n C rfl rfl dX7_readApart_22 ?_
    refine wz_aload_n C rfl rfl dX7_readApart_23 ?_
    refine wm_callV C (o := 104) (As := [.ref (kadr G 101), .ref (kadr G k3)]) (st := []) (a' := 0) (b' := 0) rfl rfl (k_X7_takesVertex G hG k3 I2 J2 _ h) 2 gX7_readApart_X7_takesVertex rfl (by decide +kernel) (by rw [hX]; exact ⟨Nat.le_of_ble_eq_true rfl, Nat.le_of_ble_eq_true rfl⟩) rfl (Nat.le_of_ble_eq_true rfl) rfl rfl rfl dX7_readApart_24 (kk_sB (fun v3 I3 J3 hb3 h => ?_))
    refine wz_if_ne C (tgt := 32) (rgB hb3) dX7_readApart_27 (by decide) (fun c => ?_) (fun c => ?_)
    · replace h := h.1 c
      refine wz_aload_n C rfl rfl dX7_readApart_32 ?_
      refine wz_bipush C (by decide) dX7_readApart_33 ?_
      refine wz_iload C rfl dX7_readApart_35 ?_
      refine wz_aload_n C rfl rfl dX7_readApart_37 ?_
      refine wz_aload_n C rfl rfl dX7_readApart_38 ?_
      refine wz_getJ C rfl f_X7_readApart_119 rfl dX7_readApart_39 ?_
      refine wm_callV C (o := k3) (As := [.long (J3 101 6)]) (st := [.int (iZ v2), .int (iZ 6), .ref (kadr G 106)]) (a' := 0) (b' := 0) (spX2 hk3) rfl (k_X2_vertexNamed G hG k3 (J3 101 6) I3 J3 _ h) 1 gX7_readApart_X2_vertexNamed rfl (by decide +kernel) (by rw [hX]; exact ⟨Nat.le_of_ble_eq_true rfl, Nat.le_of_ble_eq_true rfl⟩) rfl (Nat.le_of_ble_eq_true rfl) rfl rfl rfl dX7_readApart_42 (kk_sI (fun v4 I4 J4 h => ?_))
      refine wm_callV C (o := 106) (As := [.int (iZ 6), .int (iZ v2), .int (iZ v4)]) (st := []) (a' := 0) (b' := 0) rfl rfl (k_X6_addCommand G hG 6 v2 v4 I4 J4 _ h) 3 gX7_readApart_X6_addCommand rfl (by decide +kernel) (by rw [hX]; exact ⟨Nat.le_of_ble_eq_true rfl, Nat.le_of_ble_eq_true rfl⟩) rfl (Nat.le_of_ble_eq_true rfl) rfl rfl rfl dX7_readApart_45 (kk_sV (fun I5 J5 h => ?_))
      refine wz_iconst C dX7_readApart_48 ?_
      exact wz_zret C (Or.inr rfl) dX7_readApart_49 ⟨_, rfl, (Or.inr rfl), h⟩
    · replace h := h.2 c
      refine wz_iconst C dX7_readApart_30 ?_
      exact wz_zret C (Or.inl rfl) dX7_readApart_31 ⟨_, rfl, (Or.inl rfl), h⟩
  · replace h := h.2 c
    refine wz_iconst C dX7_readApart_9 ?_
    exact wz_zret C (Or.inl rfl) dX7_readApart_10 ⟨_, rfl, (Or.inl rfl), h⟩
theorem in_X11_canPerform_X11 : ∀ w ∈ wsX110, w ∈ wsX11_canPerform := by decide +kernel
theorem in_X11_canPerform_X8 : ∀ w ∈ wsX80, w ∈ wsX11_canPerform := by decide +kernel
theorem f_X11_canPerform_53 : FLk wsX11_canPerform RX11 53 11 7 := flk 11 7 rfl tyX11_ok nmX11 in_X11_canPerform_X11 (by decide) (by decide +kernel)
theorem f_X11_canPerform_192 : FLk wsX11_canPerform RX11 192 8 0 := flk 8 0 rfl tyX8_ok nmX8 in_X11_canPerform_X8 (by decide) (by decide +kernel)
def rm_X11_canPerform : Room := { frames := 5, cells := 0, slots := 0, locals := 118 }
set_option maxHeartbeats 4000000 in
set_option maxRecDepth 100000 in
theorem k_X11_canPerform (G : KG) (hG : Kok G) (l1 : Int) (l2 : Int) (l3 : Int) (I : Ii) (J : Jj) (Q : Int → Ii → Jj → Prop) (h : wp_X11_canPerform l1 l2 l3 I J Q) : Ctr G yX11_canPerform wsX11_canPerform rm_X11_canPerform [.ref (kadr G 100), .int (iZ l1), .int (iZ l2), .int (iZ l3)] (I, J) (QsB Q) := by
  unfold wp_X11_canPerform at h
  skip
  refine Ctr.ofZ (cc := cX11_canPerform) (nL := 4) (ret := (some .boolean)) [some (.ref (kadr G 100)), some (.int (iZ l1)), some (.int (iZ l2)), some (.int (iZ l3))] hG (by decide +kernel) rfl (Nat.le_of_ble_eq_true rfl) (Nat.le_of_ble_eq_true rfl) (by simp [lvA, lv_args, Value.category]) ?_
  intro X hX C
  refine wz_iload_n C rfl rfl dX11_canPerform_0 ?_
  obtain ⟨g1, h⟩ := h
  have c : (l1 < 0 ∨ 7 < l1) ∨ l1 = 0 ∨ l1 = 1 ∨ l1 = 2 ∨ l1 = 3 ∨ l1 = 4 ∨ l1 = 5 ∨ l1 = 6 ∨ l1 = 7 := by omega
  rcases c with c | c | c | c | c | c | c | c | c
  · replace h := h.1 c
    refine wz_tableOut C (tgt := 173) g1 dX11_canPerform_1 c (by decide) ?_
    refine wz_iconst C dX11_canPerform_173 ?_
    exact wz_zret C (Or.inl rfl) dX11_canPerform_174 ⟨_, rfl, (Or.inl rfl), h⟩
  · replace h := h.2.1 c
    refine wz_tableIn C (v := 0) (tgt := 48) c dX11_canPerform_1 (by decide) rfl (by decide) ?_
    refine wz_aload_n C rfl rfl dX11_canPerform_48 ?_
    refine wm_callV C (o := 100) (As := []) (st := []) (a' := 0) (b' := 0) rfl rfl (k_X11_whyNotShrink G hG I J _ h) 0 gX11_canPerform_X11_whyNotShrink rfl (by decide +kernel) (by rw [hX]; exact ⟨Nat.le_of_ble_eq_true rfl, Nat.le_of_ble_eq_true rfl⟩) rfl (Nat.le_of_ble_eq_true rfl) rfl rfl rfl dX11_canPerform_49 (kk_sI (fun v2 I2 J2 h => ?_))
    obtain ⟨g3, h⟩ := h
    refine wz_if_ne C (tgt := 59) g3 dX11_canPerform_52 (by decide) (fun c => ?_) (fun c => ?_)
    · replace h := h.1 c
      refine wz_iconst C dX11_canPerform_59 ?_
      exact wz_zret C (Or.inl rfl) dX11_canPerform_60 ⟨_, rfl, (Or.inl rfl), h⟩
    · replace h := h.2 c
      refine wz_iconst C dX11_canPerform_55 ?_
      refine wz_goto C dX11_canPerform_56 (tgt := 60) (by decide) ?_
      exact wz_zret C (Or.inr rfl) dX11_canPerform_60 ⟨_, rfl, (Or.inr rfl), h⟩
  · replace h := h.2.2.1 c
    refine wz_tableIn C (v := 1) (tgt := 61) c dX11_canPerform_1 (by decide) rfl (by decide) ?_
    refine wz_aload_n C rfl rfl dX11_canPerform_61 ?_
    refine wz_getR C (j := 300) f_X11_canPerform_53 rfl dX11_canPerform_62 ?_
    refine wz_getI C rfl f_X11_canPerform_192 rfl dX11_canPerform_65 ?_
    obtain ⟨g4, h⟩ := h
    refine wz_if_le C (tgt := 75) g4 dX11_canPerform_68 (by decide) (fun c => ?_) (fun c => ?_)
    · replace h := h.1 c
      refine wz_iconst C dX11_canPerform_75 ?_
      exact wz_zret C (Or.inl rfl) dX11_canPerform_76 ⟨_, rfl, (Or.inl rfl), h⟩
    · replace h := h.2 c
      refine wz_iconst C dX11_canPerform_71 ?_
      refine wz_goto C dX11_canPerform_72 (tgt := 76) (by decide) ?_
      exact wz_zret C (Or.inr rfl) dX11_canPerform_76 ⟨_, rfl, (Or.inr rfl), h⟩
  · replace h := h.2.2.2.1 c
    refine wz_tableIn C (v := 2) (tgt := 77) c dX11_canPerform_1 (by decide) rfl (by decide) ?_
    refine wz_aload_n C rfl rfl dX11_canPerform_77 ?_
    refine wz_iload_n C rfl rfl dX11_canPerform_78 ?_
    refine wm_callV C (o := 100) (As := [.int (iZ l2)]) (st := []) (a' := 0) (b' := 0) rfl rfl (k_X11_hasGroup G hG l2 I J _ h) 1 gX11_canPerform_X11_hasGroup rfl (by decide +kernel) (by rw [hX]; exact ⟨Nat.le_of_ble_eq_true rfl, Nat.le_of_ble_eq_true rfl⟩) rfl (Nat.le_of_ble_eq_true rfl) rfl rfl rfl dX11_canPerform_79 (kk_sB (fun v5 I5 J5 hb5 h => ?_))
    refine wz_if_eq C (tgt := 106) (rgB hb5) dX11_canPerform_82 (by decide) (fun c => ?_) (fun c => ?_)
    · replace h := h.1 c
      refine wz_iconst C dX11_canPerform_106 ?_
      exact wz_zret C (Or.inl rfl) dX11_canPerform_107 ⟨_, rfl, (Or.inl rfl), h⟩
    · replace h := h.2 c
      refine wz_aload_n C rfl rfl dX11_canPerform_85 ?_
      refine wz_iload_n C rfl rfl dX11_canPerform_86 ?_
      refine wm_callV C (o := 100) (As := [.int (iZ l3)]) (st := []) (a' := 0) (b' := 0) rfl rfl (k_X11_hasPart G hG l3 I5 J5 _ h) 1 gX11_canPerform_X11_hasPart rfl (by decide +kernel) (by rw [hX]; exact ⟨Nat.le_of_ble_eq_true rfl, Nat.le_of_ble_eq_true rfl⟩) rfl (Nat.le_of_ble_eq_true rfl) rfl rfl rfl dX11_canPerform_87 (kk_sB (fun v6 I6 J6 hb6 h => ?_))
      refine wz_if_eq C (tgt := 106) (rgB hb6) dX11_canPerform_90 (by decide) (fun c => ?_) (fun c => ?_)
      · replace h := h.1 c
        refine wz_iconst C dX11_canPerform_106 ?_
        exact wz_zret C (Or.inl rfl) dX11_canPerform_107 ⟨_, rfl, (Or.inl rfl), h⟩
      · replace h := h.2 c
        refine wz_aload_n C rfl rfl dX11_canPerform_93 ?_
        refine wz_iload_n C rfl rfl dX11_canPerform_94 ?_
        refine wz_iload_n C rfl rfl dX11_canPerform_95 ?_
        refine wm_callV C (o := 100) (As := [.int (iZ l2), .int (iZ l3)]) (st := []) (a' := 0) (b' := 0) rfl rfl (k_X11_whyNotMove G hG l2 l3 I6 J6 _ h) 2 gX11_canPerform_X11_whyNotMove rfl (by decide +kernel) (by rw [hX]; exact ⟨Nat.le_of_ble_eq_true rfl, Nat.le_of_ble_eq_true rfl⟩) rfl (Nat.le_of_ble_eq_true rfl) rfl rfl rfl dX11_canPerform_96 (kk_sI (fun v7 I7 J7 h => ?_))
        obtain ⟨g8, h⟩ := h
        refine wz_if_ne C (tgt := 106) g8 dX11_canPerform_99 (by decide) (fun c => ?_) (fun c => ?_)
        · replace h := h.1 c
          refine wz_iconst C dX11_canPerform_106 ?_
          exact wz_zret C (Or.inl rfl) dX11_canPerform_107 ⟨_, rfl, (Or.inl rfl), h⟩
        · replace h := h.2 c
          refine wz_iconst C dX11_canPerform_102 ?_
          refine wz_goto C dX11_canPerform_103 (tgt := 107) (by decide) ?_
          exact wz_zret C (Or.inr rfl) dX11_canPerform_107 ⟨_, rfl, (Or.inr rfl), h⟩
  · replace h := h.2.2.2.2.1 c
    refine wz_tableIn C (v := 3) (tgt := 108) c dX11_canPerform_1 (by decide) rfl (by decide) ?_
    refine wz_aload_n C rfl rfl dX11_canPerform_108 ?_
    refine wm_callV C (o := 100) (As := []) (st := []) (a' := 0) (b' := 0) rfl rfl (k_X11_nextStep G hG I J _ h) 0 gX11_canPerform_X11_nextStep rfl (by decide +kernel) (by rw [hX]; exact ⟨Nat.le_of_ble_eq_true rfl, Nat.le_of_ble_eq_true rfl⟩) rfl (Nat.le_of_ble_eq_true rfl) rfl rfl rfl dX11_canPerform_109 (kk_sI (fun v9 I9 J9 h => ?_))
    refine wz_iconst C dX11_canPerform_112 ?_
    obtain ⟨g10, h⟩ := h
    refine wz_icmp_eq C (tgt := 120) g10 (by decide) dX11_canPerform_113 (by decide) (fun c => ?_) (fun c => ?_)
    · replace h := h.1 c
      refine wz_iconst C dX11_canPerform_120 ?_
      exact wz_zret C (Or.inl rfl) dX11_canPerform_121 ⟨_, rfl, (Or.inl rfl), h⟩
    · replace h := h.2 c
      refine wz_iconst C dX11_canPerform_116 ?_
      refine wz_goto C dX11_canPerform_117 (tgt := 121) (by decide) ?_
      exact wz_zret C (Or.inr rfl) dX11_canPerform_121 ⟨_, rfl, (Or.inr rfl), h⟩
  · replace h := h.2.2.2.2.2.1 c
    refine wz_tableIn C (v := 4) (tgt := 122) c dX11_canPerform_1 (by decide) rfl (by decide) ?_
    refine wz_aload_n C rfl rfl dX11_canPerform_122 ?_
    refine wz_iload_n C rfl rfl dX11_canPerform_123 ?_
    refine wm_callV C (o := 100) (As := [.int (iZ l2)]) (st := []) (a' := 0) (b' := 0) rfl rfl (k_X11_isStepCount G hG l2 I J _ h) 1 gX11_canPerform_X11_isStepCount rfl (by decide +kernel) (by rw [hX]; exact ⟨Nat.le_of_ble_eq_true rfl, Nat.le_of_ble_eq_true rfl⟩) rfl (Nat.le_of_ble_eq_true rfl) rfl rfl rfl dX11_canPerform_124 (kk_sB (fun v11 I11 J11 hb11 h => ?_))
    exact wz_zret C h.1 dX11_canPerform_127 ⟨_, rfl, h.1, h.2⟩
  · replace h := h.2.2.2.2.2.2.1 c
    refine wz_tableIn C (v := 5) (tgt := 128) c dX11_canPerform_1 (by decide) rfl (by decide) ?_
    refine wz_aload_n C rfl rfl dX11_canPerform_128 ?_
    refine wm_callV C (o := 100) (As := []) (st := []) (a' := 0) (b' := 0) rfl rfl (k_X11_hasFewGroups G hG I J _ h) 0 gX11_canPerform_X11_hasFewGroups rfl (by decide +kernel) (by rw [hX]; exact ⟨Nat.le_of_ble_eq_true rfl, Nat.le_of_ble_eq_true rfl⟩) rfl (Nat.le_of_ble_eq_true rfl) rfl rfl rfl dX11_canPerform_129 (kk_sB (fun v12 I12 J12 hb12 h => ?_))
    exact wz_zret C h.1 dX11_canPerform_132 ⟨_, rfl, h.1, h.2⟩
  · replace h := h.2.2.2.2.2.2.2.1 c
    refine wz_tableIn C (v := 6) (tgt := 133) c dX11_canPerform_1 (by decide) rfl (by decide) ?_
    refine wz_aload_n C rfl rfl dX11_canPerform_133 ?_
    refine wz_iload_n C rfl rfl dX11_canPerform_134 ?_
    refine wm_callV C (o := 100) (As := [.int (iZ l2)]) (st := []) (a' := 0) (b' := 0) rfl rfl (k_X11_hasVertex G hG l2 I J _ h) 1 gX11_canPerform_X11_hasVertex rfl (by decide +kernel) (by rw [hX]; exact ⟨Nat.le_of_ble_eq_true rfl, Nat.le_of_ble_eq_true rfl⟩) rfl (Nat.le_of_ble_eq_true rfl) rfl rfl rfl dX11_canPerform_135 (kk_sB (fun v13 I13 J13 hb13 h => ?_))
    refine wz_if_eq C (tgt := 165) (rgB hb13) dX11_canPerform_138 (by decide) (fun c => ?_) (fun c => ?_)
    · replace h := h.1 c
      refine wz_iconst C dX11_canPerform_165 ?_
      exact wz_zret C (Or.inl rfl) dX11_canPerform_166 ⟨_, rfl, (Or.inl rfl), h⟩
    · replace h := h.2 c
      refine wz_aload_n C rfl rfl dX11_canPerform_141 ?_
      refine wz_iload_n C rfl rfl dX11_canPerform_142 ?_
      refine wm_callV C (o := 100) (As := [.int (iZ l3)]) (st := []) (a' := 0) (b' := 0) rfl rfl (k_X11_hasVertex G hG l3 I13 J13 _ h) 1 gX11_canPerform_X11_hasVertex rfl (by decide +kernel) (by rw [hX]; exact ⟨Nat.le_of_ble_eq_true rfl, Nat.le_of_ble_eq_true rfl⟩) rfl (Nat.le_of_ble_eq_true rfl) rfl rfl rfl dX11_canPerform_143 (kk_sB (fun v14 I14 J14 hb14 h => ?_))
      refine wz_if_eq C (tgt := 165) (rgB hb14) dX11_canPerform_146 (by decide) (fun c => ?_) (fun c => ?_)
      · replace h := h.1 c
        refine wz_iconst C dX11_canPerform_165 ?_
        exact wz_zret C (Or.inl rfl) dX11_canPerform_166 ⟨_, rfl, (Or.inl rfl), h⟩
      · replace h := h.2 c
        refine wz_iload_n C rfl rfl dX11_canPerform_149 ?_
        refine wz_iload_n C rfl rfl dX11_canPerform_150 ?_
        obtain ⟨g15, h⟩ := h
        obtain ⟨g16, h⟩ := h
        refine wz_icmp_eq C (tgt := 165) g15 g16 dX11_canPerform_151 (by decide) (fun c => ?_) (fun c => ?_)
        · replace h := h.1 c
          refine wz_iconst C dX11_canPerform_165 ?_
          exact wz_zret C (Or.inl rfl) dX11_canPerform_166 ⟨_, rfl, (Or.inl rfl), h⟩
        · replace h := h.2 c
          refine wz_aload_n C rfl rfl dX11_canPerform_154 ?_
          refine wm_callV C (o := 100) (As := []) (st := []) (a' := 0) (b' := 0) rfl rfl (k_X11_canTakeApart G hG I14 J14 _ h) 0 gX11_canPerform_X11_canTakeApart rfl (by decide +kernel) (by rw [hX]; exact ⟨Nat.le_of_ble_eq_true rfl, Nat.le_of_ble_eq_true rfl⟩) rfl (Nat.le_of_ble_eq_true rfl) rfl rfl rfl dX11_canPerform_155 (kk_sB (fun v17 I17 J17 hb17 h => ?_))
          refine wz_if_eq C (tgt := 165) (rgB hb17) dX11_canPerform_158 (by decide) (fun c => ?_) (fun c => ?_)
          · replace h := h.1 c
            refine wz_iconst C dX11_canPerform_165 ?_
            exact wz_zret C (Or.inl rfl) dX11_canPerform_166 ⟨_, rfl, (Or.inl rfl), h⟩
          · replace h := h.2 c
            refine wz_iconst C dX11_canPerform_161 ?_
            refine wz_goto C dX11_canPerform_162 (tgt := 166) (by decide) ?_
            exact wz_zret C (Or.inr rfl) dX11_canPerform_166 ⟨_, rfl, (Or.inr rfl), h⟩
  · replace h := h.2.2.2.2.2.2.2.2 c
    refine wz_tableIn C (v := 7) (tgt := 167) c dX11_canPerform_1 (by decide) rfl (by decide) ?_
    refine wz_aload_n C rfl rfl dX11_canPerform_167 ?_
    refine wz_iload_n C rfl rfl dX11_canPerform_168 ?_
    refine wm_callV C (o := 100) (As := [.int (iZ l2)]) (st := []) (a' := 0) (b' := 0) rfl rfl (k_X11_isAllowance G hG l2 I J _ h) 1 gX11_canPerform_X11_isAllowance rfl (by decide +kernel) (by rw [hX]; exact ⟨Nat.le_of_ble_eq_true rfl, Nat.le_of_ble_eq_true rfl⟩) rfl (Nat.le_of_ble_eq_true rfl) rfl rfl rfl dX11_canPerform_169 (kk_sB (fun v18 I18 J18 hb18 h => ?_))
    exact wz_zret C h.1 dX11_canPerform_172 ⟨_, rfl, h.1, h.2⟩
theorem in_X11_perform_X11 : ∀ w ∈ wsX110, w ∈ wsX11_perform := by decide +kernel
theorem in_X11_perform_X8 : ∀ w ∈ wsX80, w ∈ wsX11_perform := by decide +kernel
theorem f_X11_perform_53 : FLk wsX11_perform RX11 53 11 7 := flk 11 7 rfl tyX11_ok nmX11 in_X11_perform_X11 (by decide) (by decide +kernel)
theorem f_X11_perform_192 : FLk wsX11_perform RX11 192 8 0 := flk 8 0 rfl tyX8_ok nmX8 in_X11_perform_X8 (by decide) (by decide +kernel)
theorem f_X11_perform_245 : FLk wsX11_perform RX11 245 8 1 := flk 8 1 rfl tyX8_ok nmX8 in_X11_perform_X8 (by decide) (by decide +kernel)
def rm_X11_perform : Room := { frames := 5, cells := 0, slots := 0, locals := 155 }
set_option maxHeartbeats 4000000 in
set_option maxRecDepth 100000 in
theorem k_X11_perform (G : KG) (hG : Kok G) (l1 : Int) (l2 : Int) (l3 : Int) (I : Ii) (J : Jj) (Q : Ii → Jj → Prop) (h : wp_X11_perform l1 l2 l3 I J Q) : Ctr G yX11_perform wsX11_perform rm_X11_perform [.ref (kadr G 100), .int (iZ l1), .int (iZ l2), .int (iZ l3)] (I, J) (QsV Q) := by
  unfold wp_X11_perform at h
  skip
  refine Ctr.ofZ (cc := cX11_perform) (nL := 4) (ret := none) [some (.ref (kadr G 100)), some (.int (iZ l1)), some (.int (iZ l2)), some (.int (iZ l3))] hG (by decide +kernel) rfl (Nat.le_of_ble_eq_true rfl) (Nat.le_of_ble_eq_true rfl) (by simp [lvA, lv_args, Value.category]) ?_
  intro X hX C
  refine wz_iload_n C rfl rfl dX11_perform_0 ?_
  obtain ⟨g1, h⟩ := h
  have c : (l1 < 0 ∨ 7 < l1) ∨ l1 = 0 ∨ l1 = 1 ∨ l1 = 2 ∨ l1 = 3 ∨ l1 = 4 ∨ l1 = 5 ∨ l1 = 6 ∨ l1 = 7 := by omega
  rcases c with c | c | c | c | c | c | c | c | c
  · replace h := h.1 c
    refine wz_tableOut C (tgt := 139) g1 dX11_perform_1 c (by decide) ?_
    exact wz_vret C dX11_perform_139 ⟨rfl, h⟩
  · replace h := h.2.1 c
    refine wz_tableIn C (v := 0) (tgt := 48) c dX11_perform_1 (by decide) rfl (by decide) ?_
    refine wz_aload_n C rfl rfl dX11_perform_48 ?_
    refine wm_callV C (o := 100) (As := []) (st := []) (a' := 0) (b' := 0) rfl rfl (k_X11_mergeGroups G hG I J _ h) 0 gX11_perform_X11_mergeGroups rfl (by decide +kernel) (by rw [hX]; exact ⟨Nat.le_of_ble_eq_true rfl, Nat.le_of_ble_eq_true rfl⟩) rfl (Nat.le_of_ble_eq_true rfl) rfl rfl rfl dX11_perform_49 (kk_sV (fun I2 J2 h => ?_))
    refine wz_goto C dX11_perform_52 (tgt := 139) (by decide) ?_
    exact wz_vret C dX11_perform_139 ⟨rfl, h⟩
  · replace h := h.2.2.1 c
    refine wz_tableIn C (v := 1) (tgt := 55) c dX11_perform_1 (by decide) rfl (by decide) ?_
    refine wz_aload_n C rfl rfl dX11_perform_55 ?_
    refine wz_getR C (j := 300) f_X11_perform_53 rfl dX11_perform_56 ?_
    refine wz_dup C rfl dX11_perform_59 ?_
    refine wz_getI C rfl f_X11_perform_192 rfl dX11_perform_60 ?_
    refine wz_iconst C dX11_perform_63 ?_
    refine wz_isub C dX11_perform_64 ?_
    refine wd_putI C f_X11_perform_192 fp_X8_0 rfl dX11_perform_65 (fun I3 e => ?_)
    replace h := h I3 e
    refine wz_goto C dX11_perform_68 (tgt := 139) (by decide) ?_
    exact wz_vret C dX11_perform_139 ⟨rfl, h⟩
  · replace h := h.2.2.2.1 c
    refine wz_tableIn C (v := 2) (tgt := 71) c dX11_perform_1 (by decide) rfl (by decide) ?_
    refine wz_aload_n C rfl rfl dX11_perform_71 ?_
    refine wz_iload_n C rfl rfl dX11_perform_72 ?_
    refine wz_iload_n C rfl rfl dX11_perform_73 ?_
    refine wm_callV C (o := 100) (As := [.int (iZ l2), .int (iZ l3)]) (st := []) (a' := 0) (b' := 0) rfl rfl (k_X11_takeTo G hG l2 l3 I J _ h) 2 gX11_perform_X11_takeTo rfl (by decide +kernel) (by rw [hX]; exact ⟨Nat.le_of_ble_eq_true rfl, Nat.le_of_ble_eq_true rfl⟩) rfl (Nat.le_of_ble_eq_true rfl) rfl rfl rfl dX11_perform_74 (kk_sV (fun I4 J4 h => ?_))
    refine wz_goto C dX11_perform_77 (tgt := 139) (by decide) ?_
    exact wz_vret C dX11_perform_139 ⟨rfl, h⟩
  · replace h := h.2.2.2.2.1 c
    refine wz_tableIn C (v := 3) (tgt := 80) c dX11_perform_1 (by decide) rfl (by decide) ?_
    refine wz_aload_n C rfl rfl dX11_perform_80 ?_
    refine wz_aload_n C rfl rfl dX11_perform_81 ?_
    refine wz_getR C (j := 300) f_X11_perform_53 rfl dX11_perform_82 ?_
    refine wz_iconst C dX11_perform_85 ?_
    refine wm_callV C (o := 100) (As := [.ref (kadr G 300), .int (iZ 1)]) (st := []) (a' := 0) (b' := 0) rfl rfl (k_X11_makeSteps G hG 300 1 I J _ h) 2 gX11_perform_X11_makeSteps rfl (by decide +kernel) (by rw [hX]; exact ⟨Nat.le_of_ble_eq_true rfl, Nat.le_of_ble_eq_true rfl⟩) rfl (Nat.le_of_ble_eq_true rfl) rfl rfl rfl dX11_perform_86 (kk_sI (fun v5 I5 J5 h => ?_))
    refine wz_pop C rfl dX11_perform_89 ?_
    refine wz_goto C dX11_perform_90 (tgt := 139) (by decide) ?_
    exact wz_vret C dX11_perform_139 ⟨rfl, h⟩
  · replace h := h.2.2.2.2.2.1 c
    refine wz_tableIn C (v := 4) (tgt := 93) c dX11_perform_1 (by decide) rfl (by decide) ?_
    refine wz_aload_n C rfl rfl dX11_perform_93 ?_
    refine wz_aload_n C rfl rfl dX11_perform_94 ?_
    refine wz_getR C (j := 300) f_X11_perform_53 rfl dX11_perform_95 ?_
    refine wz_iload_n C rfl rfl dX11_perform_98 ?_
    refine wm_callV C (o := 100) (As := [.ref (kadr G 300), .int (iZ l2)]) (st := []) (a' := 0) (b' := 0) rfl rfl (k_X11_makeSteps G hG 300 l2 I J _ h) 2 gX11_perform_X11_makeSteps rfl (by decide +kernel) (by rw [hX]; exact ⟨Nat.le_of_ble_eq_true rfl, Nat.le_of_ble_eq_true rfl⟩) rfl (Nat.le_of_ble_eq_true rfl) rfl rfl rfl dX11_perform_99 (kk_sI (fun v6 I6 J6 h => ?_))
    refine wz_pop C rfl dX11_perform_102 ?_
    refine wz_goto C dX11_perform_103 (tgt := 139) (by decide) ?_
    exact wz_vret C dX11_perform_139 ⟨rfl, h⟩
  · replace h := h.2.2.2.2.2.2.1 c
    refine wz_tableIn C (v := 5) (tgt := 106) c dX11_perform_1 (by decide) rfl (by decide) ?_
    refine wz_aload_n C rfl rfl dX11_perform_106 ?_
    refine wm_callV C (o := 100) (As := []) (st := []) (a' := 0) (b' := 0) rfl rfl (k_X11_searchBest G hG I J _ h) 0 gX11_perform_X11_searchBest rfl (by decide +kernel) (by rw [hX]; exact ⟨Nat.le_of_ble_eq_true rfl, Nat.le_of_ble_eq_true rfl⟩) rfl (Nat.le_of_ble_eq_true rfl) rfl rfl rfl dX11_perform_107 (kk_sV (fun I7 J7 h => ?_))
    refine wz_aload_n C rfl rfl dX11_perform_110 ?_
    refine wm_callV C (o := 100) (As := []) (st := []) (a' := 0) (b' := 0) rfl rfl (k_X11_takeBest G hG I7 J7 _ h) 0 gX11_perform_X11_takeBest rfl (by decide +kernel) (by rw [hX]; exact ⟨Nat.le_of_ble_eq_true rfl, Nat.le_of_ble_eq_true rfl⟩) rfl (Nat.le_of_ble_eq_true rfl) rfl rfl rfl dX11_perform_111 (kk_sI (fun v8 I8 J8 h => ?_))
    refine wz_pop C rfl dX11_perform_114 ?_
    refine wz_goto C dX11_perform_115 (tgt := 139) (by decide) ?_
    exact wz_vret C dX11_perform_139 ⟨rfl, h⟩
  · replace h := h.2.2.2.2.2.2.2.1 c
    refine wz_tableIn C (v := 6) (tgt := 118) c dX11_perform_1 (by decide) rfl (by decide) ?_
    refine wz_aload_n C rfl rfl dX11_perform_118 ?_
    refine wz_iload_n C rfl rfl dX11_perform_119 ?_
    refine wz_iload_n C rfl rfl dX11_perform_120 ?_
    refine wm_callV C (o := 100) (As := [.int (iZ l2), .int (iZ l3)]) (st := []) (a' := 0) (b' := 0) rfl rfl (k_X11_takeApart G hG l2 l3 I J _ h) 2 gX11_perform_X11_takeApart rfl (by decide +kernel) (by rw [hX]; exact ⟨Nat.le_of_ble_eq_true rfl, Nat.le_of_ble_eq_true rfl⟩) rfl (Nat.le_of_ble_eq_true rfl) rfl rfl rfl dX11_perform_121 (kk_sI (fun v9 I9 J9 h => ?_))
    refine wz_pop C rfl dX11_perform_124 ?_
    refine wz_goto C dX11_perform_125 (tgt := 139) (by decide) ?_
    exact wz_vret C dX11_perform_139 ⟨rfl, h⟩
  · replace h := h.2.2.2.2.2.2.2.2 c
    refine wz_tableIn C (v := 7) (tgt := 128) c dX11_perform_1 (by decide) rfl (by decide) ?_
    refine wz_aload_n C rfl rfl dX11_perform_128 ?_
    refine wz_getR C (j := 300) f_X11_perform_53 rfl dX11_perform_129 ?_
    refine wz_iload_n C rfl rfl dX11_perform_132 ?_
    refine wd_putI C f_X11_perform_245 fp_X8_1 rfl dX11_perform_133 (fun I10 e => ?_)
    replace h := h I10 e
    refine wz_goto C dX11_perform_136 (tgt := 139) (by decide) ?_
    exact wz_vret C dX11_perform_139 ⟨rfl, h⟩
theorem in_X11_bestDebts_X0 : ∀ w ∈ wsX00, w ∈ wsX11_bestDebts := by decide +kernel
theorem in_X11_bestDebts_X11 : ∀ w ∈ wsX110, w ∈ wsX11_bestDebts := by decide +kernel
theorem f_X11_bestDebts_87 : FLk wsX11_bestDebts RX11 87 11 14 := flk 11 14 rfl tyX11_ok nmX11 in_X11_bestDebts_X11 (by decide) (by decide +kernel)
theorem f_X11_bestDebts_421 : FLk wsX11_bestDebts RX11 421 0 3 := flk 0 3 rfl tyX0_ok nmX0 in_X11_bestDebts_X0 (by decide) (by decide +kernel)
def rm_X11_bestDebts : Room := { frames := 5, cells := 0, slots := 0, locals := 127 }
set_option maxHeartbeats 4000000 in
set_option maxRecDepth 100000 in
theorem k_X11_bestDebts (G : KG) (hG : Kok G) (I : Ii) (J : Jj) (Q : Int → Ii → Jj → Prop) (h : wp_X11_bestDebts I J Q) : Ctr G yX11_bestDebts wsX11_bestDebts rm_X11_bestDebts [.ref (kadr G 100)] (I, J) (QsI Q) := by
  unfold wp_X11_bestDebts at h
  skip
  refine Ctr.ofZ (cc := cX11_bestDebts) (nL := 1) (ret := (some .int)) [some (.ref (kadr G 100))] hG (by decide +kernel) rfl (Nat.le_of_ble_eq_true rfl) (Nat.le_of_ble_eq_true rfl) (by simp [lvA, lv_args, Value.category]) ?_
  intro X hX C
  refine wz_aload_n C rfl rfl dX11_bestDebts_0 ?_
  refine wm_callV C (o := 100) (As := []) (st := []) (a' := 0) (b' := 0) rfl rfl (k_X11_hasFewGroups G hG I J _ h) 0 gX11_bestDebts_X11_hasFewGroups rfl (by decide +kernel) (by rw [hX]; exact ⟨Nat.le_of_ble_eq_true rfl, Nat.le_of_ble_eq_true rfl⟩) rfl (Nat.le_of_ble_eq_true rfl) rfl rfl rfl dX11_bestDebts_1 (kk_sB (fun v1 I1 J1 hb1 h => ?_))
  refine wz_if_ne C (tgt := 9) (rgB hb1) dX11_bestDebts_4 (by decide) (fun c => ?_) (fun c => ?_)
  · replace h := h.1 c
    refine wz_aload_n C rfl rfl dX11_bestDebts_9 ?_
    refine wm_callV C (o := 100) (As := []) (st := []) (a' := 0) (b' := 0) rfl rfl (k_X11_searchBest G hG I1 J1 _ h) 0 gX11_bestDebts_X11_searchBest rfl (by decide +kernel) (by rw [hX]; exact ⟨Nat.le_of_ble_eq_true rfl, Nat.le_of_ble_eq_true rfl⟩) rfl (Nat.le_of_ble_eq_true rfl) rfl rfl rfl dX11_bestDebts_10 (kk_sV (fun I2 J2 h => ?_))
    refine wz_aload_n C rfl rfl dX11_bestDebts_13 ?_
    refine wz_getR C (j := 124) f_X11_bestDebts_87 rfl dX11_bestDebts_14 ?_
    refine wz_getI C rfl f_X11_bestDebts_421 rfl dX11_bestDebts_17 ?_
    exact wz_iret C dX11_bestDebts_20 ⟨_, rfl, h⟩
  · replace h := h.2 c
    refine wz_iconst C dX11_bestDebts_7 ?_
    exact wz_iret C dX11_bestDebts_8 ⟨_, rfl, h⟩
theorem in_X11_bestCut_X0 : ∀ w ∈ wsX00, w ∈ wsX11_bestCut := by decide +kernel
theorem in_X11_bestCut_X11 : ∀ w ∈ wsX110, w ∈ wsX11_bestCut := by decide +kernel
theorem f_X11_bestCut_87 : FLk wsX11_bestCut RX11 87 11 14 := flk 11 14 rfl tyX11_ok nmX11 in_X11_bestCut_X11 (by decide) (by decide +kernel)
theorem f_X11_bestCut_424 : FLk wsX11_bestCut RX11 424 0 4 := flk 0 4 rfl tyX0_ok nmX0 in_X11_bestCut_X0 (by decide) (by decide +kernel)
def rm_X11_bestCut : Room := { frames := 5, cells := 0, slots := 0, locals := 127 }
set_option maxHeartbeats 4000000 in
set_option maxRecDepth 100000 in
theorem k_X11_bestCut (G : KG) (hG : Kok G) (I : Ii) (J : Jj) (Q : Int → Ii → Jj → Prop) (h : wp_X11_bestCut I J Q) : Ctr G yX11_bestCut wsX11_bestCut rm_X11_bestCut [.ref (kadr G 100)] (I, J) (QsI Q) := by
  unfold wp_X11_bestCut at h
  skip
  refine Ctr.ofZ (cc := cX11_bestCut) (nL := 1) (ret := (some .int)) [some (.ref (kadr G 100))] hG (by decide +kernel) rfl (Nat.le_of_ble_eq_true rfl) (Nat.le_of_ble_eq_true rfl) (by simp [lvA, lv_args, Value.category]) ?_
  intro X hX C
  refine wz_aload_n C rfl rfl dX11_bestCut_0 ?_
  refine wm_callV C (o := 100) (As := []) (st := []) (a' := 0) (b' := 0) rfl rfl (k_X11_hasFewGroups G hG I J _ h) 0 gX11_bestCut_X11_hasFewGroups rfl (by decide +kernel) (by rw [hX]; exact ⟨Nat.le_of_ble_eq_true rfl, Nat.le_of_ble_eq_true rfl⟩) rfl (Nat.le_of_ble_eq_true rfl) rfl rfl rfl dX11_bestCut_1 (kk_sB (fun v1 I1 J1 hb1 h => ?_))
  refine wz_if_ne C (tgt := 9) (rgB hb1) dX11_bestCut_4 (by decide) (fun c => ?_) (fun c => ?_)
  · replace h := h.1 c
    refine wz_aload_n C rfl rfl dX11_bestCut_9 ?_
    refine wm_callV C (o := 100) (As := []) (st := []) (a' := 0) (b' := 0) rfl rfl (k_X11_searchBest G hG I1 J1 _ h) 0 gX11_bestCut_X11_searchBest rfl (by decide +kernel) (by rw [hX]; exact ⟨Nat.le_of_ble_eq_true rfl, Nat.le_of_ble_eq_true rfl⟩) rfl (Nat.le_of_ble_eq_true rfl) rfl rfl rfl dX11_bestCut_10 (kk_sV (fun I2 J2 h => ?_))
    refine wz_aload_n C rfl rfl dX11_bestCut_13 ?_
    refine wz_getR C (j := 124) f_X11_bestCut_87 rfl dX11_bestCut_14 ?_
    refine wz_getI C rfl f_X11_bestCut_424 rfl dX11_bestCut_17 ?_
    exact wz_iret C dX11_bestCut_20 ⟨_, rfl, h⟩
  · replace h := h.2 c
    refine wz_iconst C dX11_bestCut_7 ?_
    exact wz_iret C dX11_bestCut_8 ⟨_, rfl, h⟩
theorem in_X11_stepsToEnd_X11 : ∀ w ∈ wsX110, w ∈ wsX11_stepsToEnd := by decide +kernel
theorem f_X11_stepsToEnd_73 : FLk wsX11_stepsToEnd RX11 73 11 12 := flk 11 12 rfl tyX11_ok nmX11 in_X11_stepsToEnd_X11 (by decide) (by decide +kernel)
theorem f_X11_stepsToEnd_40 : FLk wsX11_stepsToEnd RX11 40 11 4 := flk 11 4 rfl tyX11_ok nmX11 in_X11_stepsToEnd_X11 (by decide) (by decide +kernel)
theorem f_X11_stepsToEnd_57 : FLk wsX11_stepsToEnd RX11 57 11 8 := flk 11 8 rfl tyX11_ok nmX11 in_X11_stepsToEnd_X11 (by decide) (by decide +kernel)
def rm_X11_stepsToEnd : Room := { frames := 6, cells := 0, slots := 0, locals := 153 }
set_option maxHeartbeats 4000000 in
set_option maxRecDepth 100000 in
theorem k_X11_stepsToEnd (G : KG) (hG : Kok G) (l1 : Int) (I : Ii) (J : Jj) (Q : Int → Ii → Jj → Prop) (h : wp_X11_stepsToEnd l1 I J Q) : Ctr G yX11_stepsToEnd wsX11_stepsToEnd rm_X11_stepsToEnd [.ref (kadr G 100), .int (iZ l1)] (I, J) (QsI Q) := by
  unfold wp_X11_stepsToEnd at h
  skip
  refine Ctr.ofZ (cc := cX11_stepsToEnd) (nL := 3) (ret := (some .int)) [some (.ref (kadr G 100)), some (.int (iZ l1)), none] hG (by decide +kernel) rfl (Nat.le_of_ble_eq_true rfl) (Nat.le_of_ble_eq_true rfl) (by simp [lvA, lv_args, Value.category]) ?_
  intro X hX C
  refine wz_aload_n C rfl rfl dX11_stepsToEnd_0 ?_
  refine wz_iload_n C rfl rfl dX11_stepsToEnd_1 ?_
  refine wm_callV C (o := 100) (As := [.int (iZ l1)]) (st := []) (a' := 0) (b' := 0) rfl rfl (k_X11_requireTriedSteps G hG l1 I J _ h) 1 gX11_stepsToEnd_X11_requireTriedSteps rfl (by decide +kernel) (by rw [hX]; exact ⟨Nat.le_of_ble_eq_true rfl, Nat.le_of_ble_eq_true rfl⟩) rfl (Nat.le_of_ble_eq_true rfl) rfl rfl rfl dX11_stepsToEnd_2 (kk_sV (fun I1 J1 h => ?_))
  refine wz_aload_n C rfl rfl dX11_stepsToEnd_5 ?_
  refine wz_iload_n C rfl rfl dX11_stepsToEnd_6 ?_
  refine wm_callV C (o := 100) (As := [.int (iZ l1)]) (st := []) (a' := 0) (b' := 0) rfl rfl (k_X11_trySteps G hG l1 I1 J1 _ h) 1 gX11_stepsToEnd_X11_trySteps rfl (by decide +kernel) (by rw [hX]; exact ⟨Nat.le_of_ble_eq_true rfl, Nat.le_of_ble_eq_true rfl⟩) rfl (Nat.le_of_ble_eq_true rfl) rfl rfl rfl dX11_stepsToEnd_7 (kk_sI (fun v2 I2 J2 h => ?_))
  refine wz_istore_2 C rfl dX11_stepsToEnd_10 ?_
  refine wz_aload_n C rfl rfl dX11_stepsToEnd_11 ?_
  refine wz_getR C (j := 113) f_X11_stepsToEnd_73 rfl dX11_stepsToEnd_12 ?_
  refine wz_aload_n C rfl rfl dX11_stepsToEnd_15 ?_
  refine wz_getR C (j := 200) f_X11_stepsToEnd_40 rfl dX11_stepsToEnd_16 ?_
  refine wz_aload_n C rfl rfl dX11_stepsToEnd_19 ?_
  refine wz_getR C (j := 310) f_X11_stepsToEnd_57 rfl dX11_stepsToEnd_20 ?_
  refine wm_callV C (o := 113) (As := [.ref (kadr G 200), .ref (kadr G 310)]) (st := []) (a' := 0) (b' := 0) rfl rfl (k_X4_take G hG 200 310 I2 J2 _ h) 2 gX11_stepsToEnd_X4_take rfl (by decide +kernel) (by rw [hX]; exact ⟨Nat.le_of_ble_eq_true rfl, Nat.le_of_ble_eq_true rfl⟩) rfl (Nat.le_of_ble_eq_true rfl) rfl rfl rfl dX11_stepsToEnd_23 (kk_sV (fun I3 J3 h => ?_))
  refine wz_aload_n C rfl rfl dX11_stepsToEnd_26 ?_
  refine wz_getR C (j := 113) f_X11_stepsToEnd_73 rfl dX11_stepsToEnd_27 ?_
  refine wm_callV C (o := 113) (As := []) (st := []) (a' := 0) (b' := 0) rfl rfl (k_X4_chosenStep G hG I3 J3 _ h) 0 gX11_stepsToEnd_X4_chosenStep rfl (by decide +kernel) (by rw [hX]; exact ⟨Nat.le_of_ble_eq_true rfl, Nat.le_of_ble_eq_true rfl⟩) rfl (Nat.le_of_ble_eq_true rfl) rfl rfl rfl dX11_stepsToEnd_30 (kk_sI (fun v4 I4 J4 h => ?_))
  refine wz_iconst C dX11_stepsToEnd_33 ?_
  obtain ⟨g5, h⟩ := h
  refine wz_icmp_ne C (tgt := 41) g5 (by decide) dX11_stepsToEnd_34 (by decide) (fun c => ?_) (fun c => ?_)
  · replace h := h.1 c
    refine wz_iconst C dX11_stepsToEnd_41 ?_
    exact wz_iret C dX11_stepsToEnd_42 ⟨_, rfl, h⟩
  · replace h := h.2 c
    refine wz_iload_n C rfl rfl dX11_stepsToEnd_37 ?_
    refine wz_goto C dX11_stepsToEnd_38 (tgt := 42) (by decide) ?_
    exact wz_iret C dX11_stepsToEnd_42 ⟨_, rfl, h⟩
theorem in_X11_cutBehind_X11 : ∀ w ∈ wsX110, w ∈ wsX11_cutBehind := by decide +kernel
theorem in_X11_cutBehind_X4 : ∀ w ∈ wsX40, w ∈ wsX11_cutBehind := by decide +kernel
theorem f_X11_cutBehind_73 : FLk wsX11_cutBehind RX11 73 11 12 := flk 11 12 rfl tyX11_ok nmX11 in_X11_cutBehind_X11 (by decide) (by decide +kernel)
theorem f_X11_cutBehind_40 : FLk wsX11_cutBehind RX11 40 11 4 := flk 11 4 rfl tyX11_ok nmX11 in_X11_cutBehind_X11 (by decide) (by decide +kernel)
theorem f_X11_cutBehind_57 : FLk wsX11_cutBehind RX11 57 11 8 := flk 11 8 rfl tyX11_ok nmX11 in_X11_cutBehind_X11 (by decide) (by decide +kernel)
theorem f_X11_cutBehind_357 : FLk wsX11_cutBehind RX11 357 4 5 := flk 4 5 rfl tyX4_ok nmX4 in_X11_cutBehind_X4 (by decide) (by decide +kernel)
def rm_X11_cutBehind : Room := { frames := 6, cells := 0, slots := 0, locals := 153 }
set_option maxHeartbeats 4000000 in
set_option maxRecDepth 100000 in
theorem k_X11_cutBehind (G : KG) (hG : Kok G) (l1 : Int) (I : Ii) (J : Jj) (Q : Int → Ii → Jj → Prop) (h : wp_X11_cutBehind l1 I J Q) : Ctr G yX11_cutBehind wsX11_cutBehind rm_X11_cutBehind [.ref (kadr G 100), .int (iZ l1)] (I, J) (QsI Q) := by
  unfold wp_X11_cutBehind at h
  skip
  refine Ctr.ofZ (cc := cX11_cutBehind) (nL := 2) (ret := (some .int)) [some (.ref (kadr G 100)), some (.int (iZ l1))] hG (by decide +kernel) rfl (Nat.le_of_ble_eq_true rfl) (Nat.le_of_ble_eq_true rfl) (by simp [lvA, lv_args, Value.category]) ?_
  intro X hX C
  refine wz_aload_n C rfl rfl dX11_cutBehind_0 ?_
  refine wz_iload_n C rfl rfl dX11_cutBehind_1 ?_
  refine wm_callV C (o := 100) (As := [.int (iZ l1)]) (st := []) (a' := 0) (b' := 0) rfl rfl (k_X11_requireTriedSteps G hG l1 I J _ h) 1 gX11_cutBehind_X11_requireTriedSteps rfl (by decide +kernel) (by rw [hX]; exact ⟨Nat.le_of_ble_eq_true rfl, Nat.le_of_ble_eq_true rfl⟩) rfl (Nat.le_of_ble_eq_true rfl) rfl rfl rfl dX11_cutBehind_2 (kk_sV (fun I1 J1 h => ?_))
  refine wz_aload_n C rfl rfl dX11_cutBehind_5 ?_
  refine wz_iload_n C rfl rfl dX11_cutBehind_6 ?_
  refine wm_callV C (o := 100) (As := [.int (iZ l1)]) (st := []) (a' := 0) (b' := 0) rfl rfl (k_X11_trySteps G hG l1 I1 J1 _ h) 1 gX11_cutBehind_X11_trySteps rfl (by decide +kernel) (by rw [hX]; exact ⟨Nat.le_of_ble_eq_true rfl, Nat.le_of_ble_eq_true rfl⟩) rfl (Nat.le_of_ble_eq_true rfl) rfl rfl rfl dX11_cutBehind_7 (kk_sI (fun v2 I2 J2 h => ?_))
  refine wz_pop C rfl dX11_cutBehind_10 ?_
  refine wz_aload_n C rfl rfl dX11_cutBehind_11 ?_
  refine wz_getR C (j := 113) f_X11_cutBehind_73 rfl dX11_cutBehind_12 ?_
  refine wz_aload_n C rfl rfl dX11_cutBehind_15 ?_
  refine wz_getR C (j := 200) f_X11_cutBehind_40 rfl dX11_cutBehind_16 ?_
  refine wz_aload_n C rfl rfl dX11_cutBehind_19 ?_
  refine wz_getR C (j := 310) f_X11_cutBehind_57 rfl dX11_cutBehind_20 ?_
  refine wm_callV C (o := 113) (As := [.ref (kadr G 200), .ref (kadr G 310)]) (st := []) (a' := 0) (b' := 0) rfl rfl (k_X4_take G hG 200 310 I2 J2 _ h) 2 gX11_cutBehind_X4_take rfl (by decide +kernel) (by rw [hX]; exact ⟨Nat.le_of_ble_eq_true rfl, Nat.le_of_ble_eq_true rfl⟩) rfl (Nat.le_of_ble_eq_true rfl) rfl rfl rfl dX11_cutBehind_23 (kk_sV (fun I3 J3 h => ?_))
  refine wz_aload_n C rfl rfl dX11_cutBehind_26 ?_
  refine wz_getR C (j := 113) f_X11_cutBehind_73 rfl dX11_cutBehind_27 ?_
  refine wz_getI C rfl f_X11_cutBehind_357 rfl dX11_cutBehind_30 ?_
  exact wz_iret C dX11_cutBehind_33 ⟨_, rfl, h⟩
