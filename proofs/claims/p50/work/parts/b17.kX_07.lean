theorem in_X4_take_X2 : ∀ w ∈ wsX20, w ∈ wsX4_take := by decide +kernel
theorem in_X4_take_X4 : ∀ w ∈ wsX40, w ∈ wsX4_take := by decide +kernel
theorem in_X4_take_X8 : ∀ w ∈ wsX80, w ∈ wsX4_take := by decide +kernel
theorem f_X4_take_36 : FLk wsX4_take RX4 36 7 0 := flk 7 0 rfl tyX4_ok nmX4 in_X4_take_X4 (by decide) (by decide +kernel)
theorem fp_X4_0 : FPk 7 0 .int := fun C9 T9 N9 h => by
  have h : some (RX4, TX4, 12) = some (C9, T9, N9) := h
  cases h
  exact ⟨rfl, by decide +kernel⟩
theorem f_X4_take_40 : FLk wsX4_take RX4 40 5 2 := flk 5 2 rfl tyX2_ok nmX2 in_X4_take_X2 (by decide) (by decide +kernel)
theorem f_X4_take_45 : FLk wsX4_take RX4 45 7 1 := flk 7 1 rfl tyX4_ok nmX4 in_X4_take_X4 (by decide) (by decide +kernel)
theorem fp_X4_1 : FPk 7 1 .int := fun C9 T9 N9 h => by
  have h : some (RX4, TX4, 12) = some (C9, T9, N9) := h
  cases h
  exact ⟨rfl, by decide +kernel⟩
theorem f_X4_take_49 : FLk wsX4_take RX4 49 7 2 := flk 7 2 rfl tyX4_ok nmX4 in_X4_take_X4 (by decide) (by decide +kernel)
theorem fp_X4_2 : FPk 7 2 .int := fun C9 T9 N9 h => by
  have h : some (RX4, TX4, 12) = some (C9, T9, N9) := h
  cases h
  exact ⟨rfl, by decide +kernel⟩
theorem f_X4_take_51 : FLk wsX4_take RX4 51 11 1 := flk 11 1 rfl tyX8_ok nmX8 in_X4_take_X8 (by decide) (by decide +kernel)
theorem f_X4_take_54 : FLk wsX4_take RX4 54 7 3 := flk 7 3 rfl tyX4_ok nmX4 in_X4_take_X4 (by decide) (by decide +kernel)
theorem fp_X4_3 : FPk 7 3 .int := fun C9 T9 N9 h => by
  have h : some (RX4, TX4, 12) = some (C9, T9, N9) := h
  cases h
  exact ⟨rfl, by decide +kernel⟩
theorem f_X4_take_62 : FLk wsX4_take RX4 62 7 4 := flk 7 4 rfl tyX4_ok nmX4 in_X4_take_X4 (by decide) (by decide +kernel)
theorem fp_X4_4 : FPk 7 4 .int := fun C9 T9 N9 h => by
  have h : some (RX4, TX4, 12) = some (C9, T9, N9) := h
  cases h
  exact ⟨rfl, by decide +kernel⟩
theorem f_X4_take_24 : FLk wsX4_take RX4 24 7 10 := flk 7 10 rfl tyX4_ok nmX4 in_X4_take_X4 (by decide) (by decide +kernel)
def rm_X4_take : Room := { frames := 2, cells := 0, slots := 0, locals := 50 }
set_option maxHeartbeats 4000000 in
set_option maxRecDepth 100000 in
theorem lk_X4_take_51 (G : KG) (hG : KokC G) (X : KX) (hX : KR X = rm_X4_take) (C : Fr G X cX4_take 4 yX4_take.cls none wsX4_take) (k1 : Nat) (k2 : Nat) (hk1 : gK k1) (hk2 : sK k2) (Q : Ii → Jj → Prop) : ∀ (n : Nat) (l3 : Int) (I : Ii) (J : Jj), L_X4_take_51 k1 k2 Q n l3 I J → Wz G X 4 (QsU G X (QsV Q)) 0 0 51 [some (.ref (kadr G 113)), none, none, some (.int (iZ l3))] [] I J := by
  have hz := hG.2
  intro n
  induction n with
  | zero => intro l3 I J h; exact False.elim h
  | succ n w51 =>
    intro l3 I J h
    have h : Lb_X4_take_51 k1 k2 Q (L_X4_take_51 k1 k2 Q n) l3 I J := h
    unfold Lb_X4_take_51 at h
    generalize L_X4_take_51 k1 k2 Q n = r51 at h w51
    refine wz_iload_n C rfl rfl dX4_take_51 ?_
    refine wz_aload_n C rfl rfl dX4_take_52 ?_
    refine wz_getI C rfl f_X4_take_45 (sOc hz rfl) dX4_take_53 ?_
    obtain ⟨g10, h⟩ := h
    obtain ⟨g11, h⟩ := h
    refine wz_icmp_ge C (tgt := 86) g10 g11 dX4_take_56 (by decide) (fun c => ?_) (fun c => ?_)
    · replace h := h.1 c
      exact wz_vret C dX4_take_86 ⟨rfl, h⟩
    · replace h := h.2 c
      refine wz_aload_n C rfl rfl dX4_take_59 ?_
      refine wz_dup C rfl dX4_take_60 ?_
      refine wz_getI C rfl f_X4_take_62 (sOc hz rfl) dX4_take_61 ?_
      refine wz_aload_n C rfl rfl dX4_take_64 ?_
      refine wz_aload_n C rfl rfl dX4_take_65 ?_
      refine wz_getR C (j := 118) f_X4_take_24 (sOc hz rfl) (by decide) dX4_take_66 ?_
      refine wz_iload_n C rfl rfl dX4_take_69 ?_
      refine wm_callSN C (As := [.ref (kadr G 118), .int (iZ l3)]) (st := [.ref (kadr G 113), .int (iZ (I 113 4)), .ref (kadr G 113)]) (a' := 0) (b' := 0) (host := "ShareGraph") (k_X11_at G hG 118 l3 I J _ h) 2 gX4_take_X11_at_n65 (by decide +kernel) (by decide +kernel) (by decide +kernel) rfl (by decide +kernel) (by rw [hX]; exact ⟨Nat.le_of_ble_eq_true rfl, Nat.le_of_ble_eq_true rfl⟩) rfl (Nat.le_of_ble_eq_true rfl) rfl rfl rfl dX4_take_70 (kk_sI (fun v12 I12 J12 h => ?_))
      refine wm_callV C (o := 113) (As := [.int (iZ v12)]) (st := [.int (iZ (I 113 4)), .ref (kadr G 113)]) (a' := 0) (b' := 0) (shK_c hz rfl) rfl (k_X4_debtAt G hG v12 I12 J12 _ h) 1 gX4_take_X4_debtAt rfl (by decide +kernel) (by rw [hX]; exact ⟨Nat.le_of_ble_eq_true rfl, Nat.le_of_ble_eq_true rfl⟩) rfl (Nat.le_of_ble_eq_true rfl) rfl rfl rfl dX4_take_73 (kk_sI (fun v13 I13 J13 h => ?_))
      refine wz_iadd C dX4_take_76 ?_
      refine wd_putI C f_X4_take_62 fp_X4_4 (sOc hz rfl) dX4_take_77 (fun I14 e => ?_)
      replace h := h I14 e
      refine wz_iinc_3 C rfl dX4_take_80 ?_
      refine wz_goto C dX4_take_83 (tgt := 51) (by decide) ?_
      exact w51 (l3 + 1) I14 J13 h
set_option maxHeartbeats 4000000 in
set_option maxRecDepth 100000 in
theorem k_X4_take (G : KG) (hG : KokC G) (k1 : Nat) (k2 : Nat) (I : Ii) (J : Jj) (Q : Ii → Jj → Prop) (h : wp_X4_take k1 k2 I J Q) : Ctr G yX4_take wsX4_take rm_X4_take [.ref (kadr G 113), .ref (kadr G k1), .ref (kadr G k2)] (I, J) (QsV Q) := by
  unfold wp_X4_take at h
  obtain ⟨hk1, h⟩ := h
  obtain ⟨hk2, h⟩ := h
  refine Ctr.ofZ (cc := cX4_take) (nL := 4) (ret := none) [some (.ref (kadr G 113)), some (.ref (kadr G k1)), some (.ref (kadr G k2)), none] hG.1 (by decide +kernel) rfl (Nat.le_of_ble_eq_true rfl) (Nat.le_of_ble_eq_true rfl) (by simp [lvA, lv_args, Value.category]) ?_
  intro X hX C
  have hz := hG.2
  refine wz_aload_n C rfl rfl dX4_take_0 ?_
  refine wz_aload_n C rfl rfl dX4_take_1 ?_
  refine wm_callV C (o := k2) (As := []) (st := [.ref (kadr G 113)]) (a' := 0) (b' := 0) (shK_c hz (spX8 hk2)) rfl (k_X8_groupCount G hG k2 I J _ h) 0 gX4_take_X8_groupCount rfl (by decide +kernel) (by rw [hX]; exact ⟨Nat.le_of_ble_eq_true rfl, Nat.le_of_ble_eq_true rfl⟩) rfl (Nat.le_of_ble_eq_true rfl) rfl rfl rfl dX4_take_2 (kk_sI (fun v1 I1 J1 h => ?_))
  refine wd_putI C f_X4_take_36 fp_X4_0 (sOc hz rfl) dX4_take_5 (fun I2 e => ?_)
  replace h := h I2 e
  refine wz_aload_n C rfl rfl dX4_take_8 ?_
  refine wz_aload_n C rfl rfl dX4_take_9 ?_
  refine wz_getI C rfl f_X4_take_40 (sOc hz (soX2_2 hk1)) dX4_take_10 ?_
  refine wd_putI C f_X4_take_45 fp_X4_1 (sOc hz rfl) dX4_take_13 (fun I3 e => ?_)
  replace h := h I3 e
  refine wz_aload_n C rfl rfl dX4_take_16 ?_
  refine wz_aload_n C rfl rfl dX4_take_17 ?_
  refine wm_callV C (o := k1) (As := []) (st := [.ref (kadr G 113)]) (a' := 0) (b' := 0) (shK_c hz (spX2 hk1)) rfl (k_X2_limit G hG k1 I3 J1 _ h) 0 gX4_take_X2_limit rfl (by decide +kernel) (by rw [hX]; exact ⟨Nat.le_of_ble_eq_true rfl, Nat.le_of_ble_eq_true rfl⟩) rfl (Nat.le_of_ble_eq_true rfl) rfl rfl rfl dX4_take_18 (kk_sI (fun v4 I4 J4 h => ?_))
  refine wd_putI C f_X4_take_49 fp_X4_2 (sOc hz rfl) dX4_take_21 (fun I5 e => ?_)
  replace h := h I5 e
  refine wz_aload_n C rfl rfl dX4_take_24 ?_
  refine wz_aload_n C rfl rfl dX4_take_25 ?_
  refine wz_getI C rfl f_X4_take_51 (sOc hz (soX8_1 hk2)) dX4_take_26 ?_
  refine wd_putI C f_X4_take_54 fp_X4_3 (sOc hz rfl) dX4_take_29 (fun I6 e => ?_)
  replace h := h I6 e
  refine wz_aload_n C rfl rfl dX4_take_32 ?_
  refine wz_aload_n C rfl rfl dX4_take_33 ?_
  refine wz_aload_n C rfl rfl dX4_take_34 ?_
  refine wm_callV C (o := 113) (As := [.ref (kadr G k1), .ref (kadr G k2)]) (st := []) (a' := 0) (b' := 0) (shK_c hz rfl) rfl (k_X4_takeVertices G hG k1 k2 I6 J4 _ h) 2 gX4_take_X4_takeVertices rfl (by decide +kernel) (by rw [hX]; exact ⟨Nat.le_of_ble_eq_true rfl, Nat.le_of_ble_eq_true rfl⟩) rfl (Nat.le_of_ble_eq_true rfl) rfl rfl rfl dX4_take_35 (kk_sV (fun I7 J7 h => ?_))
  refine wz_aload_n C rfl rfl dX4_take_38 ?_
  refine wz_aload_n C rfl rfl dX4_take_39 ?_
  refine wz_aload_n C rfl rfl dX4_take_40 ?_
  refine wm_callV C (o := 113) (As := [.ref (kadr G k1), .ref (kadr G k2)]) (st := []) (a' := 0) (b' := 0) (shK_c hz rfl) rfl (k_X4_takeEdges G hG k1 k2 I7 J7 _ h) 2 gX4_take_X4_takeEdges rfl (by decide +kernel) (by rw [hX]; exact ⟨Nat.le_of_ble_eq_true rfl, Nat.le_of_ble_eq_true rfl⟩) rfl (Nat.le_of_ble_eq_true rfl) rfl rfl rfl dX4_take_41 (kk_sV (fun I8 J8 h => ?_))
  refine wz_aload_n C rfl rfl dX4_take_44 ?_
  refine wz_iconst C dX4_take_45 ?_
  refine wd_putI C f_X4_take_62 fp_X4_4 (sOc hz rfl) dX4_take_46 (fun I9 e => ?_)
  replace h := h I9 e
  refine wz_iconst C dX4_take_49 ?_
  refine wz_istore_3 C rfl dX4_take_50 ?_
  obtain ⟨n, h⟩ := h
  exact Wz.drop (lk_X4_take_51 G hG X hX C k1 k2 hk1 hk2 Q n 0 I9 J8 h) (And.intro rfl (And.intro rfl trivial))
theorem in_X4_chosenStep_X4 : ∀ w ∈ wsX40, w ∈ wsX4_chosenStep := by decide +kernel
theorem f_X4_chosenStep_62 : FLk wsX4_chosenStep RX4 62 7 4 := flk 7 4 rfl tyX4_ok nmX4 in_X4_chosenStep_X4 (by decide) (by decide +kernel)
def rm_X4_chosenStep : Room := { frames := 3, cells := 0, slots := 0, locals := 77 }
set_option maxHeartbeats 4000000 in
set_option maxRecDepth 100000 in
theorem bk_X4_chosenStep_16 (G : KG) (hG : KokC G) (X : KX) (hX : KR X = rm_X4_chosenStep) (C : Fr G X cX4_chosenStep 2 yX4_chosenStep.cls (some .int) wsX4_chosenStep) (Q : Int → Ii → Jj → Prop) (t0 : Int) (I : Ii) (J : Jj) (h : B_X4_chosenStep_16 Q t0 I J)   : Wz G X 2 (QsU G X (QsI Q)) 0 0 16 [some (.ref (kadr G 113)), none] [.int (iZ t0)] I J := by
  have hz := hG.2
  unfold B_X4_chosenStep_16 at h
  refine wz_istore_1 C rfl dX4_chosenStep_16 ?_
  refine wz_iload_n C rfl rfl dX4_chosenStep_17 ?_
  refine wz_iconst C dX4_chosenStep_18 ?_
  obtain ⟨g3, h⟩ := h
  refine wz_icmp_eq C (tgt := 26) g3 (by decide) dX4_chosenStep_19 (by decide) (fun c => ?_) (fun c => ?_)
  · replace h := h.1 c
    refine wz_aload_n C rfl rfl dX4_chosenStep_26 ?_
    refine wz_iconst C dX4_chosenStep_27 ?_
    refine wm_callV C (o := 113) (As := [.int (iZ 0)]) (st := []) (a' := 0) (b' := 0) (shK_c hz rfl) rfl (k_X4_greatestGain G hG 0 I J _ h) 1 gX4_chosenStep_X4_greatestGain rfl (by decide +kernel) (by rw [hX]; exact ⟨Nat.le_of_ble_eq_true rfl, Nat.le_of_ble_eq_true rfl⟩) rfl (Nat.le_of_ble_eq_true rfl) rfl rfl rfl dX4_chosenStep_28 (kk_sI (fun v4 I4 J4 h => ?_))
    exact wz_iret C dX4_chosenStep_31 ⟨_, rfl, h⟩
  · replace h := h.2 c
    refine wz_iload_n C rfl rfl dX4_chosenStep_22 ?_
    refine wz_goto C dX4_chosenStep_23 (tgt := 31) (by decide) ?_
    exact wz_iret C dX4_chosenStep_31 ⟨_, rfl, h⟩
set_option maxHeartbeats 4000000 in
set_option maxRecDepth 100000 in
theorem k_X4_chosenStep (G : KG) (hG : KokC G) (I : Ii) (J : Jj) (Q : Int → Ii → Jj → Prop) (h : wp_X4_chosenStep I J Q) : Ctr G yX4_chosenStep wsX4_chosenStep rm_X4_chosenStep [.ref (kadr G 113)] (I, J) (QsI Q) := by
  unfold wp_X4_chosenStep at h
  skip
  refine Ctr.ofZ (cc := cX4_chosenStep) (nL := 2) (ret := (some .int)) [some (.ref (kadr G 113)), none] hG.1 (by decide +kernel) rfl (Nat.le_of_ble_eq_true rfl) (Nat.le_of_ble_eq_true rfl) (by simp [lvA, lv_args, Value.category]) ?_
  intro X hX C
  have hz := hG.2
  refine wz_aload_n C rfl rfl dX4_chosenStep_0 ?_
  refine wz_getI C rfl f_X4_chosenStep_62 (sOc hz rfl) dX4_chosenStep_1 ?_
  obtain ⟨g1, h⟩ := h
  refine wz_if_le C (tgt := 15) g1 dX4_chosenStep_4 (by decide) (fun c => ?_) (fun c => ?_)
  · replace h := h.1 c
    refine wz_iconst C dX4_chosenStep_15 ?_
    exact bk_X4_chosenStep_16 G hG X hX C Q (-1) I J h
  · replace h := h.2 c
    refine wz_aload_n C rfl rfl dX4_chosenStep_7 ?_
    refine wz_iconst C dX4_chosenStep_8 ?_
    refine wm_callV C (o := 113) (As := [.int (iZ 1)]) (st := []) (a' := 0) (b' := 0) (shK_c hz rfl) rfl (k_X4_greatestGain G hG 1 I J _ h) 1 gX4_chosenStep_X4_greatestGain rfl (by decide +kernel) (by rw [hX]; exact ⟨Nat.le_of_ble_eq_true rfl, Nat.le_of_ble_eq_true rfl⟩) rfl (Nat.le_of_ble_eq_true rfl) rfl rfl rfl dX4_chosenStep_9 (kk_sI (fun v2 I2 J2 h => ?_))
    refine wz_goto C dX4_chosenStep_12 (tgt := 16) (by decide) ?_
    exact bk_X4_chosenStep_16 G hG X hX C Q v2 I2 J2 h
theorem in_X5_findMates_X4 : ∀ w ∈ wsX40, w ∈ wsX5_findMates := by decide +kernel
theorem in_X5_findMates_X5 : ∀ w ∈ wsX50, w ∈ wsX5_findMates := by decide +kernel
theorem f_X5_findMates_15 : FLk wsX5_findMates RX5 15 8 1 := flk 8 1 rfl tyX5_ok nmX5 in_X5_findMates_X5 (by decide) (by decide +kernel)
theorem f_X5_findMates_59 : FLk wsX5_findMates RX5 59 8 4 := flk 8 4 rfl tyX5_ok nmX5 in_X5_findMates_X5 (by decide) (by decide +kernel)
theorem fp_X5_4 : FPk 8 4 .boolean := fun C9 T9 N9 h => by
  have h : some (RX5, TX5, 5) = some (C9, T9, N9) := h
  cases h
  exact ⟨rfl, by decide +kernel⟩
theorem f_X5_findMates_63 : FLk wsX5_findMates RX5 63 7 0 := flk 7 0 rfl tyX4_ok nmX4 in_X5_findMates_X4 (by decide) (by decide +kernel)
def rm_X5_findMates : Room := { frames := 2, cells := 0, slots := 0, locals := 47 }
set_option maxHeartbeats 4000000 in
set_option maxRecDepth 100000 in
theorem bk_X5_findMates_45 (G : KG) (hG : KokC G) (X : KX) (hX : KR X = rm_X5_findMates) (C : Fr G X cX5_findMates 4 yX5_findMates.cls none wsX5_findMates) (Q : Ii → Jj → Prop) (r15 : Int → Ii → Jj → Prop) (w15 : ∀ (l2 : Int) (I : Ii) (J : Jj), r15 l2 I J → Wz G X 4 (QsU G X (QsV Q)) 0 0 15 [some (.ref (kadr G 120)), some (.ref (kadr G 113)), some (.int (iZ l2)), none] [] I J) (l2 : Int) (t0 : Int) (I : Ii) (J : Jj) (h : B_X5_findMates_45 Q r15 l2 t0 I J)   : Wz G X 4 (QsU G X (QsV Q)) 0 0 45 [some (.ref (kadr G 120)), some (.ref (kadr G 113)), some (.int (iZ l2)), none] [.int (iZ t0)] I J := by
  have hz := hG.2
  unfold B_X5_findMates_45 at h
  refine wz_istore_3 C rfl dX5_findMates_45 ?_
  refine wz_iload_n C rfl rfl dX5_findMates_46 ?_
  refine wz_iconst C dX5_findMates_47 ?_
  obtain ⟨g8, h⟩ := h
  refine wz_icmp_eq C (tgt := 74) g8 (by decide) dX5_findMates_48 (by decide) (fun c => ?_) (fun c => ?_)
  · replace h := h.1 c
    refine wz_iinc_2 C rfl dX5_findMates_74 ?_
    refine wz_goto C dX5_findMates_77 (tgt := 15) (by decide) ?_
    exact Wz.drop (w15 (l2 + 1) I J h) (And.intro rfl (And.intro rfl (And.intro rfl trivial)))
  · replace h := h.2 c
    refine wz_aload_n C rfl rfl dX5_findMates_51 ?_
    refine wz_getR C (j := 122) f_X5_findMates_15 (sOc hz rfl) (by decide) dX5_findMates_52 ?_
    refine wz_iload_n C rfl rfl dX5_findMates_55 ?_
    refine wz_iload_n C rfl rfl dX5_findMates_56 ?_
    refine wm_callSN C (As := [.ref (kadr G 122), .int (iZ l2), .int (iZ t0)]) (st := []) (a' := 0) (b' := 0) (host := "ShareGraph") (k_X11_put G hG 122 l2 t0 I J _ h) 3 gX5_findMates_X11_put_n72 (by decide +kernel) (by decide +kernel) (by decide +kernel) rfl (by decide +kernel) (by rw [hX]; exact ⟨Nat.le_of_ble_eq_true rfl, Nat.le_of_ble_eq_true rfl⟩) rfl (Nat.le_of_ble_eq_true rfl) rfl rfl rfl dX5_findMates_57 (kk_sV (fun I9 J9 h => ?_))
    refine wz_aload_n C rfl rfl dX5_findMates_60 ?_
    refine wz_getR C (j := 122) f_X5_findMates_15 (sOc hz rfl) (by decide) dX5_findMates_61 ?_
    refine wz_iload_n C rfl rfl dX5_findMates_64 ?_
    refine wz_iload_n C rfl rfl dX5_findMates_65 ?_
    refine wm_callSN C (As := [.ref (kadr G 122), .int (iZ t0), .int (iZ l2)]) (st := []) (a' := 0) (b' := 0) (host := "ShareGraph") (k_X11_put G hG 122 t0 l2 I9 J9 _ h) 3 gX5_findMates_X11_put_n72 (by decide +kernel) (by decide +kernel) (by decide +kernel) rfl (by decide +kernel) (by rw [hX]; exact ⟨Nat.le_of_ble_eq_true rfl, Nat.le_of_ble_eq_true rfl⟩) rfl (Nat.le_of_ble_eq_true rfl) rfl rfl rfl dX5_findMates_66 (kk_sV (fun I10 J10 h => ?_))
    refine wz_aload_n C rfl rfl dX5_findMates_69 ?_
    refine wz_iconst C dX5_findMates_70 ?_
    refine wd_putZ C f_X5_findMates_59 fp_X5_4 (Or.inr rfl) (sOc hz rfl) dX5_findMates_71 (fun I11 e => ?_)
    replace h := h I11 e
    refine wz_iinc_2 C rfl dX5_findMates_74 ?_
    refine wz_goto C dX5_findMates_77 (tgt := 15) (by decide) ?_
    exact Wz.drop (w15 (l2 + 1) I11 J10 h) (And.intro rfl (And.intro rfl (And.intro rfl trivial)))
set_option maxHeartbeats 4000000 in
set_option maxRecDepth 100000 in
theorem lk_X5_findMates_15 (G : KG) (hG : KokC G) (X : KX) (hX : KR X = rm_X5_findMates) (C : Fr G X cX5_findMates 4 yX5_findMates.cls none wsX5_findMates) (Q : Ii → Jj → Prop) : ∀ (n : Nat) (l2 : Int) (I : Ii) (J : Jj), L_X5_findMates_15 Q n l2 I J → Wz G X 4 (QsU G X (QsV Q)) 0 0 15 [some (.ref (kadr G 120)), some (.ref (kadr G 113)), some (.int (iZ l2)), none] [] I J := by
  have hz := hG.2
  intro n
  induction n with
  | zero => intro l2 I J h; exact False.elim h
  | succ n w15 =>
    intro l2 I J h
    have h : Lb_X5_findMates_15 Q (L_X5_findMates_15 Q n) l2 I J := h
    unfold Lb_X5_findMates_15 at h
    generalize L_X5_findMates_15 Q n = r15 at h w15
    refine wz_iload_n C rfl rfl dX5_findMates_15 ?_
    refine wz_aload_n C rfl rfl dX5_findMates_16 ?_
    refine wz_getI C rfl f_X5_findMates_63 (sOc hz rfl) dX5_findMates_17 ?_
    obtain ⟨g3, h⟩ := h
    obtain ⟨g4, h⟩ := h
    refine wz_icmp_ge C (tgt := 80) g3 g4 dX5_findMates_20 (by decide) (fun c => ?_) (fun c => ?_)
    · replace h := h.1 c
      exact wz_vret C dX5_findMates_80 ⟨rfl, h⟩
    · replace h := h.2 c
      refine wz_aload_n C rfl rfl dX5_findMates_23 ?_
      refine wz_getR C (j := 122) f_X5_findMates_15 (sOc hz rfl) (by decide) dX5_findMates_24 ?_
      refine wz_iload_n C rfl rfl dX5_findMates_27 ?_
      refine wm_callSN C (As := [.ref (kadr G 122), .int (iZ l2)]) (st := []) (a' := 0) (b' := 0) (host := "ShareGraph") (k_X11_at G hG 122 l2 I J _ h) 2 gX5_findMates_X11_at_n45 (by decide +kernel) (by decide +kernel) (by decide +kernel) rfl (by decide +kernel) (by rw [hX]; exact ⟨Nat.le_of_ble_eq_true rfl, Nat.le_of_ble_eq_true rfl⟩) rfl (Nat.le_of_ble_eq_true rfl) rfl rfl rfl dX5_findMates_28 (kk_sI (fun v5 I5 J5 h => ?_))
      refine wz_iconst C dX5_findMates_31 ?_
      obtain ⟨g6, h⟩ := h
      refine wz_icmp_ne C (tgt := 44) g6 (by decide) dX5_findMates_32 (by decide) (fun c => ?_) (fun c => ?_)
      · replace h := h.1 c
        refine wz_iconst C dX5_findMates_44 ?_
        exact bk_X5_findMates_45 G hG X hX C Q r15 w15 l2 (-1) I5 J5 h
      · replace h := h.2 c
        refine wz_aload_n C rfl rfl dX5_findMates_35 ?_
        refine wz_iload_n C rfl rfl dX5_findMates_36 ?_
        refine wz_aload_n C rfl rfl dX5_findMates_37 ?_
        refine wm_callV C (o := 120) (As := [.int (iZ l2), .ref (kadr G 113)]) (st := []) (a' := 0) (b' := 0) (shK_c hz rfl) rfl (k_X5_mateBehind G hG l2 I5 J5 _ h) 2 gX5_findMates_X5_mateBehind rfl (by decide +kernel) (by rw [hX]; exact ⟨Nat.le_of_ble_eq_true rfl, Nat.le_of_ble_eq_true rfl⟩) rfl (Nat.le_of_ble_eq_true rfl) rfl rfl rfl dX5_findMates_38 (kk_sI (fun v7 I7 J7 h => ?_))
        refine wz_goto C dX5_findMates_41 (tgt := 45) (by decide) ?_
        exact bk_X5_findMates_45 G hG X hX C Q r15 w15 l2 v7 I7 J7 h
set_option maxHeartbeats 4000000 in
set_option maxRecDepth 100000 in
theorem k_X5_findMates (G : KG) (hG : KokC G) (I : Ii) (J : Jj) (Q : Ii → Jj → Prop) (h : wp_X5_findMates I J Q) : Ctr G yX5_findMates wsX5_findMates rm_X5_findMates [.ref (kadr G 120), .ref (kadr G 113)] (I, J) (QsV Q) := by
  unfold wp_X5_findMates at h
  skip
  refine Ctr.ofZ (cc := cX5_findMates) (nL := 4) (ret := none) [some (.ref (kadr G 120)), some (.ref (kadr G 113)), none, none] hG.1 (by decide +kernel) rfl (Nat.le_of_ble_eq_true rfl) (Nat.le_of_ble_eq_true rfl) (by simp [lvA, lv_args, Value.category]) ?_
  intro X hX C
  have hz := hG.2
  refine wz_aload_n C rfl rfl dX5_findMates_0 ?_
  refine wz_getR C (j := 122) f_X5_findMates_15 (sOc hz rfl) (by decide) dX5_findMates_1 ?_
  refine wz_iconst C dX5_findMates_4 ?_
  refine wm_callSo C (As := [.ref (kadr G 122), .int (iZ (-1))]) (st := []) (a' := 0) (b' := 0) (k_J7_fill_53178 G hG 122 (-1) I J _ h) 2 (goodIn_wsS gX5_findMates_J7_fill_53178) (by decide +kernel) (by decide +kernel) (by decide +kernel) rfl (by decide +kernel) (by rw [hX]; exact ⟨Nat.le_of_ble_eq_true rfl, Nat.le_of_ble_eq_true rfl⟩) rfl (Nat.le_of_ble_eq_true rfl) rfl rfl rfl dX5_findMates_5 (kk_sV (fun I1 J1 h => ?_))
  refine wz_aload_n C rfl rfl dX5_findMates_8 ?_
  refine wz_iconst C dX5_findMates_9 ?_
  refine wd_putZ C f_X5_findMates_59 fp_X5_4 (Or.inl rfl) (sOc hz rfl) dX5_findMates_10 (fun I2 e => ?_)
  replace h := h I2 e
  refine wz_iconst C dX5_findMates_13 ?_
  refine wz_istore_2 C rfl dX5_findMates_14 ?_
  obtain ⟨n, h⟩ := h
  exact lk_X5_findMates_15 G hG X hX C Q n 0 I2 J1 h
theorem in_X8_copyFrom_X8 : ∀ w ∈ wsX80, w ∈ wsX8_copyFrom := by decide +kernel
theorem f_X8_copyFrom_24 : FLk wsX8_copyFrom RX8 24 11 0 := flk 11 0 rfl tyX8_ok nmX8 in_X8_copyFrom_X8 (by decide) (by decide +kernel)
theorem f_X8_copyFrom_33 : FLk wsX8_copyFrom RX8 33 11 1 := flk 11 1 rfl tyX8_ok nmX8 in_X8_copyFrom_X8 (by decide) (by decide +kernel)
theorem f_X8_copyFrom_34 : FLk wsX8_copyFrom RX8 34 11 2 := flk 11 2 rfl tyX8_ok nmX8 in_X8_copyFrom_X8 (by decide) (by decide +kernel)
theorem f_X8_copyFrom_9 : FLk wsX8_copyFrom RX8 9 11 3 := flk 11 3 rfl tyX8_ok nmX8 in_X8_copyFrom_X8 (by decide) (by decide +kernel)
theorem f_X8_copyFrom_15 : FLk wsX8_copyFrom RX8 15 11 4 := flk 11 4 rfl tyX8_ok nmX8 in_X8_copyFrom_X8 (by decide) (by decide +kernel)
theorem f_X8_copyFrom_18 : FLk wsX8_copyFrom RX8 18 11 5 := flk 11 5 rfl tyX8_ok nmX8 in_X8_copyFrom_X8 (by decide) (by decide +kernel)
theorem f_X8_copyFrom_21 : FLk wsX8_copyFrom RX8 21 11 6 := flk 11 6 rfl tyX8_ok nmX8 in_X8_copyFrom_X8 (by decide) (by decide +kernel)
def rm_X8_copyFrom : Room := { frames := 2, cells := 0, slots := 0, locals := 81 }
set_option maxHeartbeats 4000000 in
set_option maxRecDepth 100000 in
theorem k_X8_copyFrom (G : KG) (hG : KokC G) (k0 : Nat) (k1 : Nat) (I : Ii) (J : Jj) (Q : Ii → Jj → Prop) (h : wp_X8_copyFrom k0 k1 I J Q) : Ctr G yX8_copyFrom wsX8_copyFrom rm_X8_copyFrom [.ref (kadr G k0), .ref (kadr G k1)] (I, J) (QsV Q) := by
  unfold wp_X8_copyFrom at h
  obtain ⟨hk0, h⟩ := h
  obtain ⟨hk1, h⟩ := h
  refine Ctr.ofZ (cc := cX8_copyFrom) (nL := 2) (ret := none) [some (.ref (kadr G k0)), some (.ref (kadr G k1))] hG.1 (by decide +kernel) rfl (Nat.le_of_ble_eq_true rfl) (Nat.le_of_ble_eq_true rfl) (by simp [lvA, lv_args, Value.category]) ?_
  intro X hX C
  have hz := hG.2
  refine wz_aload_n C rfl rfl dX8_copyFrom_0 ?_
  refine wz_aload_n C rfl rfl dX8_copyFrom_1 ?_
  refine wz_getI C rfl f_X8_copyFrom_24 (sOc hz (soX8_0 hk1)) dX8_copyFrom_2 ?_
  refine wd_putI C f_X8_copyFrom_24 fp_X8_0 (sOc hz (soX8_0 hk0)) dX8_copyFrom_5 (fun I1 e => ?_)
  replace h := h I1 e
  refine wz_aload_n C rfl rfl dX8_copyFrom_8 ?_
  refine wz_aload_n C rfl rfl dX8_copyFrom_9 ?_
  refine wz_getI C rfl f_X8_copyFrom_33 (sOc hz (soX8_1 hk1)) dX8_copyFrom_10 ?_
  refine wd_putI C f_X8_copyFrom_33 fp_X8_1 (sOc hz (soX8_1 hk0)) dX8_copyFrom_13 (fun I2 e => ?_)
  replace h := h I2 e
  refine wz_aload_n C rfl rfl dX8_copyFrom_16 ?_
  refine wz_aload_n C rfl rfl dX8_copyFrom_17 ?_
  refine wz_getI C rfl f_X8_copyFrom_34 (sOc hz (soX8_2 hk1)) dX8_copyFrom_18 ?_
  refine wd_putI C f_X8_copyFrom_34 fp_X8_2 (sOc hz (soX8_2 hk0)) dX8_copyFrom_21 (fun I3 e => ?_)
  replace h := h I3 e
  refine wz_aload_n C rfl rfl dX8_copyFrom_24 ?_
  refine wz_getR C (j := k1 + 1) f_X8_copyFrom_9 (sOc hz (soX8_3 hk1)) (by have := sK_ge hk1; omega) dX8_copyFrom_25 ?_
  refine wz_aload_n C rfl rfl dX8_copyFrom_28 ?_
  refine wz_getR C (j := k0 + 1) f_X8_copyFrom_9 (sOc hz (soX8_3 hk0)) (by have := sK_ge hk0; omega) dX8_copyFrom_29 ?_
  refine wm_callSN C (As := [.ref (kadr G (k1 + 1)), .ref (kadr G (k0 + 1))]) (st := []) (a' := 0) (b' := 0) (host := "ShareGraph") (k_X11_copy G hG (k1 + 1) (k0 + 1) I3 J _ h) 2 gX8_copyFrom_X11_copy_n50 (by decide +kernel) (by decide +kernel) (by decide +kernel) rfl (by decide +kernel) (by rw [hX]; exact ⟨Nat.le_of_ble_eq_true rfl, Nat.le_of_ble_eq_true rfl⟩) rfl (Nat.le_of_ble_eq_true rfl) rfl rfl rfl dX8_copyFrom_32 (kk_sV (fun I4 J4 h => ?_))
  refine wz_aload_n C rfl rfl dX8_copyFrom_35 ?_
  refine wz_getR C (j := k1 + 2) f_X8_copyFrom_15 (sOc hz (soX8_4 hk1)) (by have := sK_ge hk1; omega) dX8_copyFrom_36 ?_
  refine wz_aload_n C rfl rfl dX8_copyFrom_39 ?_
  refine wz_getR C (j := k0 + 2) f_X8_copyFrom_15 (sOc hz (soX8_4 hk0)) (by have := sK_ge hk0; omega) dX8_copyFrom_40 ?_
  refine wm_callSN C (As := [.ref (kadr G (k1 + 2)), .ref (kadr G (k0 + 2))]) (st := []) (a' := 0) (b' := 0) (host := "ShareGraph") (k_X11_copy G hG (k1 + 2) (k0 + 2) I4 J4 _ h) 2 gX8_copyFrom_X11_copy_n50 (by decide +kernel) (by decide +kernel) (by decide +kernel) rfl (by decide +kernel) (by rw [hX]; exact ⟨Nat.le_of_ble_eq_true rfl, Nat.le_of_ble_eq_true rfl⟩) rfl (Nat.le_of_ble_eq_true rfl) rfl rfl rfl dX8_copyFrom_43 (kk_sV (fun I5 J5 h => ?_))
  refine wz_aload_n C rfl rfl dX8_copyFrom_46 ?_
  refine wz_getR C (j := k1 + 3) f_X8_copyFrom_18 (sOc hz (soX8_5 hk1)) (by have := sK_ge hk1; omega) dX8_copyFrom_47 ?_
  refine wz_aload_n C rfl rfl dX8_copyFrom_50 ?_
  refine wz_getR C (j := k0 + 3) f_X8_copyFrom_18 (sOc hz (soX8_5 hk0)) (by have := sK_ge hk0; omega) dX8_copyFrom_51 ?_
  refine wm_callSN C (As := [.ref (kadr G (k1 + 3)), .ref (kadr G (k0 + 3))]) (st := []) (a' := 0) (b' := 0) (host := "ShareGraph") (k_X11_copy G hG (k1 + 3) (k0 + 3) I5 J5 _ h) 2 gX8_copyFrom_X11_copy_n50 (by decide +kernel) (by decide +kernel) (by decide +kernel) rfl (by decide +kernel) (by rw [hX]; exact ⟨Nat.le_of_ble_eq_true rfl, Nat.le_of_ble_eq_true rfl⟩) rfl (Nat.le_of_ble_eq_true rfl) rfl rfl rfl dX8_copyFrom_54 (kk_sV (fun I6 J6 h => ?_))
  refine wz_aload_n C rfl rfl dX8_copyFrom_57 ?_
  refine wz_getR C (j := k1 + 4) f_X8_copyFrom_21 (sOc hz (soX8_6 hk1)) (by have := sK_ge hk1; omega) dX8_copyFrom_58 ?_
  refine wz_aload_n C rfl rfl dX8_copyFrom_61 ?_
  refine wz_getR C (j := k0 + 4) f_X8_copyFrom_21 (sOc hz (soX8_6 hk0)) (by have := sK_ge hk0; omega) dX8_copyFrom_62 ?_
  refine wm_callSN C (As := [.ref (kadr G (k1 + 4)), .ref (kadr G (k0 + 4))]) (st := []) (a' := 0) (b' := 0) (host := "ShareGraph") (k_X11_copy G hG (k1 + 4) (k0 + 4) I6 J6 _ h) 2 gX8_copyFrom_X11_copy_n50 (by decide +kernel) (by decide +kernel) (by decide +kernel) rfl (by decide +kernel) (by rw [hX]; exact ⟨Nat.le_of_ble_eq_true rfl, Nat.le_of_ble_eq_true rfl⟩) rfl (Nat.le_of_ble_eq_true rfl) rfl rfl rfl dX8_copyFrom_65 (kk_sV (fun I7 J7 h => ?_))
  exact wz_vret C dX8_copyFrom_68 ⟨rfl, h⟩
theorem in_X10_advance_X10 : ∀ w ∈ wsX100, w ∈ wsX10_advance := by decide +kernel
theorem f_X10_advance_35 : FLk wsX10_advance RX10 35 13 4 := flk 13 4 rfl tyX10_ok nmX10 in_X10_advance_X10 (by decide) (by decide +kernel)
theorem f_X10_advance_29 : FLk wsX10_advance RX10 29 13 2 := flk 13 2 rfl tyX10_ok nmX10 in_X10_advance_X10 (by decide) (by decide +kernel)
theorem f_X10_advance_9 : FLk wsX10_advance RX10 9 13 0 := flk 13 0 rfl tyX10_ok nmX10 in_X10_advance_X10 (by decide) (by decide +kernel)
theorem f_X10_advance_32 : FLk wsX10_advance RX10 32 13 3 := flk 13 3 rfl tyX10_ok nmX10 in_X10_advance_X10 (by decide) (by decide +kernel)
theorem f_X10_advance_38 : FLk wsX10_advance RX10 38 13 5 := flk 13 5 rfl tyX10_ok nmX10 in_X10_advance_X10 (by decide) (by decide +kernel)
def rm_X10_advance : Room := { frames := 2, cells := 0, slots := 0, locals := 42 }
set_option maxHeartbeats 4000000 in
set_option maxRecDepth 100000 in
theorem bk_X10_advance_41 (G : KG) (hG : KokC G) (X : KX) (hX : KR X = rm_X10_advance) (C : Fr G X cX10_advance 2 yX10_advance.cls none wsX10_advance) (Q : Ii → Jj → Prop)  (I : Ii) (J : Jj) (h : B_X10_advance_41 Q  I J)   : Wz G X 2 (QsU G X (QsV Q)) 0 0 41 [some (.ref (kadr G 101)), none] [] I J := by
  have hz := hG.2
  unfold B_X10_advance_41 at h
  refine wz_aload_n C rfl rfl dX10_advance_41 ?_
  refine wz_aload_n C rfl rfl dX10_advance_42 ?_
  refine wz_getI C rfl f_X10_advance_35 (sOc hz rfl) dX10_advance_43 ?_
  refine wd_putI C f_X10_advance_32 fp_X10_3 (sOc hz rfl) dX10_advance_46 (fun I6 e => ?_)
  replace h := h I6 e
  refine wz_aload_n C rfl rfl dX10_advance_49 ?_
  refine wz_getI C rfl f_X10_advance_35 (sOc hz rfl) dX10_advance_50 ?_
  refine wz_aload_n C rfl rfl dX10_advance_53 ?_
  refine wz_getI C rfl f_X10_advance_29 (sOc hz rfl) dX10_advance_54 ?_
  obtain ⟨g7, h⟩ := h
  obtain ⟨g8, h⟩ := h
  refine wz_icmp_lt C (tgt := 66) g7 g8 dX10_advance_57 (by decide) (fun c => ?_) (fun c => ?_)
  · replace h := h.1 c
    refine wz_aload_n C rfl rfl dX10_advance_66 ?_
    refine wz_getR C (j := 102) f_X10_advance_9 (sOc hz rfl) (by decide) dX10_advance_67 ?_
    refine wz_aload_n C rfl rfl dX10_advance_70 ?_
    refine wz_getI C rfl f_X10_advance_35 (sOc hz rfl) dX10_advance_71 ?_
    refine wm_callSN C (As := [.ref (kadr G 102), .int (iZ (I6 101 4))]) (st := []) (a' := 0) (b' := 0) (host := "ShareGraph") (k_X11_at G hG 102 (I6 101 4) I6 J _ h) 2 gX10_advance_X11_at_n47 (by decide +kernel) (by decide +kernel) (by decide +kernel) rfl (by decide +kernel) (by rw [hX]; exact ⟨Nat.le_of_ble_eq_true rfl, Nat.le_of_ble_eq_true rfl⟩) rfl (Nat.le_of_ble_eq_true rfl) rfl rfl rfl dX10_advance_74 (kk_sI (fun v9 I9 J9 h => ?_))
    refine wz_istore_1 C rfl dX10_advance_77 ?_
    refine wz_iload_n C rfl rfl dX10_advance_78 ?_
    refine wm_callS C (As := [.int (iZ v9)]) (st := []) (a' := 0) (b' := 0) (k_X10_isLetter G hG v9 I9 J9 _ h) 1 gX10_advance_X10_isLetter rfl (by decide +kernel) (by rw [hX]; exact ⟨Nat.le_of_ble_eq_true rfl, Nat.le_of_ble_eq_true rfl⟩) rfl (Nat.le_of_ble_eq_true rfl) rfl rfl rfl dX10_advance_79 (kk_sB (fun v10 I10 J10 hb10 h => ?_))
    refine wz_if_eq C (tgt := 92) (rgB hb10) dX10_advance_82 (by decide) (fun c => ?_) (fun c => ?_)
    · replace h := h.1 c
      refine wz_iload_n C rfl rfl dX10_advance_92 ?_
      refine wm_callS C (As := [.int (iZ v9)]) (st := []) (a' := 0) (b' := 0) (k_X10_isDigit G hG v9 I10 J10 _ h) 1 gX10_advance_X10_isDigit rfl (by decide +kernel) (by rw [hX]; exact ⟨Nat.le_of_ble_eq_true rfl, Nat.le_of_ble_eq_true rfl⟩) rfl (Nat.le_of_ble_eq_true rfl) rfl rfl rfl dX10_advance_93 (kk_sB (fun v11 I11 J11 hb11 h => ?_))
      refine wz_if_eq C (tgt := 106) (rgB hb11) dX10_advance_96 (by decide) (fun c => ?_) (fun c => ?_)
      · replace h := h.1 c
        refine wz_aload_n C rfl rfl dX10_advance_106 ?_
        refine wz_iload_n C rfl rfl dX10_advance_107 ?_
        refine wm_callS C (As := [.int (iZ v9)]) (st := [.ref (kadr G 101)]) (a' := 0) (b' := 0) (k_X10_signKind G hG v9 I11 J11 _ h) 1 gX10_advance_X10_signKind rfl (by decide +kernel) (by rw [hX]; exact ⟨Nat.le_of_ble_eq_true rfl, Nat.le_of_ble_eq_true rfl⟩) rfl (Nat.le_of_ble_eq_true rfl) rfl rfl rfl dX10_advance_108 (kk_sI (fun v12 I12 J12 h => ?_))
        refine wd_putI C f_X10_advance_38 fp_X10_5 (sOc hz rfl) dX10_advance_111 (fun I13 e => ?_)
        replace h := h I13 e
        refine wz_aload_n C rfl rfl dX10_advance_114 ?_
        refine wz_dup C rfl dX10_advance_115 ?_
        refine wz_getI C rfl f_X10_advance_35 (sOc hz rfl) dX10_advance_116 ?_
        refine wz_iconst C dX10_advance_119 ?_
        refine wz_iadd C dX10_advance_120 ?_
        refine wd_putI C f_X10_advance_35 fp_X10_4 (sOc hz rfl) dX10_advance_121 (fun I14 e => ?_)
        replace h := h I14 e
        exact wz_vret C dX10_advance_124 ⟨rfl, h⟩
      · replace h := h.2 c
        refine wz_aload_n C rfl rfl dX10_advance_99 ?_
        refine wm_callV C (o := 101) (As := []) (st := []) (a' := 0) (b' := 0) (shK_c hz rfl) rfl (k_X10_takeNumber G hG I11 J11 _ h) 0 gX10_advance_X10_takeNumber rfl (by decide +kernel) (by rw [hX]; exact ⟨Nat.le_of_ble_eq_true rfl, Nat.le_of_ble_eq_true rfl⟩) rfl (Nat.le_of_ble_eq_true rfl) rfl rfl rfl dX10_advance_100 (kk_sV (fun I15 J15 h => ?_))
        refine wz_goto C dX10_advance_103 (tgt := 124) (by decide) ?_
        exact wz_vret C dX10_advance_124 ⟨rfl, h⟩
    · replace h := h.2 c
      refine wz_aload_n C rfl rfl dX10_advance_85 ?_
      refine wm_callV C (o := 101) (As := []) (st := []) (a' := 0) (b' := 0) (shK_c hz rfl) rfl (k_X10_takeWord G hG I10 J10 _ h) 0 gX10_advance_X10_takeWord rfl (by decide +kernel) (by rw [hX]; exact ⟨Nat.le_of_ble_eq_true rfl, Nat.le_of_ble_eq_true rfl⟩) rfl (Nat.le_of_ble_eq_true rfl) rfl rfl rfl dX10_advance_86 (kk_sV (fun I16 J16 h => ?_))
      refine wz_goto C dX10_advance_89 (tgt := 124) (by decide) ?_
      exact wz_vret C dX10_advance_124 ⟨rfl, h⟩
  · replace h := h.2 c
    refine wz_aload_n C rfl rfl dX10_advance_60 ?_
    refine wz_iconst C dX10_advance_61 ?_
    refine wd_putI C f_X10_advance_38 fp_X10_5 (sOc hz rfl) dX10_advance_62 (fun I17 e => ?_)
    replace h := h I17 e
    exact wz_vret C dX10_advance_65 ⟨rfl, h⟩
set_option maxHeartbeats 4000000 in
set_option maxRecDepth 100000 in
theorem lk_X10_advance_0 (G : KG) (hG : KokC G) (X : KX) (hX : KR X = rm_X10_advance) (C : Fr G X cX10_advance 2 yX10_advance.cls none wsX10_advance) (Q : Ii → Jj → Prop) : ∀ (n : Nat)  (I : Ii) (J : Jj), L_X10_advance_0 Q n  I J → Wz G X 2 (QsU G X (QsV Q)) 0 0 0 [some (.ref (kadr G 101)), none] [] I J := by
  have hz := hG.2
  intro n
  induction n with
  | zero => intro  I J h; exact False.elim h
  | succ n w0 =>
    intro  I J h
    have h : Lb_X10_advance_0 Q (L_X10_advance_0 Q n)  I J := h
    unfold Lb_X10_advance_0 at h
    generalize L_X10_advance_0 Q n = r0 at h w0
    refine wz_aload_n C rfl rfl dX10_advance_0 ?_
    refine wz_getI C rfl f_X10_advance_35 (sOc hz rfl) dX10_advance_1 ?_
    refine wz_aload_n C rfl rfl dX10_advance_4 ?_
    refine wz_getI C rfl f_X10_advance_29 (sOc hz rfl) dX10_advance_5 ?_
    obtain ⟨g1, h⟩ := h
    obtain ⟨g2, h⟩ := h
    refine wz_icmp_ge C (tgt := 41) g1 g2 dX10_advance_8 (by decide) (fun c => ?_) (fun c => ?_)
    · replace h := h.1 c
      exact bk_X10_advance_41 G hG X hX C Q I J h
    · replace h := h.2 c
      refine wz_aload_n C rfl rfl dX10_advance_11 ?_
      refine wz_getR C (j := 102) f_X10_advance_9 (sOc hz rfl) (by decide) dX10_advance_12 ?_
      refine wz_aload_n C rfl rfl dX10_advance_15 ?_
      refine wz_getI C rfl f_X10_advance_35 (sOc hz rfl) dX10_advance_16 ?_
      refine wm_callSN C (As := [.ref (kadr G 102), .int (iZ (I 101 4))]) (st := []) (a' := 0) (b' := 0) (host := "ShareGraph") (k_X11_at G hG 102 (I 101 4) I J _ h) 2 gX10_advance_X11_at_n47 (by decide +kernel) (by decide +kernel) (by decide +kernel) rfl (by decide +kernel) (by rw [hX]; exact ⟨Nat.le_of_ble_eq_true rfl, Nat.le_of_ble_eq_true rfl⟩) rfl (Nat.le_of_ble_eq_true rfl) rfl rfl rfl dX10_advance_19 (kk_sI (fun v3 I3 J3 h => ?_))
      refine wm_callS C (As := [.int (iZ v3)]) (st := []) (a' := 0) (b' := 0) (k_X10_isBlank G hG v3 I3 J3 _ h) 1 gX10_advance_X10_isBlank rfl (by decide +kernel) (by rw [hX]; exact ⟨Nat.le_of_ble_eq_true rfl, Nat.le_of_ble_eq_true rfl⟩) rfl (Nat.le_of_ble_eq_true rfl) rfl rfl rfl dX10_advance_22 (kk_sB (fun v4 I4 J4 hb4 h => ?_))
      refine wz_if_eq C (tgt := 41) (rgB hb4) dX10_advance_25 (by decide) (fun c => ?_) (fun c => ?_)
      · replace h := h.1 c
        exact bk_X10_advance_41 G hG X hX C Q I4 J4 h
      · replace h := h.2 c
        refine wz_aload_n C rfl rfl dX10_advance_28 ?_
        refine wz_dup C rfl dX10_advance_29 ?_
        refine wz_getI C rfl f_X10_advance_35 (sOc hz rfl) dX10_advance_30 ?_
        refine wz_iconst C dX10_advance_33 ?_
        refine wz_iadd C dX10_advance_34 ?_
        refine wd_putI C f_X10_advance_35 fp_X10_4 (sOc hz rfl) dX10_advance_35 (fun I5 e => ?_)
        replace h := h I5 e
        refine wz_goto C dX10_advance_38 (tgt := 0) (by decide) ?_
        exact w0 I5 J4 h
set_option maxHeartbeats 4000000 in
set_option maxRecDepth 100000 in
theorem k_X10_advance (G : KG) (hG : KokC G) (I : Ii) (J : Jj) (Q : Ii → Jj → Prop) (h : wp_X10_advance I J Q) : Ctr G yX10_advance wsX10_advance rm_X10_advance [.ref (kadr G 101)] (I, J) (QsV Q) := by
  unfold wp_X10_advance at h
  skip
  refine Ctr.ofZ (cc := cX10_advance) (nL := 2) (ret := none) [some (.ref (kadr G 101)), none] hG.1 (by decide +kernel) rfl (Nat.le_of_ble_eq_true rfl) (Nat.le_of_ble_eq_true rfl) (by simp [lvA, lv_args, Value.category]) ?_
  intro X hX C
  have hz := hG.2
  obtain ⟨n, h⟩ := h
  exact lk_X10_advance_0 G hG X hX C Q n I J h
theorem in_X10_takes_X10 : ∀ w ∈ wsX100, w ∈ wsX10_takes := by decide +kernel
theorem f_X10_takes_38 : FLk wsX10_takes RX10 38 13 5 := flk 13 5 rfl tyX10_ok nmX10 in_X10_takes_X10 (by decide) (by decide +kernel)
def rm_X10_takes : Room := { frames := 3, cells := 0, slots := 0, locals := 63 }
set_option maxHeartbeats 4000000 in
set_option maxRecDepth 100000 in
theorem k_X10_takes (G : KG) (hG : KokC G) (l1 : Int) (I : Ii) (J : Jj) (Q : Int → Ii → Jj → Prop) (h : wp_X10_takes l1 I J Q) : Ctr G yX10_takes wsX10_takes rm_X10_takes [.ref (kadr G 101), .int (iZ l1)] (I, J) (QsB Q) := by
  unfold wp_X10_takes at h
  skip
  refine Ctr.ofZ (cc := cX10_takes) (nL := 2) (ret := (some .boolean)) [some (.ref (kadr G 101)), some (.int (iZ l1))] hG.1 (by decide +kernel) rfl (Nat.le_of_ble_eq_true rfl) (Nat.le_of_ble_eq_true rfl) (by simp [lvA, lv_args, Value.category]) ?_
  intro X hX C
  have hz := hG.2
  refine wz_aload_n C rfl rfl dX10_takes_0 ?_
  refine wm_callV C (o := 101) (As := []) (st := []) (a' := 0) (b' := 0) (shK_c hz rfl) rfl (k_X10_advance G hG I J _ h) 0 gX10_takes_X10_advance rfl (by decide +kernel) (by rw [hX]; exact ⟨Nat.le_of_ble_eq_true rfl, Nat.le_of_ble_eq_true rfl⟩) rfl (Nat.le_of_ble_eq_true rfl) rfl rfl rfl dX10_takes_1 (kk_sV (fun I1 J1 h => ?_))
  refine wz_aload_n C rfl rfl dX10_takes_4 ?_
  refine wz_getI C rfl f_X10_takes_38 (sOc hz rfl) dX10_takes_5 ?_
  refine wz_iload_n C rfl rfl dX10_takes_8 ?_
  obtain ⟨g2, h⟩ := h
  obtain ⟨g3, h⟩ := h
  refine wz_icmp_eq C (tgt := 20) g2 g3 dX10_takes_9 (by decide) (fun c => ?_) (fun c => ?_)
  · replace h := h.1 c
    refine wz_iconst C dX10_takes_20 ?_
    refine wz_goto C dX10_takes_21 (tgt := 25) (by decide) ?_
    exact wz_zret C (Or.inr rfl) dX10_takes_25 ⟨_, rfl, (Or.inr rfl), h⟩
  · replace h := h.2 c
    refine wz_aload_n C rfl rfl dX10_takes_12 ?_
    refine wz_iconst C dX10_takes_13 ?_
    refine wm_callV C (o := 101) (As := [.int (iZ 1)]) (st := []) (a' := 0) (b' := 0) (shK_c hz rfl) rfl (k_X10_fail G hG 1 I1 J1 _ h) 1 gX10_takes_X10_fail rfl (by decide +kernel) (by rw [hX]; exact ⟨Nat.le_of_ble_eq_true rfl, Nat.le_of_ble_eq_true rfl⟩) rfl (Nat.le_of_ble_eq_true rfl) rfl rfl rfl dX10_takes_14 (kk_sB (fun v4 I4 J4 hb4 h => ?_))
    refine wz_if_eq C (tgt := 24) (rgB hb4) dX10_takes_17 (by decide) (fun c => ?_) (fun c => ?_)
    · replace h := h.1 c
      refine wz_iconst C dX10_takes_24 ?_
      exact wz_zret C (Or.inl rfl) dX10_takes_25 ⟨_, rfl, (Or.inl rfl), h⟩
    · replace h := h.2 c
      refine wz_iconst C dX10_takes_20 ?_
      refine wz_goto C dX10_takes_21 (tgt := 25) (by decide) ?_
      exact wz_zret C (Or.inr rfl) dX10_takes_25 ⟨_, rfl, (Or.inr rfl), h⟩
theorem in_X10_takesNumber_X10 : ∀ w ∈ wsX100, w ∈ wsX10_takesNumber := by decide +kernel
theorem f_X10_takesNumber_38 : FLk wsX10_takesNumber RX10 38 13 5 := flk 13 5 rfl tyX10_ok nmX10 in_X10_takesNumber_X10 (by decide) (by decide +kernel)
theorem f_X10_takesNumber_79 : FLk wsX10_takesNumber RX10 79 13 7 := flk 13 7 rfl tyX10_ok nmX10 in_X10_takesNumber_X10 (by decide) (by decide +kernel)
def rm_X10_takesNumber : Room := { frames := 3, cells := 0, slots := 0, locals := 63 }
set_option maxHeartbeats 4000000 in
set_option maxRecDepth 100000 in
theorem bk_X10_takesNumber_34 (G : KG) (hG : KokC G) (X : KX) (hX : KR X = rm_X10_takesNumber) (C : Fr G X cX10_takesNumber 3 yX10_takesNumber.cls (some .boolean) wsX10_takesNumber) (l1 : Int) (l2 : Int) (Q : Int → Ii → Jj → Prop)  (I : Ii) (J : Jj) (h : B_X10_takesNumber_34 l1 l2 Q  I J)   : Wz G X 3 (QsU G X (QsB Q)) 0 0 34 [some (.ref (kadr G 101)), none, none] [] I J := by
  have hz := hG.2
  unfold B_X10_takesNumber_34 at h
  refine wz_aload_n C rfl rfl dX10_takesNumber_34 ?_
  refine wz_iconst C dX10_takesNumber_35 ?_
  refine wm_callV C (o := 101) (As := [.int (iZ 2)]) (st := []) (a' := 0) (b' := 0) (shK_c hz rfl) rfl (k_X10_fail G hG 2 I J _ h) 1 gX10_takesNumber_X10_fail rfl (by decide +kernel) (by rw [hX]; exact ⟨Nat.le_of_ble_eq_true rfl, Nat.le_of_ble_eq_true rfl⟩) rfl (Nat.le_of_ble_eq_true rfl) rfl rfl rfl dX10_takesNumber_36 (kk_sB (fun v7 I7 J7 hb7 h => ?_))
  refine wz_if_eq C (tgt := 46) (rgB hb7) dX10_takesNumber_39 (by decide) (fun c => ?_) (fun c => ?_)
  · replace h := h.1 c
    refine wz_iconst C dX10_takesNumber_46 ?_
    exact wz_zret C (Or.inl rfl) dX10_takesNumber_47 ⟨_, rfl, (Or.inl rfl), h⟩
  · replace h := h.2 c
    refine wz_iconst C dX10_takesNumber_42 ?_
    refine wz_goto C dX10_takesNumber_43 (tgt := 47) (by decide) ?_
    exact wz_zret C (Or.inr rfl) dX10_takesNumber_47 ⟨_, rfl, (Or.inr rfl), h⟩
set_option maxHeartbeats 4000000 in
set_option maxRecDepth 100000 in
theorem k_X10_takesNumber (G : KG) (hG : KokC G) (l1 : Int) (l2 : Int) (I : Ii) (J : Jj) (Q : Int → Ii → Jj → Prop) (h : wp_X10_takesNumber l1 l2 I J Q) : Ctr G yX10_takesNumber wsX10_takesNumber rm_X10_takesNumber [.ref (kadr G 101), .int (iZ l1), .int (iZ l2)] (I, J) (QsB Q) := by
  unfold wp_X10_takesNumber at h
  skip
  refine Ctr.ofZ (cc := cX10_takesNumber) (nL := 3) (ret := (some .boolean)) [some (.ref (kadr G 101)), some (.int (iZ l1)), some (.int (iZ l2))] hG.1 (by decide +kernel) rfl (Nat.le_of_ble_eq_true rfl) (Nat.le_of_ble_eq_true rfl) (by simp [lvA, lv_args, Value.category]) ?_
  intro X hX C
  have hz := hG.2
  refine wz_aload_n C rfl rfl dX10_takesNumber_0 ?_
  refine wm_callV C (o := 101) (As := []) (st := []) (a' := 0) (b' := 0) (shK_c hz rfl) rfl (k_X10_advance G hG I J _ h) 0 gX10_takesNumber_X10_advance rfl (by decide +kernel) (by rw [hX]; exact ⟨Nat.le_of_ble_eq_true rfl, Nat.le_of_ble_eq_true rfl⟩) rfl (Nat.le_of_ble_eq_true rfl) rfl rfl rfl dX10_takesNumber_1 (kk_sV (fun I1 J1 h => ?_))
  refine wz_aload_n C rfl rfl dX10_takesNumber_4 ?_
  refine wz_getI C rfl f_X10_takesNumber_38 (sOc hz rfl) dX10_takesNumber_5 ?_
  refine wz_iconst C dX10_takesNumber_8 ?_
  obtain ⟨g2, h⟩ := h
  refine wz_icmp_eq C (tgt := 18) g2 (by decide) dX10_takesNumber_9 (by decide) (fun c => ?_) (fun c => ?_)
  · replace h := h.1 c
    refine wz_aload_n C rfl rfl dX10_takesNumber_18 ?_
    refine wz_getI C rfl f_X10_takesNumber_79 (sOc hz rfl) dX10_takesNumber_19 ?_
    refine wz_iload_n C rfl rfl dX10_takesNumber_22 ?_
    obtain ⟨g3, h⟩ := h
    obtain ⟨g4, h⟩ := h
    refine wz_icmp_lt C (tgt := 34) g3 g4 dX10_takesNumber_23 (by decide) (fun c => ?_) (fun c => ?_)
    · replace h := h.1 c
      exact Wz.drop (bk_X10_takesNumber_34 G hG X hX C l1 l2 Q I1 J1 h) (And.intro rfl trivial)
    · replace h := h.2 c
      refine wz_aload_n C rfl rfl dX10_takesNumber_26 ?_
      refine wz_getI C rfl f_X10_takesNumber_79 (sOc hz rfl) dX10_takesNumber_27 ?_
      refine wz_iload_n C rfl rfl dX10_takesNumber_30 ?_
      obtain ⟨g5, h⟩ := h
      refine wz_icmp_le C (tgt := 42) g3 g5 dX10_takesNumber_31 (by decide) (fun c => ?_) (fun c => ?_)
      · replace h := h.1 c
        refine wz_iconst C dX10_takesNumber_42 ?_
        refine wz_goto C dX10_takesNumber_43 (tgt := 47) (by decide) ?_
        exact wz_zret C (Or.inr rfl) dX10_takesNumber_47 ⟨_, rfl, (Or.inr rfl), h⟩
      · replace h := h.2 c
        exact Wz.drop (bk_X10_takesNumber_34 G hG X hX C l1 l2 Q I1 J1 h) (And.intro rfl trivial)
  · replace h := h.2 c
    refine wz_aload_n C rfl rfl dX10_takesNumber_12 ?_
    refine wz_iconst C dX10_takesNumber_13 ?_
    refine wm_callV C (o := 101) (As := [.int (iZ 1)]) (st := []) (a' := 0) (b' := 0) (shK_c hz rfl) rfl (k_X10_fail G hG 1 I1 J1 _ h) 1 gX10_takesNumber_X10_fail rfl (by decide +kernel) (by rw [hX]; exact ⟨Nat.le_of_ble_eq_true rfl, Nat.le_of_ble_eq_true rfl⟩) rfl (Nat.le_of_ble_eq_true rfl) rfl rfl rfl dX10_takesNumber_14 (kk_sB (fun v6 I6 J6 hb6 h => ?_))
    exact wz_zret C h.1 dX10_takesNumber_17 ⟨_, rfl, h.1, h.2⟩
theorem in_X11_between_X11 : ∀ w ∈ wsX110, w ∈ wsX11_between := by decide +kernel
theorem in_X11_between_X2 : ∀ w ∈ wsX20, w ∈ wsX11_between := by decide +kernel
theorem f_X11_between_40 : FLk wsX11_between RX11 40 14 4 := flk 14 4 rfl tyX11_ok nmX11 in_X11_between_X11 (by decide) (by decide +kernel)
theorem f_X11_between_307 : FLk wsX11_between RX11 307 5 11 := flk 5 11 rfl tyX2_ok nmX2 in_X11_between_X2 (by decide) (by decide +kernel)
def rm_X11_between : Room := { frames := 3, cells := 0, slots := 0, locals := 66 }
set_option maxHeartbeats 4000000 in
set_option maxRecDepth 100000 in
theorem k_X11_between (G : KG) (hG : KokC G) (l1 : Int) (l2 : Int) (I : Ii) (J : Jj) (Q : Int → Ii → Jj → Prop) (h : wp_X11_between l1 l2 I J Q) : Ctr G yX11_between wsX11_between rm_X11_between [.ref (kadr G 100), .int (iZ l1), .int (iZ l2)] (I, J) (QsI Q) := by
  unfold wp_X11_between at h
  skip
  refine Ctr.ofZ (cc := cX11_between) (nL := 4) (ret := (some .int)) [some (.ref (kadr G 100)), some (.int (iZ l1)), some (.int (iZ l2)), none] hG.1 (by decide +kernel) rfl (Nat.le_of_ble_eq_true rfl) (Nat.le_of_ble_eq_true rfl) (by simp [lvA, lv_args, Value.category]) ?_
  intro X hX C
  have hz := hG.2
  refine wz_aload_n C rfl rfl dX11_between_0 ?_
  refine wz_iload_n C rfl rfl dX11_between_1 ?_
  refine wm_callV C (o := 100) (As := [.int (iZ l1)]) (st := []) (a' := 0) (b' := 0) (shK_c hz rfl) rfl (k_X11_requireVertex G hG l1 I J _ h) 1 gX11_between_X11_requireVertex rfl (by decide +kernel) (by rw [hX]; exact ⟨Nat.le_of_ble_eq_true rfl, Nat.le_of_ble_eq_true rfl⟩) rfl (Nat.le_of_ble_eq_true rfl) rfl rfl rfl dX11_between_2 (kk_sV (fun I1 J1 h => ?_))
  refine wz_aload_n C rfl rfl dX11_between_5 ?_
  refine wz_iload_n C rfl rfl dX11_between_6 ?_
  refine wm_callV C (o := 100) (As := [.int (iZ l2)]) (st := []) (a' := 0) (b' := 0) (shK_c hz rfl) rfl (k_X11_requireVertex G hG l2 I1 J1 _ h) 1 gX11_between_X11_requireVertex rfl (by decide +kernel) (by rw [hX]; exact ⟨Nat.le_of_ble_eq_true rfl, Nat.le_of_ble_eq_true rfl⟩) rfl (Nat.le_of_ble_eq_true rfl) rfl rfl rfl dX11_between_7 (kk_sV (fun I2 J2 h => ?_))
  refine wz_aload_n C rfl rfl dX11_between_10 ?_
  refine wz_getR C (j := 200) f_X11_between_40 (sOc hz rfl) (by decide) dX11_between_11 ?_
  refine wz_iload_n C rfl rfl dX11_between_14 ?_
  refine wz_iload_n C rfl rfl dX11_between_15 ?_
  refine wm_callV C (o := 200) (As := [.int (iZ l1), .int (iZ l2)]) (st := []) (a' := 0) (b' := 0) (shK_c hz rfl) rfl (k_X2_edgeOf G hG 200 l1 l2 I2 J2 _ h) 2 gX11_between_X2_edgeOf rfl (by decide +kernel) (by rw [hX]; exact ⟨Nat.le_of_ble_eq_true rfl, Nat.le_of_ble_eq_true rfl⟩) rfl (Nat.le_of_ble_eq_true rfl) rfl rfl rfl dX11_between_16 (kk_sI (fun v3 I3 J3 h => ?_))
  refine wz_istore_3 C rfl dX11_between_19 ?_
  refine wz_iload_n C rfl rfl dX11_between_20 ?_
  refine wz_iconst C dX11_between_21 ?_
  obtain ⟨g4, h⟩ := h
  refine wz_icmp_ne C (tgt := 29) g4 (by decide) dX11_between_22 (by decide) (fun c => ?_) (fun c => ?_)
  · replace h := h.1 c
    refine wz_aload_n C rfl rfl dX11_between_29 ?_
    refine wz_getR C (j := 200) f_X11_between_40 (sOc hz rfl) (by decide) dX11_between_30 ?_
    refine wz_getR C (j := 205) f_X11_between_307 (sOc hz rfl) (by decide) dX11_between_33 ?_
    refine wz_iload_n C rfl rfl dX11_between_36 ?_
    refine wm_callS C (As := [.ref (kadr G 205), .int (iZ v3)]) (st := []) (a' := 0) (b' := 0) (k_X11_at G hG 205 v3 I3 J3 _ h) 2 gX11_between_X11_at rfl (by decide +kernel) (by rw [hX]; exact ⟨Nat.le_of_ble_eq_true rfl, Nat.le_of_ble_eq_true rfl⟩) rfl (Nat.le_of_ble_eq_true rfl) rfl rfl rfl dX11_between_37 (kk_sI (fun v5 I5 J5 h => ?_))
    exact wz_iret C dX11_between_40 ⟨_, rfl, h⟩
  · replace h := h.2 c
    refine wz_iconst C dX11_between_25 ?_
    refine wz_goto C dX11_between_26 (tgt := 40) (by decide) ?_
    exact wz_iret C dX11_between_40 ⟨_, rfl, h⟩
theorem in_X11_flow_X1 : ∀ w ∈ wsX10, w ∈ wsX11_flow := by decide +kernel
theorem in_X11_flow_X11 : ∀ w ∈ wsX110, w ∈ wsX11_flow := by decide +kernel
theorem f_X11_flow_94 : FLk wsX11_flow RX11 94 14 15 := flk 14 15 rfl tyX11_ok nmX11 in_X11_flow_X11 (by decide) (by decide +kernel)
theorem f_X11_flow_40 : FLk wsX11_flow RX11 40 14 4 := flk 14 4 rfl tyX11_ok nmX11 in_X11_flow_X11 (by decide) (by decide +kernel)
theorem f_X11_flow_324 : FLk wsX11_flow RX11 324 4 4 := flk 4 4 rfl tyX1_ok nmX1 in_X11_flow_X1 (by decide) (by decide +kernel)
def rm_X11_flow : Room := { frames := 3, cells := 0, slots := 0, locals := 72 }
set_option maxHeartbeats 4000000 in
set_option maxRecDepth 100000 in
theorem k_X11_flow (G : KG) (hG : KokC G) (l1 : Int) (l2 : Int) (I : Ii) (J : Jj) (Q : Int → Ii → Jj → Prop) (h : wp_X11_flow l1 l2 I J Q) : Ctr G yX11_flow wsX11_flow rm_X11_flow [.ref (kadr G 100), .int (iZ l1), .int (iZ l2)] (I, J) (QsI Q) := by
  unfold wp_X11_flow at h
  skip
  refine Ctr.ofZ (cc := cX11_flow) (nL := 3) (ret := (some .int)) [some (.ref (kadr G 100)), some (.int (iZ l1)), some (.int (iZ l2))] hG.1 (by decide +kernel) rfl (Nat.le_of_ble_eq_true rfl) (Nat.le_of_ble_eq_true rfl) (by simp [lvA, lv_args, Value.category]) ?_
  intro X hX C
  have hz := hG.2
  refine wz_aload_n C rfl rfl dX11_flow_0 ?_
  refine wz_iload_n C rfl rfl dX11_flow_1 ?_
  refine wm_callV C (o := 100) (As := [.int (iZ l1)]) (st := []) (a' := 0) (b' := 0) (shK_c hz rfl) rfl (k_X11_requireVertex G hG l1 I J _ h) 1 gX11_flow_X11_requireVertex rfl (by decide +kernel) (by rw [hX]; exact ⟨Nat.le_of_ble_eq_true rfl, Nat.le_of_ble_eq_true rfl⟩) rfl (Nat.le_of_ble_eq_true rfl) rfl rfl rfl dX11_flow_2 (kk_sV (fun I1 J1 h => ?_))
  refine wz_aload_n C rfl rfl dX11_flow_5 ?_
  refine wz_iload_n C rfl rfl dX11_flow_6 ?_
  refine wm_callV C (o := 100) (As := [.int (iZ l2)]) (st := []) (a' := 0) (b' := 0) (shK_c hz rfl) rfl (k_X11_requireVertex G hG l2 I1 J1 _ h) 1 gX11_flow_X11_requireVertex rfl (by decide +kernel) (by rw [hX]; exact ⟨Nat.le_of_ble_eq_true rfl, Nat.le_of_ble_eq_true rfl⟩) rfl (Nat.le_of_ble_eq_true rfl) rfl rfl rfl dX11_flow_7 (kk_sV (fun I2 J2 h => ?_))
  refine wz_iload_n C rfl rfl dX11_flow_10 ?_
  refine wz_iload_n C rfl rfl dX11_flow_11 ?_
  obtain ⟨g3, h⟩ := h
  obtain ⟨g4, h⟩ := h
  refine wz_icmp_ne C (tgt := 17) g3 g4 dX11_flow_12 (by decide) (fun c => ?_) (fun c => ?_)
  · replace h := h.1 c
    refine wz_aload_n C rfl rfl dX11_flow_17 ?_
    refine wz_getR C (j := 128) f_X11_flow_94 (sOc hz rfl) (by decide) dX11_flow_18 ?_
    refine wz_aload_n C rfl rfl dX11_flow_21 ?_
    refine wz_getR C (j := 200) f_X11_flow_40 (sOc hz rfl) (by decide) dX11_flow_22 ?_
    refine wz_iload_n C rfl rfl dX11_flow_25 ?_
    refine wz_iload_n C rfl rfl dX11_flow_26 ?_
    refine wm_callV C (o := 128) (As := [.ref (kadr G 200), .int (iZ l1), .int (iZ l2)]) (st := []) (a' := 0) (b' := 0) (shK_c hz rfl) rfl (k_X1_run G hG 200 l1 l2 I2 J2 _ h) 3 gX11_flow_X1_run rfl (by decide +kernel) (by rw [hX]; exact ⟨Nat.le_of_ble_eq_true rfl, Nat.le_of_ble_eq_true rfl⟩) rfl (Nat.le_of_ble_eq_true rfl) rfl rfl rfl dX11_flow_27 (kk_sV (fun I5 J5 h => ?_))
    refine wz_aload_n C rfl rfl dX11_flow_30 ?_
    refine wz_getR C (j := 128) f_X11_flow_94 (sOc hz rfl) (by decide) dX11_flow_31 ?_
    refine wz_getI C rfl f_X11_flow_324 (sOc hz rfl) dX11_flow_34 ?_
    exact wz_iret C dX11_flow_37 ⟨_, rfl, h⟩
  · replace h := h.2 c
    refine wz_iconst C dX11_flow_15 ?_
    exact wz_iret C dX11_flow_16 ⟨_, rfl, h⟩
theorem in_X11_side_X1 : ∀ w ∈ wsX10, w ∈ wsX11_side := by decide +kernel
theorem in_X11_side_X11 : ∀ w ∈ wsX110, w ∈ wsX11_side := by decide +kernel
theorem f_X11_side_94 : FLk wsX11_side RX11 94 14 15 := flk 14 15 rfl tyX11_ok nmX11 in_X11_side_X11 (by decide) (by decide +kernel)
theorem f_X11_side_40 : FLk wsX11_side RX11 40 14 4 := flk 14 4 rfl tyX11_ok nmX11 in_X11_side_X11 (by decide) (by decide +kernel)
theorem f_X11_side_327 : FLk wsX11_side RX11 327 4 5 := flk 4 5 rfl tyX1_ok nmX1 in_X11_side_X1 (by decide) (by decide +kernel)
def rm_X11_side : Room := { frames := 3, cells := 0, slots := 0, locals := 72 }
set_option maxHeartbeats 4000000 in
set_option maxRecDepth 100000 in
theorem k_X11_side (G : KG) (hG : KokC G) (l1 : Int) (l2 : Int) (I : Ii) (J : Jj) (Q : Int → Ii → Jj → Prop) (h : wp_X11_side l1 l2 I J Q) : Ctr G yX11_side wsX11_side rm_X11_side [.ref (kadr G 100), .int (iZ l1), .int (iZ l2)] (I, J) (QsI Q) := by
  unfold wp_X11_side at h
  skip
  refine Ctr.ofZ (cc := cX11_side) (nL := 3) (ret := (some .int)) [some (.ref (kadr G 100)), some (.int (iZ l1)), some (.int (iZ l2))] hG.1 (by decide +kernel) rfl (Nat.le_of_ble_eq_true rfl) (Nat.le_of_ble_eq_true rfl) (by simp [lvA, lv_args, Value.category]) ?_
  intro X hX C
  have hz := hG.2
  refine wz_aload_n C rfl rfl dX11_side_0 ?_
  refine wz_iload_n C rfl rfl dX11_side_1 ?_
  refine wm_callV C (o := 100) (As := [.int (iZ l1)]) (st := []) (a' := 0) (b' := 0) (shK_c hz rfl) rfl (k_X11_requireVertex G hG l1 I J _ h) 1 gX11_side_X11_requireVertex rfl (by decide +kernel) (by rw [hX]; exact ⟨Nat.le_of_ble_eq_true rfl, Nat.le_of_ble_eq_true rfl⟩) rfl (Nat.le_of_ble_eq_true rfl) rfl rfl rfl dX11_side_2 (kk_sV (fun I1 J1 h => ?_))
  refine wz_aload_n C rfl rfl dX11_side_5 ?_
  refine wz_iload_n C rfl rfl dX11_side_6 ?_
  refine wm_callV C (o := 100) (As := [.int (iZ l2)]) (st := []) (a' := 0) (b' := 0) (shK_c hz rfl) rfl (k_X11_requireVertex G hG l2 I1 J1 _ h) 1 gX11_side_X11_requireVertex rfl (by decide +kernel) (by rw [hX]; exact ⟨Nat.le_of_ble_eq_true rfl, Nat.le_of_ble_eq_true rfl⟩) rfl (Nat.le_of_ble_eq_true rfl) rfl rfl rfl dX11_side_7 (kk_sV (fun I2 J2 h => ?_))
  refine wz_iload_n C rfl rfl dX11_side_10 ?_
  refine wz_iload_n C rfl rfl dX11_side_11 ?_
  obtain ⟨g3, h⟩ := h
  obtain ⟨g4, h⟩ := h
  refine wz_icmp_ne C (tgt := 17) g3 g4 dX11_side_12 (by decide) (fun c => ?_) (fun c => ?_)
  · replace h := h.1 c
    refine wz_aload_n C rfl rfl dX11_side_17 ?_
    refine wz_getR C (j := 128) f_X11_side_94 (sOc hz rfl) (by decide) dX11_side_18 ?_
    refine wz_aload_n C rfl rfl dX11_side_21 ?_
    refine wz_getR C (j := 200) f_X11_side_40 (sOc hz rfl) (by decide) dX11_side_22 ?_
    refine wz_iload_n C rfl rfl dX11_side_25 ?_
    refine wz_iload_n C rfl rfl dX11_side_26 ?_
    refine wm_callV C (o := 128) (As := [.ref (kadr G 200), .int (iZ l1), .int (iZ l2)]) (st := []) (a' := 0) (b' := 0) (shK_c hz rfl) rfl (k_X1_run G hG 200 l1 l2 I2 J2 _ h) 3 gX11_side_X1_run rfl (by decide +kernel) (by rw [hX]; exact ⟨Nat.le_of_ble_eq_true rfl, Nat.le_of_ble_eq_true rfl⟩) rfl (Nat.le_of_ble_eq_true rfl) rfl rfl rfl dX11_side_27 (kk_sV (fun I5 J5 h => ?_))
    refine wz_aload_n C rfl rfl dX11_side_30 ?_
    refine wz_getR C (j := 128) f_X11_side_94 (sOc hz rfl) (by decide) dX11_side_31 ?_
    refine wz_getI C rfl f_X11_side_327 (sOc hz rfl) dX11_side_34 ?_
    exact wz_iret C dX11_side_37 ⟨_, rfl, h⟩
  · replace h := h.2 c
    refine wz_iconst C dX11_side_15 ?_
    exact wz_iret C dX11_side_16 ⟨_, rfl, h⟩
