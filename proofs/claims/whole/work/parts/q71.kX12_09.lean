theorem in_X12_keptEvents_X12 : ∀ w ∈ wsX120, w ∈ wsX12_keptEvents := by decide +kernel
theorem f_X12_keptEvents_26 : FLk wsX12_keptEvents RX12 26 12 15 := flk 12 15 rfl tyX12_ok nmX12 in_X12_keptEvents_X12 (by decide) (by decide +kernel)
def rm_X12_keptEvents : Room := { frames := 0, cells := 0, slots := 0, locals := 0 }
set_option maxHeartbeats 4000000 in
set_option maxRecDepth 100000 in
theorem k_X12_keptEvents (G : KG) (hG : Kok G) (I : Ii) (J : Jj) (Q : Int → Ii → Jj → Prop) (h : wp_X12_keptEvents I J Q) : Ctr G yX12_keptEvents wsX12_keptEvents rm_X12_keptEvents [.ref (kadr G 0)] (I, J) (QsI Q) := by
  unfold wp_X12_keptEvents at h
  skip
  refine Ctr.ofZ (cc := cX12_keptEvents) (nL := 1) (ret := (some .int)) [some (.ref (kadr G 0))] hG (by decide +kernel) rfl (Nat.le_of_ble_eq_true rfl) (Nat.le_of_ble_eq_true rfl) (by simp [lvA, lv_args, Value.category]) ?_
  intro X hX C
  refine wz_aload_n C rfl rfl dX12_keptEvents_0 ?_
  refine wz_getR C (j := 2) f_X12_keptEvents_26 rfl dX12_keptEvents_1 ?_
  refine wz_bipush C (by decide) dX12_keptEvents_4 ?_
  refine wz_iaload C 6 (n := 350) rfl rfl (by decide) (by decide) rfl dX12_keptEvents_6 ?_
  refine wz_bipush C (by decide) dX12_keptEvents_7 ?_
  obtain ⟨g1, h⟩ := h
  refine wz_icmp_ge C (tgt := 22) g1 (by decide) dX12_keptEvents_9 (by decide) (fun c => ?_) (fun c => ?_)
  · replace h := h.1 c
    refine wz_bipush C (by decide) dX12_keptEvents_22 ?_
    exact wz_iret C dX12_keptEvents_24 ⟨_, rfl, h⟩
  · replace h := h.2 c
    refine wz_aload_n C rfl rfl dX12_keptEvents_12 ?_
    refine wz_getR C (j := 2) f_X12_keptEvents_26 rfl dX12_keptEvents_13 ?_
    refine wz_bipush C (by decide) dX12_keptEvents_16 ?_
    refine wz_iaload C 6 (n := 350) rfl rfl (by decide) (by decide) rfl dX12_keptEvents_18 ?_
    refine wz_goto C dX12_keptEvents_19 (tgt := 24) (by decide) ?_
    exact wz_iret C dX12_keptEvents_24 ⟨_, rfl, h⟩
theorem in_X12_events_X12 : ∀ w ∈ wsX120, w ∈ wsX12_events := by decide +kernel
theorem f_X12_events_90 : FLk wsX12_events RX12 90 12 0 := flk 12 0 rfl tyX12_ok nmX12 in_X12_events_X12 (by decide) (by decide +kernel)
def rm_X12_events : Room := { frames := 1, cells := 0, slots := 0, locals := 20 }
set_option maxHeartbeats 4000000 in
set_option maxRecDepth 100000 in
theorem k_X12_events (G : KG) (hG : Kok G) (I : Ii) (J : Jj) (Q : Int → Ii → Jj → Prop) (h : wp_X12_events I J Q) : Ctr G yX12_events wsX12_events rm_X12_events [.ref (kadr G 0)] (I, J) (QsI Q) := by
  unfold wp_X12_events at h
  skip
  refine Ctr.ofZ (cc := cX12_events) (nL := 1) (ret := (some .int)) [some (.ref (kadr G 0))] hG (by decide +kernel) rfl (Nat.le_of_ble_eq_true rfl) (Nat.le_of_ble_eq_true rfl) (by simp [lvA, lv_args, Value.category]) ?_
  intro X hX C
  refine wz_aload_n C rfl rfl dX12_events_0 ?_
  refine wz_iconst C dX12_events_1 ?_
  refine wd_putI C f_X12_events_90 fp_X12_0 rfl dX12_events_2 (fun I1 e => ?_)
  replace h := h I1 e
  refine wz_aload_n C rfl rfl dX12_events_5 ?_
  refine wm_callV C (o := 0) (As := []) (st := []) (a' := 0) (b' := 0) rfl rfl (k_X12_keptEvents G hG I1 J _ h) 0 gX12_events_X12_keptEvents rfl (by decide +kernel) (by rw [hX]; exact ⟨Nat.le_of_ble_eq_true rfl, Nat.le_of_ble_eq_true rfl⟩) rfl (Nat.le_of_ble_eq_true rfl) rfl rfl rfl dX12_events_6 (kk_sI (fun v2 I2 J2 h => ?_))
  exact wz_iret C dX12_events_9 ⟨_, rfl, h⟩
theorem in_X12_event_X12 : ∀ w ∈ wsX120, w ∈ wsX12_event := by decide +kernel
theorem f_X12_event_26 : FLk wsX12_event RX12 26 12 15 := flk 12 15 rfl tyX12_ok nmX12 in_X12_event_X12 (by decide) (by decide +kernel)
def rm_X12_event : Room := { frames := 1, cells := 0, slots := 0, locals := 25 }
set_option maxHeartbeats 4000000 in
set_option maxRecDepth 100000 in
theorem k_X12_event (G : KG) (hG : Kok G) (l1 : Int) (l2 : Int) (I : Ii) (J : Jj) (Q : Int → Ii → Jj → Prop) (h : wp_X12_event l1 l2 I J Q) : Ctr G yX12_event wsX12_event rm_X12_event [.ref (kadr G 0), .int (iZ l1), .int (iZ l2)] (I, J) (QsI Q) := by
  unfold wp_X12_event at h
  skip
  refine Ctr.ofZ (cc := cX12_event) (nL := 3) (ret := (some .int)) [some (.ref (kadr G 0)), some (.int (iZ l1)), some (.int (iZ l2))] hG (by decide +kernel) rfl (Nat.le_of_ble_eq_true rfl) (Nat.le_of_ble_eq_true rfl) (by simp [lvA, lv_args, Value.category]) ?_
  intro X hX C
  refine wz_aload_n C rfl rfl dX12_event_0 ?_
  refine wz_iload_n C rfl rfl dX12_event_1 ?_
  refine wd_i2l C dX12_event_2 ?_
  refine wz_lconst C (v := lZ 0) (by decide) dX12_event_3 ?_
  refine wz_aload_n C rfl rfl dX12_event_4 ?_
  refine wm_callV C (o := 0) (As := []) (st := [.long (lZ 0), .long (i2lZ l1), .ref (kadr G 0)]) (a' := 0) (b' := 0) rfl rfl (k_X12_keptEvents G hG I J _ h) 0 gX12_event_X12_keptEvents rfl (by decide +kernel) (by rw [hX]; exact ⟨Nat.le_of_ble_eq_true rfl, Nat.le_of_ble_eq_true rfl⟩) rfl (Nat.le_of_ble_eq_true rfl) rfl rfl rfl dX12_event_5 (kk_sI (fun v1 I1 J1 h => ?_))
  refine wz_iconst C dX12_event_8 ?_
  refine wz_isub C dX12_event_9 ?_
  refine wd_i2l C dX12_event_10 ?_
  refine wm_callS C (As := [.long (i2lZ l1), .long (lZ 0), .long (i2lZ (v1 - 1))]) (st := [.ref (kadr G 0)]) (a' := 0) (b' := 0) (k_X12_isIn G hG (i2lZ l1) (lZ 0) (i2lZ (v1 - 1)) I1 J1 _ h) 3 gX12_event_X12_isIn rfl (by decide +kernel) (by rw [hX]; exact ⟨Nat.le_of_ble_eq_true rfl, Nat.le_of_ble_eq_true rfl⟩) rfl (Nat.le_of_ble_eq_true rfl) rfl rfl rfl dX12_event_11 (kk_sB (fun v2 I2 J2 hb2 h => ?_))
  refine wz_iload_n C rfl rfl dX12_event_14 ?_
  refine wd_i2l C dX12_event_15 ?_
  refine wz_lconst C (v := lZ 0) (by decide) dX12_event_16 ?_
  refine wz_ldc2_w C (v := lZ 3) (by decide +kernel) dX12_event_17 ?_
  refine wm_callS C (As := [.long (i2lZ l2), .long (lZ 0), .long (lZ 3)]) (st := [.int (iZ v2), .ref (kadr G 0)]) (a' := 0) (b' := 0) (k_X12_isIn G hG (i2lZ l2) (lZ 0) (lZ 3) I2 J2 _ h) 3 gX12_event_X12_isIn rfl (by decide +kernel) (by rw [hX]; exact ⟨Nat.le_of_ble_eq_true rfl, Nat.le_of_ble_eq_true rfl⟩) rfl (Nat.le_of_ble_eq_true rfl) rfl rfl rfl dX12_event_20 (kk_sB (fun v3 I3 J3 hb3 h => ?_))
  refine wm_callV C (o := 0) (As := [.int (iZ v2), .int (iZ v3)]) (st := []) (a' := 0) (b' := 0) rfl rfl (k_X12_goesBoth G hG v2 v3 I3 J3 _ h) 2 gX12_event_X12_goesBoth rfl (by decide +kernel) (by rw [hX]; exact ⟨Nat.le_of_ble_eq_true rfl, Nat.le_of_ble_eq_true rfl⟩) rfl (Nat.le_of_ble_eq_true rfl) rfl rfl rfl dX12_event_23 (kk_sB (fun v4 I4 J4 hb4 h => ?_))
  refine wz_if_eq C (tgt := 59) (rgB hb4) dX12_event_26 (by decide) (fun c => ?_) (fun c => ?_)
  · replace h := h.1 c
    refine wz_iconst C dX12_event_59 ?_
    exact wz_iret C dX12_event_60 ⟨_, rfl, h⟩
  · replace h := h.2 c
    refine wz_aload_n C rfl rfl dX12_event_29 ?_
    refine wz_getR C (j := 2) f_X12_event_26 rfl dX12_event_30 ?_
    refine wz_sipush C (by decide) dX12_event_33 ?_
    refine wz_iconst C dX12_event_36 ?_
    refine wz_aload_n C rfl rfl dX12_event_37 ?_
    refine wz_getR C (j := 2) f_X12_event_26 rfl dX12_event_38 ?_
    refine wz_bipush C (by decide) dX12_event_41 ?_
    refine wz_iaload C 6 (n := 350) rfl rfl (by decide) (by decide) rfl dX12_event_43 ?_
    refine wz_iconst C dX12_event_44 ?_
    refine wz_isub C dX12_event_45 ?_
    refine wz_iload_n C rfl rfl dX12_event_46 ?_
    refine wz_isub C dX12_event_47 ?_
    refine wz_bipush C (by decide) dX12_event_48 ?_
    obtain ⟨g5, h⟩ := h
    refine wd_irem C g5 dX12_event_50 ?_
    refine wz_imul C dX12_event_51 ?_
    refine wz_iadd C dX12_event_52 ?_
    refine wz_iload_n C rfl rfl dX12_event_53 ?_
    refine wz_iadd C dX12_event_54 ?_
    obtain ⟨g6, h⟩ := h
    refine wz_iaload C (((230 + (4 * ((((I4 2 6) - 1) - l1) % 30))) + l2).toNat) (n := 350) rfl (zN g6) (zL g6) (by decide) rfl dX12_event_55 ?_
    refine wz_goto C dX12_event_56 (tgt := 60) (by decide) ?_
    exact wz_iret C dX12_event_60 ⟨_, rfl, h⟩
theorem in_X12_comes_X12 : ∀ w ∈ wsX120, w ∈ wsX12_comes := by decide +kernel
theorem f_X12_comes_26 : FLk wsX12_comes RX12 26 12 15 := flk 12 15 rfl tyX12_ok nmX12 in_X12_comes_X12 (by decide) (by decide +kernel)
def rm_X12_comes : Room := { frames := 2, cells := 0, slots := 0, locals := 43 }
set_option maxHeartbeats 4000000 in
set_option maxRecDepth 100000 in
theorem lk_X12_comes_16 (G : KG) (hG : Kok G) (X : KX) (hX : KR X = rm_X12_comes) (C : Fr G X cX12_comes 5 yX12_comes.cls (some .boolean) wsX12_comes) (l1 : Int) (l2 : Int) (Q : Int → Ii → Jj → Prop) : ∀ (n : Nat) (l3 : Int) (l4 : Int) (I : Ii) (J : Jj), L_X12_comes_16 l1 l2 Q n l3 l4 I J → Wz G X 5 (QsU G X (QsB Q)) 0 0 16 [some (.ref (kadr G 0)), some (.int (iZ l1)), some (.int (iZ l2)), some (.int (iZ l3)), some (.int (iZ l4))] [] I J := by
  intro n
  induction n with
  | zero => intro l3 l4 I J h; exact False.elim h
  | succ n w16 =>
    intro l3 l4 I J h
    have h : Lb_X12_comes_16 l1 l2 Q (L_X12_comes_16 l1 l2 Q n) l3 l4 I J := h
    unfold Lb_X12_comes_16 at h
    generalize L_X12_comes_16 l1 l2 Q n = r16 at h w16
    refine wz_iload C rfl dX12_comes_16 ?_
    refine wz_aload_n C rfl rfl dX12_comes_18 ?_
    refine wz_getR C (j := 2) f_X12_comes_26 rfl dX12_comes_19 ?_
    refine wz_iconst C dX12_comes_22 ?_
    refine wz_iaload C 0 (n := 350) rfl rfl (by decide) (by decide) rfl dX12_comes_23 ?_
    obtain ⟨g4, h⟩ := h
    obtain ⟨g5, h⟩ := h
    refine wz_icmp_ge C (tgt := 54) g4 g5 dX12_comes_24 (by decide) (fun c => ?_) (fun c => ?_)
    · replace h := h.1 c
      refine wz_sipush C (by decide) dX12_comes_54 ?_
      refine wz_iconst C dX12_comes_57 ?_
      refine wz_aload_n C rfl rfl dX12_comes_58 ?_
      refine wz_getR C (j := 2) f_X12_comes_26 rfl dX12_comes_59 ?_
      refine wz_bipush C (by decide) dX12_comes_62 ?_
      refine wz_iaload C 6 (n := 350) rfl rfl (by decide) (by decide) rfl dX12_comes_64 ?_
      refine wz_bipush C (by decide) dX12_comes_65 ?_
      obtain ⟨g6, h⟩ := h
      refine wd_irem C g6 dX12_comes_67 ?_
      refine wz_imul C dX12_comes_68 ?_
      refine wz_iadd C dX12_comes_69 ?_
      refine wz_istore_4 C rfl dX12_comes_70 ?_
      refine wz_aload_n C rfl rfl dX12_comes_72 ?_
      refine wz_getR C (j := 2) f_X12_comes_26 rfl dX12_comes_73 ?_
      refine wz_iload C rfl dX12_comes_76 ?_
      refine wz_iload_n C rfl rfl dX12_comes_78 ?_
      obtain ⟨g7, h⟩ := h
      refine wd_iastore C ((230 + (4 * ((I 2 6) % 30))).toNat) (n := 350) rfl (zN g7) (zL g7) (by decide) dX12_comes_79 (fun I8 e => ?_)
      replace h := h I8 e
      refine wz_aload_n C rfl rfl dX12_comes_80 ?_
      refine wz_getR C (j := 2) f_X12_comes_26 rfl dX12_comes_81 ?_
      refine wz_iload C rfl dX12_comes_84 ?_
      refine wz_iconst C dX12_comes_86 ?_
      refine wz_iadd C dX12_comes_87 ?_
      refine wz_iload_n C rfl rfl dX12_comes_88 ?_
      obtain ⟨g9, h⟩ := h
      refine wd_iastore C (((230 + (4 * ((I 2 6) % 30))) + 1).toNat) (n := 350) rfl (zN g9) (zL g9) (by decide) dX12_comes_89 (fun I10 e => ?_)
      replace h := h I10 e
      refine wz_aload_n C rfl rfl dX12_comes_90 ?_
      refine wz_getR C (j := 2) f_X12_comes_26 rfl dX12_comes_91 ?_
      refine wz_iload C rfl dX12_comes_94 ?_
      refine wz_iconst C dX12_comes_96 ?_
      refine wz_iadd C dX12_comes_97 ?_
      refine wz_iload_n C rfl rfl dX12_comes_98 ?_
      obtain ⟨g11, h⟩ := h
      refine wd_iastore C (((230 + (4 * ((I 2 6) % 30))) + 2).toNat) (n := 350) rfl (zN g11) (zL g11) (by decide) dX12_comes_99 (fun I12 e => ?_)
      replace h := h I12 e
      refine wz_aload_n C rfl rfl dX12_comes_100 ?_
      refine wz_getR C (j := 2) f_X12_comes_26 rfl dX12_comes_101 ?_
      refine wz_iload C rfl dX12_comes_104 ?_
      refine wz_iconst C dX12_comes_106 ?_
      refine wz_iadd C dX12_comes_107 ?_
      refine wz_aload_n C rfl rfl dX12_comes_108 ?_
      refine wm_callV C (o := 0) (As := []) (st := [.int (iZ ((230 + (4 * ((I 2 6) % 30))) + 3)), .ref (kadr G 2)]) (a' := 0) (b' := 0) rfl rfl (k_X12_cutNow G hG I12 J _ h) 0 gX12_comes_X12_cutNow rfl (by decide +kernel) (by rw [hX]; exact ⟨Nat.le_of_ble_eq_true rfl, Nat.le_of_ble_eq_true rfl⟩) rfl (Nat.le_of_ble_eq_true rfl) rfl rfl rfl dX12_comes_109 (kk_sI (fun v13 I13 J13 h => ?_))
      obtain ⟨g14, h⟩ := h
      refine wd_iastore C (((230 + (4 * ((I 2 6) % 30))) + 3).toNat) (n := 350) rfl (zN g14) (zL g14) (by decide) dX12_comes_112 (fun I15 e => ?_)
      replace h := h I15 e
      refine wz_aload_n C rfl rfl dX12_comes_113 ?_
      refine wz_getR C (j := 2) f_X12_comes_26 rfl dX12_comes_114 ?_
      refine wz_bipush C (by decide) dX12_comes_117 ?_
      refine wz_dup2 C rfl rfl dX12_comes_119 ?_
      refine wz_iaload C 6 (n := 350) rfl rfl (by decide) (by decide) rfl dX12_comes_120 ?_
      refine wz_iconst C dX12_comes_121 ?_
      refine wz_iadd C dX12_comes_122 ?_
      refine wd_iastore C 6 (n := 350) rfl rfl (by decide) (by decide) dX12_comes_123 (fun I16 e => ?_)
      replace h := h I16 e
      refine wz_iconst C dX12_comes_124 ?_
      exact wz_zret C (Or.inr rfl) dX12_comes_125 ⟨_, rfl, (Or.inr rfl), h⟩
    · replace h := h.2 c
      refine wz_aload_n C rfl rfl dX12_comes_27 ?_
      refine wz_iload C rfl dX12_comes_28 ?_
      refine wm_callV C (o := 0) (As := [.int (iZ l4)]) (st := []) (a' := 0) (b' := 0) rfl rfl (k_X12_groupAt G hG l4 I J _ h) 1 gX12_comes_X12_groupAt rfl (by decide +kernel) (by rw [hX]; exact ⟨Nat.le_of_ble_eq_true rfl, Nat.le_of_ble_eq_true rfl⟩) rfl (Nat.le_of_ble_eq_true rfl) rfl rfl rfl dX12_comes_30 (kk_sI (fun v17 I17 J17 h => ?_))
      refine wz_iload_n C rfl rfl dX12_comes_33 ?_
      obtain ⟨g18, h⟩ := h
      obtain ⟨g19, h⟩ := h
      refine wz_icmp_ne C (tgt := 48) g18 g19 dX12_comes_34 (by decide) (fun c => ?_) (fun c => ?_)
      · replace h := h.1 c
        refine wz_iinc_4 C rfl dX12_comes_48 ?_
        refine wz_goto C dX12_comes_51 (tgt := 16) (by decide) ?_
        exact w16 l3 (l4 + 1) I17 J17 h
      · replace h := h.2 c
        refine wz_aload_n C rfl rfl dX12_comes_37 ?_
        refine wz_getR C (j := 2) f_X12_comes_26 rfl dX12_comes_38 ?_
        refine wz_bipush C (by decide) dX12_comes_41 ?_
        refine wz_iload C rfl dX12_comes_43 ?_
        refine wz_iadd C dX12_comes_45 ?_
        refine wz_iload_n C rfl rfl dX12_comes_46 ?_
        obtain ⟨g20, h⟩ := h
        refine wd_iastore C ((21 + l4).toNat) (n := 350) rfl (zN g20) (zL g20) (by decide) dX12_comes_47 (fun I21 e => ?_)
        replace h := h I21 e
        refine wz_iinc_4 C rfl dX12_comes_48 ?_
        refine wz_goto C dX12_comes_51 (tgt := 16) (by decide) ?_
        exact w16 l3 (l4 + 1) I21 J17 h
set_option maxHeartbeats 4000000 in
set_option maxRecDepth 100000 in
theorem k_X12_comes (G : KG) (hG : Kok G) (l1 : Int) (l2 : Int) (I : Ii) (J : Jj) (Q : Int → Ii → Jj → Prop) (h : wp_X12_comes l1 l2 I J Q) : Ctr G yX12_comes wsX12_comes rm_X12_comes [.ref (kadr G 0), .int (iZ l1), .int (iZ l2)] (I, J) (QsB Q) := by
  unfold wp_X12_comes at h
  skip
  refine Ctr.ofZ (cc := cX12_comes) (nL := 5) (ret := (some .boolean)) [some (.ref (kadr G 0)), some (.int (iZ l1)), some (.int (iZ l2)), none, none] hG (by decide +kernel) rfl (Nat.le_of_ble_eq_true rfl) (Nat.le_of_ble_eq_true rfl) (by simp [lvA, lv_args, Value.category]) ?_
  intro X hX C
  refine wz_aload_n C rfl rfl dX12_comes_0 ?_
  refine wz_iload_n C rfl rfl dX12_comes_1 ?_
  refine wm_callV C (o := 0) (As := [.int (iZ l1)]) (st := []) (a' := 0) (b' := 0) rfl rfl (k_X12_groupPart G hG l1 I J _ h) 1 gX12_comes_X12_groupPart rfl (by decide +kernel) (by rw [hX]; exact ⟨Nat.le_of_ble_eq_true rfl, Nat.le_of_ble_eq_true rfl⟩) rfl (Nat.le_of_ble_eq_true rfl) rfl rfl rfl dX12_comes_2 (kk_sI (fun v1 I1 J1 h => ?_))
  refine wz_istore_3 C rfl dX12_comes_5 ?_
  refine wz_iload_n C rfl rfl dX12_comes_6 ?_
  refine wz_iload_n C rfl rfl dX12_comes_7 ?_
  obtain ⟨g2, h⟩ := h
  obtain ⟨g3, h⟩ := h
  refine wz_icmp_ne C (tgt := 13) g2 g3 dX12_comes_8 (by decide) (fun c => ?_) (fun c => ?_)
  · replace h := h.1 c
    refine wz_iconst C dX12_comes_13 ?_
    refine wz_istore_4 C rfl dX12_comes_14 ?_
    obtain ⟨n, h⟩ := h
    exact lk_X12_comes_16 G hG X hX C l1 l2 Q n v1 0 I1 J1 h
  · replace h := h.2 c
    refine wz_iconst C dX12_comes_11 ?_
    exact wz_zret C (Or.inl rfl) dX12_comes_12 ⟨_, rfl, (Or.inl rfl), h⟩
def rm_X12_kept : Room := { frames := 1, cells := 0, slots := 0, locals := 21 }
set_option maxHeartbeats 4000000 in
set_option maxRecDepth 100000 in
theorem k_X12_kept (G : KG) (hG : Kok G) (l1 : Int) (I : Ii) (J : Jj) (Q : Int → Ii → Jj → Prop) (h : wp_X12_kept l1 I J Q) : Ctr G yX12_kept wsX12_kept rm_X12_kept [.ref (kadr G 0), .int (iZ l1)] (I, J) (QsI Q) := by
  unfold wp_X12_kept at h
  skip
  refine Ctr.ofZ (cc := cX12_kept) (nL := 2) (ret := (some .int)) [some (.ref (kadr G 0)), some (.int (iZ l1))] hG (by decide +kernel) rfl (Nat.le_of_ble_eq_true rfl) (Nat.le_of_ble_eq_true rfl) (by simp [lvA, lv_args, Value.category]) ?_
  intro X hX C
  refine wz_aload_n C rfl rfl dX12_kept_0 ?_
  refine wm_callV C (o := 0) (As := []) (st := []) (a' := 0) (b' := 0) rfl rfl (k_X12_keeps G hG I J _ h) 0 gX12_kept_X12_keeps rfl (by decide +kernel) (by rw [hX]; exact ⟨Nat.le_of_ble_eq_true rfl, Nat.le_of_ble_eq_true rfl⟩) rfl (Nat.le_of_ble_eq_true rfl) rfl rfl rfl dX12_kept_1 (kk_sV (fun I1 J1 h => ?_))
  refine wz_iload_n C rfl rfl dX12_kept_4 ?_
  exact wz_iret C dX12_kept_5 ⟨_, rfl, h⟩
theorem in_X12_shrinks_X12 : ∀ w ∈ wsX120, w ∈ wsX12_shrinks := by decide +kernel
theorem f_X12_shrinks_26 : FLk wsX12_shrinks RX12 26 12 15 := flk 12 15 rfl tyX12_ok nmX12 in_X12_shrinks_X12 (by decide) (by decide +kernel)
theorem f_X12_shrinks_51 : FLk wsX12_shrinks RX12 51 12 28 := flk 12 28 rfl tyX12_ok nmX12 in_X12_shrinks_X12 (by decide) (by decide +kernel)
def rm_X12_shrinks : Room := { frames := 4, cells := 0, slots := 0, locals := 95 }
set_option maxHeartbeats 4000000 in
set_option maxRecDepth 100000 in
theorem bk_X12_shrinks_126 (G : KG) (hG : Kok G) (X : KX) (hX : KR X = rm_X12_shrinks) (C : Fr G X cX12_shrinks 8 yX12_shrinks.cls (some .int) wsX12_shrinks) (Q : Int → Ii → Jj → Prop) (r35 : Int → Int → Int → Int → Int → Ii → Jj → Prop) (w35 : ∀ (l2 : Int) (l3 : Int) (l4 : Int) (l5 : Int) (l6 : Int) (I : Ii) (J : Jj), r35 l2 l3 l4 l5 l6 I J → Wz G X 8 (QsU G X (QsI Q)) 0 0 35 [some (.ref (kadr G 0)), none, some (.int (iZ l2)), some (.int (iZ l3)), some (.int (iZ l4)), some (.int (iZ l5)), some (.int (iZ l6)), none] [] I J) (r71 : Int → Int → Int → Int → Int → Int → Ii → Jj → Prop) (w71 : ∀ (l2 : Int) (l3 : Int) (l4 : Int) (l5 : Int) (l6 : Int) (l7 : Int) (I : Ii) (J : Jj), r71 l2 l3 l4 l5 l6 l7 I J → Wz G X 8 (QsU G X (QsI Q)) 0 0 71 [some (.ref (kadr G 0)), none, some (.int (iZ l2)), some (.int (iZ l3)), some (.int (iZ l4)), some (.int (iZ l5)), some (.int (iZ l6)), some (.int (iZ l7))] [] I J) (l2 : Int) (l3 : Int) (l4 : Int) (l5 : Int) (l6 : Int) (l7 : Int) (I : Ii) (J : Jj) (h : B_X12_shrinks_126 Q r35 r71 l2 l3 l4 l5 l6 l7 I J) : Wz G X 8 (QsU G X (QsI Q)) 0 0 126 [some (.ref (kadr G 0)), none, some (.int (iZ l2)), some (.int (iZ l3)), some (.int (iZ l4)), some (.int (iZ l5)), some (.int (iZ l6)), some (.int (iZ l7))] [] I J := by
  unfold B_X12_shrinks_126 at h
  refine wz_aload_n C rfl rfl dX12_shrinks_126 ?_
  refine wz_getR C (j := 2) f_X12_shrinks_26 rfl dX12_shrinks_127 ?_
  refine wz_iload_n C rfl rfl dX12_shrinks_130 ?_
  refine wz_iload C rfl dX12_shrinks_131 ?_
  refine wz_iadd C dX12_shrinks_133 ?_
  refine wz_iload C rfl dX12_shrinks_134 ?_
  obtain ⟨g20, h⟩ := h
  refine wd_iastore C ((l3 + l7).toNat) (n := 350) rfl (zN g20) (zL g20) (by decide) dX12_shrinks_136 (fun I21 e => ?_)
  replace h := h I21 e
  refine wz_iinc_7 C rfl dX12_shrinks_137 ?_
  refine wz_goto C dX12_shrinks_140 (tgt := 71) (by decide) ?_
  exact w71 l2 l3 l4 l5 l6 (l7 + 1) I21 J h
set_option maxHeartbeats 4000000 in
set_option maxRecDepth 100000 in
theorem lk_X12_shrinks_71 (G : KG) (hG : Kok G) (X : KX) (hX : KR X = rm_X12_shrinks) (C : Fr G X cX12_shrinks 8 yX12_shrinks.cls (some .int) wsX12_shrinks) (Q : Int → Ii → Jj → Prop) (r35 : Int → Int → Int → Int → Int → Ii → Jj → Prop) (w35 : ∀ (l2 : Int) (l3 : Int) (l4 : Int) (l5 : Int) (l6 : Int) (I : Ii) (J : Jj), r35 l2 l3 l4 l5 l6 I J → Wz G X 8 (QsU G X (QsI Q)) 0 0 35 [some (.ref (kadr G 0)), none, some (.int (iZ l2)), some (.int (iZ l3)), some (.int (iZ l4)), some (.int (iZ l5)), some (.int (iZ l6)), none] [] I J) : ∀ (n : Nat) (l2 : Int) (l3 : Int) (l4 : Int) (l5 : Int) (l6 : Int) (l7 : Int) (I : Ii) (J : Jj), L_X12_shrinks_71 Q r35 n l2 l3 l4 l5 l6 l7 I J → Wz G X 8 (QsU G X (QsI Q)) 0 0 71 [some (.ref (kadr G 0)), none, some (.int (iZ l2)), some (.int (iZ l3)), some (.int (iZ l4)), some (.int (iZ l5)), some (.int (iZ l6)), some (.int (iZ l7))] [] I J := by
  intro n
  induction n with
  | zero => intro l2 l3 l4 l5 l6 l7 I J h; exact False.elim h
  | succ n w71 =>
    intro l2 l3 l4 l5 l6 l7 I J h
    have h : Lb_X12_shrinks_71 Q r35 (L_X12_shrinks_71 Q r35 n) l2 l3 l4 l5 l6 l7 I J := h
    unfold Lb_X12_shrinks_71 at h
    generalize L_X12_shrinks_71 Q r35 n = r71 at h w71
    refine wz_iload C rfl dX12_shrinks_71 ?_
    refine wz_aload_n C rfl rfl dX12_shrinks_73 ?_
    refine wz_getR C (j := 2) f_X12_shrinks_26 rfl dX12_shrinks_74 ?_
    refine wz_iconst C dX12_shrinks_77 ?_
    refine wz_iaload C 0 (n := 350) rfl rfl (by decide) (by decide) rfl dX12_shrinks_78 ?_
    obtain ⟨g11, h⟩ := h
    obtain ⟨g12, h⟩ := h
    refine wz_icmp_ge C (tgt := 143) g11 g12 dX12_shrinks_79 (by decide) (fun c => ?_) (fun c => ?_)
    · replace h := h.1 c
      refine wz_iinc_4 C rfl dX12_shrinks_143 ?_
      refine wz_iinc_6 C rfl dX12_shrinks_146 ?_
      refine wz_goto C dX12_shrinks_149 (tgt := 35) (by decide) ?_
      exact Wz.drop (w35 l2 l3 (l4 + 1) l5 (l6 + 1) I J h) (And.intro rfl (And.intro rfl (And.intro rfl (And.intro rfl (And.intro rfl (And.intro rfl trivial))))))
    · replace h := h.2 c
      refine wz_aload_n C rfl rfl dX12_shrinks_82 ?_
      refine wz_getR C (j := 2) f_X12_shrinks_26 rfl dX12_shrinks_83 ?_
      refine wz_iload_n C rfl rfl dX12_shrinks_86 ?_
      refine wz_iload C rfl dX12_shrinks_87 ?_
      refine wz_iadd C dX12_shrinks_89 ?_
      obtain ⟨g13, h⟩ := h
      refine wz_iaload C ((l2 + l7).toNat) (n := 350) rfl (zN g13) (zL g13) (by decide) rfl dX12_shrinks_90 ?_
      refine wz_iload C rfl dX12_shrinks_91 ?_
      obtain ⟨g14, h⟩ := h
      obtain ⟨g15, h⟩ := h
      refine wz_icmp_eq C (tgt := 126) g14 g15 dX12_shrinks_93 (by decide) (fun c => ?_) (fun c => ?_)
      · replace h := h.1 c
        exact bk_X12_shrinks_126 G hG X hX C Q r35 w35 r71 w71 l2 l3 l4 l5 l6 l7 I J h
      · replace h := h.2 c
        refine wz_aload_n C rfl rfl dX12_shrinks_96 ?_
        refine wz_getR C (j := 10) f_X12_shrinks_51 rfl dX12_shrinks_97 ?_
        refine wz_iload C rfl dX12_shrinks_100 ?_
        obtain ⟨g16, h⟩ := h
        refine wz_iaload C l6.toNat (n := 14) rfl (zN g16) (zL g16) (by decide) rfl dX12_shrinks_102 ?_
        refine wz_iconst C dX12_shrinks_103 ?_
        obtain ⟨g17, h⟩ := h
        refine wz_icmp_eq C (tgt := 137) g17 (by decide) dX12_shrinks_104 (by decide) (fun c => ?_) (fun c => ?_)
        · replace h := h.1 c
          refine wz_iinc_7 C rfl dX12_shrinks_137 ?_
          refine wz_goto C dX12_shrinks_140 (tgt := 71) (by decide) ?_
          exact w71 l2 l3 l4 l5 l6 (l7 + 1) I J h
        · replace h := h.2 c
          refine wz_aload_n C rfl rfl dX12_shrinks_107 ?_
          refine wz_getR C (j := 2) f_X12_shrinks_26 rfl dX12_shrinks_108 ?_
          refine wz_iload_n C rfl rfl dX12_shrinks_111 ?_
          refine wz_iload C rfl dX12_shrinks_112 ?_
          refine wz_iadd C dX12_shrinks_114 ?_
          obtain ⟨g18, h⟩ := h
          refine wz_iaload C ((l2 + l7).toNat) (n := 350) rfl (zN g18) (zL g18) (by decide) rfl dX12_shrinks_115 ?_
          refine wz_aload_n C rfl rfl dX12_shrinks_116 ?_
          refine wz_getR C (j := 10) f_X12_shrinks_51 rfl dX12_shrinks_117 ?_
          refine wz_iload C rfl dX12_shrinks_120 ?_
          obtain ⟨g19, h⟩ := h
          refine wz_iaload C l6.toNat (n := 14) rfl (zN g19) (zL g19) (by decide) rfl dX12_shrinks_122 ?_
          refine wz_icmp_ne C (tgt := 137) g14 g17 dX12_shrinks_123 (by decide) (fun c => ?_) (fun c => ?_)
          · replace h := h.1 c
            refine wz_iinc_7 C rfl dX12_shrinks_137 ?_
            refine wz_goto C dX12_shrinks_140 (tgt := 71) (by decide) ?_
            exact w71 l2 l3 l4 l5 l6 (l7 + 1) I J h
          · replace h := h.2 c
            exact bk_X12_shrinks_126 G hG X hX C Q r35 w35 r71 w71 l2 l3 l4 l5 l6 l7 I J h
set_option maxHeartbeats 4000000 in
set_option maxRecDepth 100000 in
theorem lk_X12_shrinks_35 (G : KG) (hG : Kok G) (X : KX) (hX : KR X = rm_X12_shrinks) (C : Fr G X cX12_shrinks 8 yX12_shrinks.cls (some .int) wsX12_shrinks) (Q : Int → Ii → Jj → Prop) : ∀ (n : Nat) (l2 : Int) (l3 : Int) (l4 : Int) (l5 : Int) (l6 : Int) (I : Ii) (J : Jj), L_X12_shrinks_35 Q n l2 l3 l4 l5 l6 I J → Wz G X 8 (QsU G X (QsI Q)) 0 0 35 [some (.ref (kadr G 0)), none, some (.int (iZ l2)), some (.int (iZ l3)), some (.int (iZ l4)), some (.int (iZ l5)), some (.int (iZ l6)), none] [] I J := by
  intro n
  induction n with
  | zero => intro l2 l3 l4 l5 l6 I J h; exact False.elim h
  | succ n w35 =>
    intro l2 l3 l4 l5 l6 I J h
    have h : Lb_X12_shrinks_35 Q (L_X12_shrinks_35 Q n) l2 l3 l4 l5 l6 I J := h
    unfold Lb_X12_shrinks_35 at h
    generalize L_X12_shrinks_35 Q n = r35 at h w35
    refine wz_iload C rfl dX12_shrinks_35 ?_
    refine wz_iload C rfl dX12_shrinks_37 ?_
    obtain ⟨g3, h⟩ := h
    obtain ⟨g4, h⟩ := h
    refine wz_icmp_ge C (tgt := 152) g3 g4 dX12_shrinks_39 (by decide) (fun c => ?_) (fun c => ?_)
    · replace h := h.1 c
      refine wz_aload_n C rfl rfl dX12_shrinks_152 ?_
      refine wz_getR C (j := 2) f_X12_shrinks_26 rfl dX12_shrinks_153 ?_
      refine wz_iconst C dX12_shrinks_156 ?_
      refine wz_dup2 C rfl rfl dX12_shrinks_157 ?_
      refine wz_iaload C 5 (n := 350) rfl rfl (by decide) (by decide) rfl dX12_shrinks_158 ?_
      refine wz_iconst C dX12_shrinks_159 ?_
      refine wz_iadd C dX12_shrinks_160 ?_
      refine wd_iastore C 5 (n := 350) rfl rfl (by decide) (by decide) dX12_shrinks_161 (fun I5 e => ?_)
      replace h := h I5 e
      refine wz_aload_n C rfl rfl dX12_shrinks_162 ?_
      refine wz_getR C (j := 2) f_X12_shrinks_26 rfl dX12_shrinks_163 ?_
      refine wz_bipush C (by decide) dX12_shrinks_166 ?_
      refine wz_aload_n C rfl rfl dX12_shrinks_168 ?_
      refine wz_getR C (j := 2) f_X12_shrinks_26 rfl dX12_shrinks_169 ?_
      refine wz_iconst C dX12_shrinks_172 ?_
      refine wz_iaload C 5 (n := 350) rfl rfl (by decide) (by decide) rfl dX12_shrinks_173 ?_
      refine wz_iadd C dX12_shrinks_174 ?_
      refine wz_iload C rfl dX12_shrinks_175 ?_
      obtain ⟨g6, h⟩ := h
      refine wd_iastore C ((105 + (I5 2 5)).toNat) (n := 350) rfl (zN g6) (zL g6) (by decide) dX12_shrinks_177 (fun I7 e => ?_)
      replace h := h I7 e
      refine wz_iload C rfl dX12_shrinks_178 ?_
      exact wz_iret C dX12_shrinks_180 ⟨_, rfl, h⟩
    · replace h := h.2 c
      refine wz_aload_n C rfl rfl dX12_shrinks_42 ?_
      refine wz_getR C (j := 10) f_X12_shrinks_51 rfl dX12_shrinks_43 ?_
      refine wz_iload C rfl dX12_shrinks_46 ?_
      obtain ⟨g8, h⟩ := h
      refine wz_iaload C l6.toNat (n := 14) rfl (zN g8) (zL g8) (by decide) rfl dX12_shrinks_48 ?_
      refine wz_iconst C dX12_shrinks_49 ?_
      obtain ⟨g9, h⟩ := h
      refine wz_icmp_eq C (tgt := 68) g9 (by decide) dX12_shrinks_50 (by decide) (fun c => ?_) (fun c => ?_)
      · replace h := h.1 c
        refine wz_iconst C dX12_shrinks_68 ?_
        refine wz_istore_7 C rfl dX12_shrinks_69 ?_
        obtain ⟨n, h⟩ := h
        exact lk_X12_shrinks_71 G hG X hX C Q r35 w35 n l2 l3 l4 l5 l6 0 I J h
      · replace h := h.2 c
        refine wz_aload_n C rfl rfl dX12_shrinks_53 ?_
        refine wz_getR C (j := 10) f_X12_shrinks_51 rfl dX12_shrinks_54 ?_
        refine wz_iload C rfl dX12_shrinks_57 ?_
        obtain ⟨g10, h⟩ := h
        refine wz_iaload C l6.toNat (n := 14) rfl (zN g10) (zL g10) (by decide) rfl dX12_shrinks_59 ?_
        refine wz_iload C rfl dX12_shrinks_60 ?_
        refine wz_icmp_ge C (tgt := 68) g9 g3 dX12_shrinks_62 (by decide) (fun c => ?_) (fun c => ?_)
        · replace h := h.1 c
          refine wz_iconst C dX12_shrinks_68 ?_
          refine wz_istore_7 C rfl dX12_shrinks_69 ?_
          obtain ⟨n, h⟩ := h
          exact lk_X12_shrinks_71 G hG X hX C Q r35 w35 n l2 l3 l4 l5 l6 0 I J h
        · replace h := h.2 c
          refine wz_goto C dX12_shrinks_65 (tgt := 146) (by decide) ?_
          refine wz_iinc_6 C rfl dX12_shrinks_146 ?_
          refine wz_goto C dX12_shrinks_149 (tgt := 35) (by decide) ?_
          exact w35 l2 l3 l4 l5 (l6 + 1) I J h
set_option maxHeartbeats 4000000 in
set_option maxRecDepth 100000 in
theorem k_X12_shrinks (G : KG) (hG : Kok G) (I : Ii) (J : Jj) (Q : Int → Ii → Jj → Prop) (h : wp_X12_shrinks I J Q) : Ctr G yX12_shrinks wsX12_shrinks rm_X12_shrinks [.ref (kadr G 0)] (I, J) (QsI Q) := by
  unfold wp_X12_shrinks at h
  skip
  refine Ctr.ofZ (cc := cX12_shrinks) (nL := 8) (ret := (some .int)) [some (.ref (kadr G 0)), none, none, none, none, none, none, none] hG (by decide +kernel) rfl (Nat.le_of_ble_eq_true rfl) (Nat.le_of_ble_eq_true rfl) (by simp [lvA, lv_args, Value.category]) ?_
  intro X hX C
  refine wz_aload_n C rfl rfl dX12_shrinks_0 ?_
  refine wm_callV C (o := 0) (As := []) (st := []) (a' := 0) (b' := 0) rfl rfl (k_X12_laysMates G hG I J _ h) 0 gX12_shrinks_X12_laysMates rfl (by decide +kernel) (by rw [hX]; exact ⟨Nat.le_of_ble_eq_true rfl, Nat.le_of_ble_eq_true rfl⟩) rfl (Nat.le_of_ble_eq_true rfl) rfl rfl rfl dX12_shrinks_1 (kk_sI (fun v1 I1 J1 h => ?_))
  refine wz_istore_1 C rfl dX12_shrinks_4 ?_
  refine wz_bipush C (by decide) dX12_shrinks_5 ?_
  refine wz_bipush C (by decide) dX12_shrinks_7 ?_
  refine wz_aload_n C rfl rfl dX12_shrinks_9 ?_
  refine wz_getR C (j := 2) f_X12_shrinks_26 rfl dX12_shrinks_10 ?_
  refine wz_iconst C dX12_shrinks_13 ?_
  refine wz_iaload C 5 (n := 350) rfl rfl (by decide) (by decide) rfl dX12_shrinks_14 ?_
  refine wz_imul C dX12_shrinks_15 ?_
  refine wz_iadd C dX12_shrinks_16 ?_
  refine wz_istore_2 C rfl dX12_shrinks_17 ?_
  refine wz_iload_n C rfl rfl dX12_shrinks_18 ?_
  refine wz_bipush C (by decide) dX12_shrinks_19 ?_
  refine wz_iadd C dX12_shrinks_21 ?_
  refine wz_istore_3 C rfl dX12_shrinks_22 ?_
  refine wz_iconst C dX12_shrinks_23 ?_
  refine wz_istore_4 C rfl dX12_shrinks_24 ?_
  refine wz_aload_n C rfl rfl dX12_shrinks_26 ?_
  refine wm_callV C (o := 0) (As := []) (st := []) (a' := 0) (b' := 0) rfl rfl (k_X12_groups G hG I1 J1 _ h) 0 gX12_shrinks_X12_groups rfl (by decide +kernel) (by rw [hX]; exact ⟨Nat.le_of_ble_eq_true rfl, Nat.le_of_ble_eq_true rfl⟩) rfl (Nat.le_of_ble_eq_true rfl) rfl rfl rfl dX12_shrinks_27 (kk_sI (fun v2 I2 J2 h => ?_))
  refine wz_istore_5 C rfl dX12_shrinks_30 ?_
  refine wz_iconst C dX12_shrinks_32 ?_
  refine wz_istore_6 C rfl dX12_shrinks_33 ?_
  obtain ⟨n, h⟩ := h
  exact Wz.drop (lk_X12_shrinks_35 G hG X hX C Q n (35 + (14 * (I1 2 5))) ((35 + (14 * (I1 2 5))) + 14) 0 v2 0 I2 J2 h) (And.intro rfl (And.intro rfl (And.intro rfl (And.intro rfl (And.intro rfl (And.intro rfl trivial))))))
theorem in_X12_grows_X12 : ∀ w ∈ wsX120, w ∈ wsX12_grows := by decide +kernel
theorem f_X12_grows_26 : FLk wsX12_grows RX12 26 12 15 := flk 12 15 rfl tyX12_ok nmX12 in_X12_grows_X12 (by decide) (by decide +kernel)
def rm_X12_grows : Room := { frames := 1, cells := 0, slots := 0, locals := 20 }
set_option maxHeartbeats 4000000 in
set_option maxRecDepth 100000 in
theorem k_X12_grows (G : KG) (hG : Kok G) (I : Ii) (J : Jj) (Q : Int → Ii → Jj → Prop) (h : wp_X12_grows I J Q) : Ctr G yX12_grows wsX12_grows rm_X12_grows [.ref (kadr G 0)] (I, J) (QsI Q) := by
  unfold wp_X12_grows at h
  skip
  refine Ctr.ofZ (cc := cX12_grows) (nL := 1) (ret := (some .int)) [some (.ref (kadr G 0))] hG (by decide +kernel) rfl (Nat.le_of_ble_eq_true rfl) (Nat.le_of_ble_eq_true rfl) (by simp [lvA, lv_args, Value.category]) ?_
  intro X hX C
  refine wz_aload_n C rfl rfl dX12_grows_0 ?_
  refine wz_getR C (j := 2) f_X12_grows_26 rfl dX12_grows_1 ?_
  refine wz_iconst C dX12_grows_4 ?_
  refine wz_dup2 C rfl rfl dX12_grows_5 ?_
  refine wz_iaload C 5 (n := 350) rfl rfl (by decide) (by decide) rfl dX12_grows_6 ?_
  refine wz_iconst C dX12_grows_7 ?_
  refine wz_isub C dX12_grows_8 ?_
  refine wd_iastore C 5 (n := 350) rfl rfl (by decide) (by decide) dX12_grows_9 (fun I1 e => ?_)
  replace h := h I1 e
  refine wz_aload_n C rfl rfl dX12_grows_10 ?_
  refine wm_callV C (o := 0) (As := []) (st := []) (a' := 0) (b' := 0) rfl rfl (k_X12_groups G hG I1 J _ h) 0 gX12_grows_X12_groups rfl (by decide +kernel) (by rw [hX]; exact ⟨Nat.le_of_ble_eq_true rfl, Nat.le_of_ble_eq_true rfl⟩) rfl (Nat.le_of_ble_eq_true rfl) rfl rfl rfl dX12_grows_11 (kk_sI (fun v2 I2 J2 h => ?_))
  exact wz_iret C dX12_grows_14 ⟨_, rfl, h⟩
def rm_X12_moves : Room := { frames := 3, cells := 0, slots := 0, locals := 67 }
set_option maxHeartbeats 4000000 in
set_option maxRecDepth 100000 in
theorem k_X12_moves (G : KG) (hG : Kok G) (l1 : Int) (l2 : Int) (I : Ii) (J : Jj) (Q : Int → Ii → Jj → Prop) (h : wp_X12_moves l1 l2 I J Q) : Ctr G yX12_moves wsX12_moves rm_X12_moves [.ref (kadr G 0), .int (iZ l1), .int (iZ l2)] (I, J) (QsI Q) := by
  unfold wp_X12_moves at h
  skip
  refine Ctr.ofZ (cc := cX12_moves) (nL := 4) (ret := (some .int)) [some (.ref (kadr G 0)), some (.int (iZ l1)), some (.int (iZ l2)), none] hG (by decide +kernel) rfl (Nat.le_of_ble_eq_true rfl) (Nat.le_of_ble_eq_true rfl) (by simp [lvA, lv_args, Value.category]) ?_
  intro X hX C
  refine wz_aload_n C rfl rfl dX12_moves_0 ?_
  refine wz_iload_n C rfl rfl dX12_moves_1 ?_
  refine wz_iload_n C rfl rfl dX12_moves_2 ?_
  refine wm_callV C (o := 0) (As := [.int (iZ l1), .int (iZ l2)]) (st := []) (a' := 0) (b' := 0) rfl rfl (k_X12_comes G hG l1 l2 I J _ h) 2 gX12_moves_X12_comes rfl (by decide +kernel) (by rw [hX]; exact ⟨Nat.le_of_ble_eq_true rfl, Nat.le_of_ble_eq_true rfl⟩) rfl (Nat.le_of_ble_eq_true rfl) rfl rfl rfl dX12_moves_3 (kk_sB (fun v1 I1 J1 hb1 h => ?_))
  refine wz_istore_3 C rfl dX12_moves_6 ?_
  refine wz_aload_n C rfl rfl dX12_moves_7 ?_
  refine wm_callV C (o := 0) (As := []) (st := []) (a' := 0) (b' := 0) rfl rfl (k_X12_cutNow G hG I1 J1 _ h) 0 gX12_moves_X12_cutNow rfl (by decide +kernel) (by rw [hX]; exact ⟨Nat.le_of_ble_eq_true rfl, Nat.le_of_ble_eq_true rfl⟩) rfl (Nat.le_of_ble_eq_true rfl) rfl rfl rfl dX12_moves_8 (kk_sI (fun v2 I2 J2 h => ?_))
  exact wz_iret C dX12_moves_11 ⟨_, rfl, h⟩
def rm_X12_stepNow : Room := { frames := 7, cells := 0, slots := 0, locals := 159 }
set_option maxHeartbeats 4000000 in
set_option maxRecDepth 100000 in
theorem k_X12_stepNow (G : KG) (hG : Kok G) (I : Ii) (J : Jj) (Q : Int → Ii → Jj → Prop) (h : wp_X12_stepNow I J Q) : Ctr G yX12_stepNow wsX12_stepNow rm_X12_stepNow [.ref (kadr G 0)] (I, J) (QsI Q) := by
  unfold wp_X12_stepNow at h
  skip
  refine Ctr.ofZ (cc := cX12_stepNow) (nL := 2) (ret := (some .int)) [some (.ref (kadr G 0)), none] hG (by decide +kernel) rfl (Nat.le_of_ble_eq_true rfl) (Nat.le_of_ble_eq_true rfl) (by simp [lvA, lv_args, Value.category]) ?_
  intro X hX C
  refine wz_aload_n C rfl rfl dX12_stepNow_0 ?_
  refine wm_callV C (o := 0) (As := []) (st := []) (a' := 0) (b' := 0) rfl rfl (k_X12_nextNow G hG I J _ h) 0 gX12_stepNow_X12_nextNow rfl (by decide +kernel) (by rw [hX]; exact ⟨Nat.le_of_ble_eq_true rfl, Nat.le_of_ble_eq_true rfl⟩) rfl (Nat.le_of_ble_eq_true rfl) rfl rfl rfl dX12_stepNow_1 (kk_sI (fun v1 I1 J1 h => ?_))
  refine wz_istore_1 C rfl dX12_stepNow_4 ?_
  refine wz_iload_n C rfl rfl dX12_stepNow_5 ?_
  refine wz_iconst C dX12_stepNow_6 ?_
  obtain ⟨g2, h⟩ := h
  refine wz_icmp_ne C (tgt := 14) g2 (by decide) dX12_stepNow_7 (by decide) (fun c => ?_) (fun c => ?_)
  · replace h := h.1 c
    refine wz_aload_n C rfl rfl dX12_stepNow_14 ?_
    refine wz_iload_n C rfl rfl dX12_stepNow_15 ?_
    refine wz_bipush C (by decide) dX12_stepNow_16 ?_
    obtain ⟨g3, h⟩ := h
    refine wd_idiv C g3 dX12_stepNow_18 ?_
    refine wz_iload_n C rfl rfl dX12_stepNow_19 ?_
    refine wz_bipush C (by decide) dX12_stepNow_20 ?_
    obtain ⟨g4, h⟩ := h
    refine wd_irem C g4 dX12_stepNow_22 ?_
    refine wm_callV C (o := 0) (As := [.int (iZ (v1 / 10)), .int (iZ (v1 % 10))]) (st := []) (a' := 0) (b' := 0) rfl rfl (k_X12_moves G hG (v1 / 10) (v1 % 10) I1 J1 _ h) 2 gX12_stepNow_X12_moves rfl (by decide +kernel) (by rw [hX]; exact ⟨Nat.le_of_ble_eq_true rfl, Nat.le_of_ble_eq_true rfl⟩) rfl (Nat.le_of_ble_eq_true rfl) rfl rfl rfl dX12_stepNow_23 (kk_sI (fun v5 I5 J5 h => ?_))
    exact wz_iret C dX12_stepNow_26 ⟨_, rfl, h⟩
  · replace h := h.2 c
    refine wz_iconst C dX12_stepNow_10 ?_
    refine wz_goto C dX12_stepNow_11 (tgt := 26) (by decide) ?_
    exact wz_iret C dX12_stepNow_26 ⟨_, rfl, h⟩
def rm_X12_stepsNow : Room := { frames := 8, cells := 0, slots := 0, locals := 180 }
set_option maxHeartbeats 4000000 in
set_option maxRecDepth 100000 in
theorem bk_X12_stepsNow_26 (G : KG) (hG : Kok G) (X : KX) (hX : KR X = rm_X12_stepsNow) (C : Fr G X cX12_stepsNow 4 yX12_stepsNow.cls (some .int) wsX12_stepsNow) (l1 : Int) (Q : Int → Ii → Jj → Prop) (r4 : Int → Int → Ii → Jj → Prop) (w4 : ∀ (l2 : Int) (l3 : Int) (I : Ii) (J : Jj), r4 l2 l3 I J → Wz G X 4 (QsU G X (QsI Q)) 0 0 4 [some (.ref (kadr G 0)), some (.int (iZ l1)), some (.int (iZ l2)), some (.int (iZ l3))] [] I J) (l2 : Int) (t0 : Int) (I : Ii) (J : Jj) (h : B_X12_stepsNow_26 l1 Q r4 l2 t0 I J) : Wz G X 4 (QsU G X (QsI Q)) 0 0 26 [some (.ref (kadr G 0)), some (.int (iZ l1)), some (.int (iZ l2)), none] [.int (iZ t0)] I J := by
  unfold B_X12_stepsNow_26 at h
  refine wz_istore_3 C rfl dX12_stepsNow_26 ?_
  refine wz_iload_n C rfl rfl dX12_stepsNow_27 ?_
  refine wz_iload_n C rfl rfl dX12_stepsNow_28 ?_
  refine wm_callS C (As := [.int (iZ t0)]) (st := [.int (iZ l2)]) (a' := 0) (b' := 0) (k_X12_truth G hG t0 I J _ h) 1 gX12_stepsNow_X12_truth rfl (by decide +kernel) (by rw [hX]; exact ⟨Nat.le_of_ble_eq_true rfl, Nat.le_of_ble_eq_true rfl⟩) rfl (Nat.le_of_ble_eq_true rfl) rfl rfl rfl dX12_stepsNow_29 (kk_sI (fun v6 I6 J6 h => ?_))
  refine wz_iadd C dX12_stepsNow_32 ?_
  refine wz_istore_2 C rfl dX12_stepsNow_33 ?_
  refine wz_goto C dX12_stepsNow_34 (tgt := 4) (by decide) ?_
  exact w4 (l2 + v6) t0 I6 J6 h
set_option maxHeartbeats 4000000 in
set_option maxRecDepth 100000 in
theorem lk_X12_stepsNow_4 (G : KG) (hG : Kok G) (X : KX) (hX : KR X = rm_X12_stepsNow) (C : Fr G X cX12_stepsNow 4 yX12_stepsNow.cls (some .int) wsX12_stepsNow) (l1 : Int) (Q : Int → Ii → Jj → Prop) : ∀ (n : Nat) (l2 : Int) (l3 : Int) (I : Ii) (J : Jj), L_X12_stepsNow_4 l1 Q n l2 l3 I J → Wz G X 4 (QsU G X (QsI Q)) 0 0 4 [some (.ref (kadr G 0)), some (.int (iZ l1)), some (.int (iZ l2)), some (.int (iZ l3))] [] I J := by
  intro n
  induction n with
  | zero => intro l2 l3 I J h; exact False.elim h
  | succ n w4 =>
    intro l2 l3 I J h
    have h : Lb_X12_stepsNow_4 l1 Q (L_X12_stepsNow_4 l1 Q n) l2 l3 I J := h
    unfold Lb_X12_stepsNow_4 at h
    generalize L_X12_stepsNow_4 l1 Q n = r4 at h w4
    refine wz_iload_n C rfl rfl dX12_stepsNow_4 ?_
    refine wz_iload_n C rfl rfl dX12_stepsNow_5 ?_
    obtain ⟨g1, h⟩ := h
    obtain ⟨g2, h⟩ := h
    refine wz_icmp_ge C (tgt := 37) g1 g2 dX12_stepsNow_6 (by decide) (fun c => ?_) (fun c => ?_)
    · replace h := h.1 c
      refine wz_iload_n C rfl rfl dX12_stepsNow_37 ?_
      exact wz_iret C dX12_stepsNow_38 ⟨_, rfl, h⟩
    · replace h := h.2 c
      refine wz_iload_n C rfl rfl dX12_stepsNow_9 ?_
      obtain ⟨g3, h⟩ := h
      refine wz_if_eq C (tgt := 37) g3 dX12_stepsNow_10 (by decide) (fun c => ?_) (fun c => ?_)
      · replace h := h.1 c
        refine wz_iload_n C rfl rfl dX12_stepsNow_37 ?_
        exact wz_iret C dX12_stepsNow_38 ⟨_, rfl, h⟩
      · replace h := h.2 c
        refine wz_aload_n C rfl rfl dX12_stepsNow_13 ?_
        refine wm_callV C (o := 0) (As := []) (st := []) (a' := 0) (b' := 0) rfl rfl (k_X12_stepNow G hG I J _ h) 0 gX12_stepsNow_X12_stepNow rfl (by decide +kernel) (by rw [hX]; exact ⟨Nat.le_of_ble_eq_true rfl, Nat.le_of_ble_eq_true rfl⟩) rfl (Nat.le_of_ble_eq_true rfl) rfl rfl rfl dX12_stepsNow_14 (kk_sI (fun v4 I4 J4 h => ?_))
        refine wz_iconst C dX12_stepsNow_17 ?_
        obtain ⟨g5, h⟩ := h
        refine wz_icmp_eq C (tgt := 25) g5 (by decide) dX12_stepsNow_18 (by decide) (fun c => ?_) (fun c => ?_)
        · replace h := h.1 c
          refine wz_iconst C dX12_stepsNow_25 ?_
          exact Wz.drop (bk_X12_stepsNow_26 G hG X hX C l1 Q r4 w4 l2 0 I4 J4 h) (And.intro rfl (And.intro rfl (And.intro rfl trivial)))
        · replace h := h.2 c
          refine wz_iconst C dX12_stepsNow_21 ?_
          refine wz_goto C dX12_stepsNow_22 (tgt := 26) (by decide) ?_
          exact Wz.drop (bk_X12_stepsNow_26 G hG X hX C l1 Q r4 w4 l2 1 I4 J4 h) (And.intro rfl (And.intro rfl (And.intro rfl trivial)))
set_option maxHeartbeats 4000000 in
set_option maxRecDepth 100000 in
theorem k_X12_stepsNow (G : KG) (hG : Kok G) (l1 : Int) (I : Ii) (J : Jj) (Q : Int → Ii → Jj → Prop) (h : wp_X12_stepsNow l1 I J Q) : Ctr G yX12_stepsNow wsX12_stepsNow rm_X12_stepsNow [.ref (kadr G 0), .int (iZ l1)] (I, J) (QsI Q) := by
  unfold wp_X12_stepsNow at h
  skip
  refine Ctr.ofZ (cc := cX12_stepsNow) (nL := 4) (ret := (some .int)) [some (.ref (kadr G 0)), some (.int (iZ l1)), none, none] hG (by decide +kernel) rfl (Nat.le_of_ble_eq_true rfl) (Nat.le_of_ble_eq_true rfl) (by simp [lvA, lv_args, Value.category]) ?_
  intro X hX C
  refine wz_iconst C dX12_stepsNow_0 ?_
  refine wz_istore_2 C rfl dX12_stepsNow_1 ?_
  refine wz_iconst C dX12_stepsNow_2 ?_
  refine wz_istore_3 C rfl dX12_stepsNow_3 ?_
  obtain ⟨n, h⟩ := h
  exact lk_X12_stepsNow_4 G hG X hX C l1 Q n 0 1 I J h
theorem in_X12_placesApart_X12 : ∀ w ∈ wsX120, w ∈ wsX12_placesApart := by decide +kernel
theorem f_X12_placesApart_286 : FLk wsX12_placesApart RX12 286 12 27 := flk 12 27 rfl tyX12_ok nmX12 in_X12_placesApart_X12 (by decide) (by decide +kernel)
theorem f_X12_placesApart_26 : FLk wsX12_placesApart RX12 26 12 15 := flk 12 15 rfl tyX12_ok nmX12 in_X12_placesApart_X12 (by decide) (by decide +kernel)
def rm_X12_placesApart : Room := { frames := 3, cells := 0, slots := 0, locals := 68 }
set_option maxHeartbeats 4000000 in
set_option maxRecDepth 100000 in
theorem bk_X12_placesApart_47 (G : KG) (hG : Kok G) (X : KX) (hX : KR X = rm_X12_placesApart) (C : Fr G X cX12_placesApart 6 yX12_placesApart.cls (some .int) wsX12_placesApart) (l1 : Int) (l2 : Int) (Q : Int → Ii → Jj → Prop) (r17 : Int → Int → Int → Ii → Jj → Prop) (w17 : ∀ (l3 : Int) (l4 : Int) (l5 : Int) (I : Ii) (J : Jj), r17 l3 l4 l5 I J → Wz G X 6 (QsU G X (QsI Q)) 0 0 17 [some (.ref (kadr G 0)), none, none, some (.int (iZ l3)), some (.int (iZ l4)), some (.int (iZ l5))] [] I J) (l3 : Int) (l5 : Int) (t0 : Int) (t2 : Int) (t3 : Int) (I : Ii) (J : Jj) (h : B_X12_placesApart_47 l1 l2 Q r17 l3 l5 t0 t2 t3 I J) : Wz G X 6 (QsU G X (QsI Q)) 0 0 47 [some (.ref (kadr G 0)), none, none, some (.int (iZ l3)), none, some (.int (iZ l5))] [.int (iZ t3), .int (iZ t2), .ref (kadr G 0), .int (iZ t0)] I J := by
  unfold B_X12_placesApart_47 at h
  refine wm_callV C (o := 0) (As := [.int (iZ t2), .int (iZ t3)]) (st := [.int (iZ t0)]) (a' := 0) (b' := 0) rfl rfl (k_X12_comes G hG t2 t3 I J _ h) 2 gX12_placesApart_X12_comes rfl (by decide +kernel) (by rw [hX]; exact ⟨Nat.le_of_ble_eq_true rfl, Nat.le_of_ble_eq_true rfl⟩) rfl (Nat.le_of_ble_eq_true rfl) rfl rfl rfl dX12_placesApart_47 (kk_sB (fun v5 I5 J5 hb5 h => ?_))
  refine wm_callS C (As := [.int (iZ v5)]) (st := [.int (iZ t0)]) (a' := 0) (b' := 0) (k_X12_truth G hG v5 I5 J5 _ h) 1 gX12_placesApart_X12_truth rfl (by decide +kernel) (by rw [hX]; exact ⟨Nat.le_of_ble_eq_true rfl, Nat.le_of_ble_eq_true rfl⟩) rfl (Nat.le_of_ble_eq_true rfl) rfl rfl rfl dX12_placesApart_50 (kk_sI (fun v6 I6 J6 h => ?_))
  refine wz_iadd C dX12_placesApart_53 ?_
  refine wz_istore_4 C rfl dX12_placesApart_54 ?_
  refine wz_iinc_5 C rfl dX12_placesApart_56 ?_
  refine wz_goto C dX12_placesApart_59 (tgt := 17) (by decide) ?_
  exact w17 l3 (t0 + v6) (l5 + 1) I6 J6 h
set_option maxHeartbeats 4000000 in
set_option maxRecDepth 100000 in
theorem lk_X12_placesApart_17 (G : KG) (hG : Kok G) (X : KX) (hX : KR X = rm_X12_placesApart) (C : Fr G X cX12_placesApart 6 yX12_placesApart.cls (some .int) wsX12_placesApart) (l1 : Int) (l2 : Int) (Q : Int → Ii → Jj → Prop) : ∀ (n : Nat) (l3 : Int) (l4 : Int) (l5 : Int) (I : Ii) (J : Jj), L_X12_placesApart_17 l1 l2 Q n l3 l4 l5 I J → Wz G X 6 (QsU G X (QsI Q)) 0 0 17 [some (.ref (kadr G 0)), none, none, some (.int (iZ l3)), some (.int (iZ l4)), some (.int (iZ l5))] [] I J := by
  intro n
  induction n with
  | zero => intro l3 l4 l5 I J h; exact False.elim h
  | succ n w17 =>
    intro l3 l4 l5 I J h
    have h : Lb_X12_placesApart_17 l1 l2 Q (L_X12_placesApart_17 l1 l2 Q n) l3 l4 l5 I J := h
    unfold Lb_X12_placesApart_17 at h
    generalize L_X12_placesApart_17 l1 l2 Q n = r17 at h w17
    refine wz_iload C rfl dX12_placesApart_17 ?_
    refine wz_aload_n C rfl rfl dX12_placesApart_19 ?_
    refine wz_getR C (j := 2) f_X12_placesApart_26 rfl dX12_placesApart_20 ?_
    refine wz_iconst C dX12_placesApart_23 ?_
    refine wz_iaload C 0 (n := 350) rfl rfl (by decide) (by decide) rfl dX12_placesApart_24 ?_
    obtain ⟨g2, h⟩ := h
    obtain ⟨g3, h⟩ := h
    refine wz_icmp_ge C (tgt := 62) g2 g3 dX12_placesApart_25 (by decide) (fun c => ?_) (fun c => ?_)
    · replace h := h.1 c
      refine wz_iload C rfl dX12_placesApart_62 ?_
      exact wz_iret C dX12_placesApart_64 ⟨_, rfl, h⟩
    · replace h := h.2 c
      refine wz_iload C rfl dX12_placesApart_28 ?_
      refine wz_aload_n C rfl rfl dX12_placesApart_30 ?_
      refine wz_iload C rfl dX12_placesApart_31 ?_
      refine wz_iload_n C rfl rfl dX12_placesApart_33 ?_
      refine wz_iload C rfl dX12_placesApart_34 ?_
      refine wm_callS C (As := [.int (iZ l3), .int (iZ l5)]) (st := [.int (iZ l5), .ref (kadr G 0), .int (iZ l4)]) (a' := 0) (b' := 0) (k_X12_hasBit G hG l3 l5 I J _ h) 2 gX12_placesApart_X12_hasBit rfl (by decide +kernel) (by rw [hX]; exact ⟨Nat.le_of_ble_eq_true rfl, Nat.le_of_ble_eq_true rfl⟩) rfl (Nat.le_of_ble_eq_true rfl) rfl rfl rfl dX12_placesApart_36 (kk_sB (fun v4 I4 J4 hb4 h => ?_))
      refine wz_if_eq C (tgt := 46) (rgB hb4) dX12_placesApart_39 (by decide) (fun c => ?_) (fun c => ?_)
      · replace h := h.1 c
        refine wz_iconst C dX12_placesApart_46 ?_
        exact Wz.drop (bk_X12_placesApart_47 G hG X hX C l1 l2 Q r17 w17 l3 l5 l4 l5 1 I4 J4 h) (And.intro rfl (And.intro rfl (And.intro rfl trivial)))
      · replace h := h.2 c
        refine wz_iconst C dX12_placesApart_42 ?_
        refine wz_goto C dX12_placesApart_43 (tgt := 47) (by decide) ?_
        exact Wz.drop (bk_X12_placesApart_47 G hG X hX C l1 l2 Q r17 w17 l3 l5 l4 l5 0 I4 J4 h) (And.intro rfl (And.intro rfl (And.intro rfl trivial)))
set_option maxHeartbeats 4000000 in
set_option maxRecDepth 100000 in
theorem k_X12_placesApart (G : KG) (hG : Kok G) (l1 : Int) (l2 : Int) (I : Ii) (J : Jj) (Q : Int → Ii → Jj → Prop) (h : wp_X12_placesApart l1 l2 I J Q) : Ctr G yX12_placesApart wsX12_placesApart rm_X12_placesApart [.ref (kadr G 0), .int (iZ l1), .int (iZ l2)] (I, J) (QsI Q) := by
  unfold wp_X12_placesApart at h
  skip
  refine Ctr.ofZ (cc := cX12_placesApart) (nL := 6) (ret := (some .int)) [some (.ref (kadr G 0)), some (.int (iZ l1)), some (.int (iZ l2)), none, none, none] hG (by decide +kernel) rfl (Nat.le_of_ble_eq_true rfl) (Nat.le_of_ble_eq_true rfl) (by simp [lvA, lv_args, Value.category]) ?_
  intro X hX C
  refine wz_aload_n C rfl rfl dX12_placesApart_0 ?_
  refine wz_iload_n C rfl rfl dX12_placesApart_1 ?_
  refine wz_iload_n C rfl rfl dX12_placesApart_2 ?_
  refine wm_callV C (o := 0) (As := [.int (iZ l1), .int (iZ l2)]) (st := []) (a' := 0) (b' := 0) rfl rfl (k_X12_flows G hG l1 l2 I J _ h) 2 gX12_placesApart_X12_flows rfl (by decide +kernel) (by rw [hX]; exact ⟨Nat.le_of_ble_eq_true rfl, Nat.le_of_ble_eq_true rfl⟩) rfl (Nat.le_of_ble_eq_true rfl) rfl rfl rfl dX12_placesApart_3 (kk_sV (fun I1 J1 h => ?_))
  refine wz_aload_n C rfl rfl dX12_placesApart_6 ?_
  refine wz_getI C rfl f_X12_placesApart_286 rfl dX12_placesApart_7 ?_
  refine wz_istore_3 C rfl dX12_placesApart_10 ?_
  refine wz_iconst C dX12_placesApart_11 ?_
  refine wz_istore_4 C rfl dX12_placesApart_12 ?_
  refine wz_iconst C dX12_placesApart_14 ?_
  refine wz_istore_5 C rfl dX12_placesApart_15 ?_
  obtain ⟨n, h⟩ := h
  exact Wz.drop (lk_X12_placesApart_17 G hG X hX C l1 l2 Q n (I1 0 27) 0 0 I1 J1 h) (And.intro rfl (And.intro rfl (And.intro rfl (And.intro rfl trivial))))
theorem in_X12_mayApart_X12 : ∀ w ∈ wsX120, w ∈ wsX12_mayApart := by decide +kernel
theorem f_X12_mayApart_26 : FLk wsX12_mayApart RX12 26 12 15 := flk 12 15 rfl tyX12_ok nmX12 in_X12_mayApart_X12 (by decide) (by decide +kernel)
def rm_X12_mayApart : Room := { frames := 0, cells := 0, slots := 0, locals := 0 }
set_option maxHeartbeats 4000000 in
set_option maxRecDepth 100000 in
theorem k_X12_mayApart (G : KG) (hG : Kok G) (I : Ii) (J : Jj) (Q : Int → Ii → Jj → Prop) (h : wp_X12_mayApart I J Q) : Ctr G yX12_mayApart wsX12_mayApart rm_X12_mayApart [.ref (kadr G 0)] (I, J) (QsB Q) := by
  unfold wp_X12_mayApart at h
  skip
  refine Ctr.ofZ (cc := cX12_mayApart) (nL := 1) (ret := (some .boolean)) [some (.ref (kadr G 0))] hG (by decide +kernel) rfl (Nat.le_of_ble_eq_true rfl) (Nat.le_of_ble_eq_true rfl) (by simp [lvA, lv_args, Value.category]) ?_
  intro X hX C
  refine wz_aload_n C rfl rfl dX12_mayApart_0 ?_
  refine wz_getR C (j := 2) f_X12_mayApart_26 rfl dX12_mayApart_1 ?_
  refine wz_iconst C dX12_mayApart_4 ?_
  refine wz_iaload C 2 (n := 350) rfl rfl (by decide) (by decide) rfl dX12_mayApart_5 ?_
  refine wz_iconst C dX12_mayApart_6 ?_
  obtain ⟨g1, h⟩ := h
  refine wz_icmp_ne C (tgt := 23) g1 (by decide) dX12_mayApart_7 (by decide) (fun c => ?_) (fun c => ?_)
  · replace h := h.1 c
    refine wz_iconst C dX12_mayApart_23 ?_
    exact wz_zret C (Or.inl rfl) dX12_mayApart_24 ⟨_, rfl, (Or.inl rfl), h⟩
  · replace h := h.2 c
    refine wz_aload_n C rfl rfl dX12_mayApart_10 ?_
    refine wz_getR C (j := 2) f_X12_mayApart_26 rfl dX12_mayApart_11 ?_
    refine wz_iconst C dX12_mayApart_14 ?_
    refine wz_iaload C 5 (n := 350) rfl rfl (by decide) (by decide) rfl dX12_mayApart_15 ?_
    obtain ⟨g2, h⟩ := h
    refine wz_if_ne C (tgt := 23) g2 dX12_mayApart_16 (by decide) (fun c => ?_) (fun c => ?_)
    · replace h := h.1 c
      refine wz_iconst C dX12_mayApart_23 ?_
      exact wz_zret C (Or.inl rfl) dX12_mayApart_24 ⟨_, rfl, (Or.inl rfl), h⟩
    · replace h := h.2 c
      refine wz_iconst C dX12_mayApart_19 ?_
      refine wz_goto C dX12_mayApart_20 (tgt := 24) (by decide) ?_
      exact wz_zret C (Or.inr rfl) dX12_mayApart_24 ⟨_, rfl, (Or.inr rfl), h⟩
theorem in_X12_setsCredit_X12 : ∀ w ∈ wsX120, w ∈ wsX12_setsCredit := by decide +kernel
theorem f_X12_setsCredit_26 : FLk wsX12_setsCredit RX12 26 12 15 := flk 12 15 rfl tyX12_ok nmX12 in_X12_setsCredit_X12 (by decide) (by decide +kernel)
def rm_X12_setsCredit : Room := { frames := 0, cells := 0, slots := 0, locals := 0 }
set_option maxHeartbeats 4000000 in
set_option maxRecDepth 100000 in
theorem k_X12_setsCredit (G : KG) (hG : Kok G) (l1 : Int) (I : Ii) (J : Jj) (Q : Int → Ii → Jj → Prop) (h : wp_X12_setsCredit l1 I J Q) : Ctr G yX12_setsCredit wsX12_setsCredit rm_X12_setsCredit [.ref (kadr G 0), .int (iZ l1)] (I, J) (QsI Q) := by
  unfold wp_X12_setsCredit at h
  skip
  refine Ctr.ofZ (cc := cX12_setsCredit) (nL := 3) (ret := (some .int)) [some (.ref (kadr G 0)), some (.int (iZ l1)), none] hG (by decide +kernel) rfl (Nat.le_of_ble_eq_true rfl) (Nat.le_of_ble_eq_true rfl) (by simp [lvA, lv_args, Value.category]) ?_
  intro X hX C
  refine wz_aload_n C rfl rfl dX12_setsCredit_0 ?_
  refine wz_getR C (j := 2) f_X12_setsCredit_26 rfl dX12_setsCredit_1 ?_
  refine wz_iconst C dX12_setsCredit_4 ?_
  refine wz_iaload C 4 (n := 350) rfl rfl (by decide) (by decide) rfl dX12_setsCredit_5 ?_
  refine wz_istore_2 C rfl dX12_setsCredit_6 ?_
  refine wz_aload_n C rfl rfl dX12_setsCredit_7 ?_
  refine wz_getR C (j := 2) f_X12_setsCredit_26 rfl dX12_setsCredit_8 ?_
  refine wz_iconst C dX12_setsCredit_11 ?_
  refine wz_iload_n C rfl rfl dX12_setsCredit_12 ?_
  refine wd_iastore C 4 (n := 350) rfl rfl (by decide) (by decide) dX12_setsCredit_13 (fun I1 e => ?_)
  replace h := h I1 e
  refine wz_iload_n C rfl rfl dX12_setsCredit_14 ?_
  exact wz_iret C dX12_setsCredit_15 ⟨_, rfl, h⟩
