theorem in_X11_leastFlow_X1 : ∀ w ∈ wsX10, w ∈ wsX11_leastFlow := by decide +kernel
theorem in_X11_leastFlow_X11 : ∀ w ∈ wsX110, w ∈ wsX11_leastFlow := by decide +kernel
theorem in_X11_leastFlow_X2 : ∀ w ∈ wsX20, w ∈ wsX11_leastFlow := by decide +kernel
theorem f_X11_leastFlow_40 : FLk wsX11_leastFlow RX11 40 14 4 := flk 14 4 rfl tyX11_ok nmX11 in_X11_leastFlow_X11 (by decide) (by decide +kernel)
theorem f_X11_leastFlow_141 : FLk wsX11_leastFlow RX11 141 5 0 := flk 5 0 rfl tyX2_ok nmX2 in_X11_leastFlow_X2 (by decide) (by decide +kernel)
theorem f_X11_leastFlow_94 : FLk wsX11_leastFlow RX11 94 14 15 := flk 14 15 rfl tyX11_ok nmX11 in_X11_leastFlow_X11 (by decide) (by decide +kernel)
theorem f_X11_leastFlow_324 : FLk wsX11_leastFlow RX11 324 4 4 := flk 4 4 rfl tyX1_ok nmX1 in_X11_leastFlow_X1 (by decide) (by decide +kernel)
def rm_X11_leastFlow : Room := { frames := 3, cells := 0, slots := 0, locals := 72 }
set_option maxHeartbeats 4000000 in
set_option maxRecDepth 100000 in
theorem lk_X11_leastFlow_4 (G : KG) (hG : KokC G) (X : KX) (hX : KR X = rm_X11_leastFlow) (C : Fr G X cX11_leastFlow 3 yX11_leastFlow.cls (some .int) wsX11_leastFlow) (Q : Int → Ii → Jj → Prop) : ∀ (n : Nat) (l1 : Int) (l2 : Int) (I : Ii) (J : Jj), L_X11_leastFlow_4 Q n l1 l2 I J → Wz G X 3 (QsU G X (QsI Q)) 0 0 4 [some (.ref (kadr G 100)), some (.int (iZ l1)), some (.int (iZ l2))] [] I J := by
  have hz := hG.2
  intro n
  induction n with
  | zero => intro l1 l2 I J h; exact False.elim h
  | succ n w4 =>
    intro l1 l2 I J h
    have h : Lb_X11_leastFlow_4 Q (L_X11_leastFlow_4 Q n) l1 l2 I J := h
    unfold Lb_X11_leastFlow_4 at h
    generalize L_X11_leastFlow_4 Q n = r4 at h w4
    refine wz_iload_n C rfl rfl dX11_leastFlow_4 ?_
    refine wz_aload_n C rfl rfl dX11_leastFlow_5 ?_
    refine wz_getR C (j := 200) f_X11_leastFlow_40 (sOc hz rfl) (by decide) dX11_leastFlow_6 ?_
    refine wz_getI C rfl f_X11_leastFlow_141 (sOc hz rfl) dX11_leastFlow_9 ?_
    obtain ⟨g1, h⟩ := h
    obtain ⟨g2, h⟩ := h
    refine wz_icmp_ge C (tgt := 58) g1 g2 dX11_leastFlow_12 (by decide) (fun c => ?_) (fun c => ?_)
    · replace h := h.1 c
      refine wz_iload_n C rfl rfl dX11_leastFlow_58 ?_
      exact wz_iret C dX11_leastFlow_59 ⟨_, rfl, h⟩
    · replace h := h.2 c
      refine wz_aload_n C rfl rfl dX11_leastFlow_15 ?_
      refine wz_getR C (j := 128) f_X11_leastFlow_94 (sOc hz rfl) (by decide) dX11_leastFlow_16 ?_
      refine wz_aload_n C rfl rfl dX11_leastFlow_19 ?_
      refine wz_getR C (j := 200) f_X11_leastFlow_40 (sOc hz rfl) (by decide) dX11_leastFlow_20 ?_
      refine wz_iconst C dX11_leastFlow_23 ?_
      refine wz_iload_n C rfl rfl dX11_leastFlow_24 ?_
      refine wm_callV C (o := 128) (As := [.ref (kadr G 200), .int (iZ 0), .int (iZ l2)]) (st := []) (a' := 0) (b' := 0) (shK_c hz rfl) rfl (k_X1_run G hG 200 0 l2 I J _ h) 3 gX11_leastFlow_X1_run rfl (by decide +kernel) (by rw [hX]; exact ⟨Nat.le_of_ble_eq_true rfl, Nat.le_of_ble_eq_true rfl⟩) rfl (Nat.le_of_ble_eq_true rfl) rfl rfl rfl dX11_leastFlow_25 (kk_sV (fun I3 J3 h => ?_))
      refine wz_iload_n C rfl rfl dX11_leastFlow_28 ?_
      refine wz_iconst C dX11_leastFlow_29 ?_
      obtain ⟨g4, h⟩ := h
      refine wz_icmp_eq C (tgt := 44) g4 (by decide) dX11_leastFlow_30 (by decide) (fun c => ?_) (fun c => ?_)
      · replace h := h.1 c
        refine wz_aload_n C rfl rfl dX11_leastFlow_44 ?_
        refine wz_getR C (j := 128) f_X11_leastFlow_94 (sOc hz rfl) (by decide) dX11_leastFlow_45 ?_
        refine wz_getI C rfl f_X11_leastFlow_324 (sOc hz rfl) dX11_leastFlow_48 ?_
        refine wz_istore_1 C rfl dX11_leastFlow_51 ?_
        refine wz_iinc_2 C rfl dX11_leastFlow_52 ?_
        refine wz_goto C dX11_leastFlow_55 (tgt := 4) (by decide) ?_
        exact w4 (I3 128 4) (l2 + 1) I3 J3 h
      · replace h := h.2 c
        refine wz_aload_n C rfl rfl dX11_leastFlow_33 ?_
        refine wz_getR C (j := 128) f_X11_leastFlow_94 (sOc hz rfl) (by decide) dX11_leastFlow_34 ?_
        refine wz_getI C rfl f_X11_leastFlow_324 (sOc hz rfl) dX11_leastFlow_37 ?_
        refine wz_iload_n C rfl rfl dX11_leastFlow_40 ?_
        obtain ⟨g5, h⟩ := h
        refine wz_icmp_ge C (tgt := 52) g5 g4 dX11_leastFlow_41 (by decide) (fun c => ?_) (fun c => ?_)
        · replace h := h.1 c
          refine wz_iinc_2 C rfl dX11_leastFlow_52 ?_
          refine wz_goto C dX11_leastFlow_55 (tgt := 4) (by decide) ?_
          exact w4 l1 (l2 + 1) I3 J3 h
        · replace h := h.2 c
          refine wz_aload_n C rfl rfl dX11_leastFlow_44 ?_
          refine wz_getR C (j := 128) f_X11_leastFlow_94 (sOc hz rfl) (by decide) dX11_leastFlow_45 ?_
          refine wz_getI C rfl f_X11_leastFlow_324 (sOc hz rfl) dX11_leastFlow_48 ?_
          refine wz_istore_1 C rfl dX11_leastFlow_51 ?_
          refine wz_iinc_2 C rfl dX11_leastFlow_52 ?_
          refine wz_goto C dX11_leastFlow_55 (tgt := 4) (by decide) ?_
          exact w4 (I3 128 4) (l2 + 1) I3 J3 h
set_option maxHeartbeats 4000000 in
set_option maxRecDepth 100000 in
theorem k_X11_leastFlow (G : KG) (hG : KokC G) (I : Ii) (J : Jj) (Q : Int → Ii → Jj → Prop) (h : wp_X11_leastFlow I J Q) : Ctr G yX11_leastFlow wsX11_leastFlow rm_X11_leastFlow [.ref (kadr G 100)] (I, J) (QsI Q) := by
  unfold wp_X11_leastFlow at h
  skip
  refine Ctr.ofZ (cc := cX11_leastFlow) (nL := 3) (ret := (some .int)) [some (.ref (kadr G 100)), none, none] hG.1 (by decide +kernel) rfl (Nat.le_of_ble_eq_true rfl) (Nat.le_of_ble_eq_true rfl) (by simp [lvA, lv_args, Value.category]) ?_
  intro X hX C
  have hz := hG.2
  refine wz_iconst C dX11_leastFlow_0 ?_
  refine wz_istore_1 C rfl dX11_leastFlow_1 ?_
  refine wz_iconst C dX11_leastFlow_2 ?_
  refine wz_istore_2 C rfl dX11_leastFlow_3 ?_
  obtain ⟨n, h⟩ := h
  exact lk_X11_leastFlow_4 G hG X hX C Q n (-1) 1 I J h
theorem in_X11_part_X11 : ∀ w ∈ wsX110, w ∈ wsX11_part := by decide +kernel
theorem in_X11_part_X4 : ∀ w ∈ wsX40, w ∈ wsX11_part := by decide +kernel
theorem f_X11_part_73 : FLk wsX11_part RX11 73 14 12 := flk 14 12 rfl tyX11_ok nmX11 in_X11_part_X11 (by decide) (by decide +kernel)
theorem f_X11_part_40 : FLk wsX11_part RX11 40 14 4 := flk 14 4 rfl tyX11_ok nmX11 in_X11_part_X11 (by decide) (by decide +kernel)
theorem f_X11_part_53 : FLk wsX11_part RX11 53 14 7 := flk 14 7 rfl tyX11_ok nmX11 in_X11_part_X11 (by decide) (by decide +kernel)
theorem f_X11_part_337 : FLk wsX11_part RX11 337 7 10 := flk 7 10 rfl tyX4_ok nmX4 in_X11_part_X4 (by decide) (by decide +kernel)
theorem f_X11_part_343 : FLk wsX11_part RX11 343 7 9 := flk 7 9 rfl tyX4_ok nmX4 in_X11_part_X4 (by decide) (by decide +kernel)
def rm_X11_part : Room := { frames := 4, cells := 0, slots := 0, locals := 93 }
set_option maxHeartbeats 4000000 in
set_option maxRecDepth 100000 in
theorem k_X11_part (G : KG) (hG : KokC G) (l1 : Int) (l2 : Int) (I : Ii) (J : Jj) (Q : Int → Ii → Jj → Prop) (h : wp_X11_part l1 l2 I J Q) : Ctr G yX11_part wsX11_part rm_X11_part [.ref (kadr G 100), .int (iZ l1), .int (iZ l2)] (I, J) (QsI Q) := by
  unfold wp_X11_part at h
  skip
  refine Ctr.ofZ (cc := cX11_part) (nL := 3) (ret := (some .int)) [some (.ref (kadr G 100)), some (.int (iZ l1)), some (.int (iZ l2))] hG.1 (by decide +kernel) rfl (Nat.le_of_ble_eq_true rfl) (Nat.le_of_ble_eq_true rfl) (by simp [lvA, lv_args, Value.category]) ?_
  intro X hX C
  have hz := hG.2
  refine wz_aload_n C rfl rfl dX11_part_0 ?_
  refine wz_iload_n C rfl rfl dX11_part_1 ?_
  refine wm_callV C (o := 100) (As := [.int (iZ l1)]) (st := []) (a' := 0) (b' := 0) (shK_c hz rfl) rfl (k_X11_requirePart G hG l1 I J _ h) 1 gX11_part_X11_requirePart rfl (by decide +kernel) (by rw [hX]; exact ⟨Nat.le_of_ble_eq_true rfl, Nat.le_of_ble_eq_true rfl⟩) rfl (Nat.le_of_ble_eq_true rfl) rfl rfl rfl dX11_part_2 (kk_sV (fun I1 J1 h => ?_))
  refine wz_aload_n C rfl rfl dX11_part_5 ?_
  refine wz_getR C (j := 113) f_X11_part_73 (sOc hz rfl) (by decide) dX11_part_6 ?_
  refine wz_aload_n C rfl rfl dX11_part_9 ?_
  refine wz_getR C (j := 200) f_X11_part_40 (sOc hz rfl) (by decide) dX11_part_10 ?_
  refine wz_aload_n C rfl rfl dX11_part_13 ?_
  refine wz_getR C (j := 300) f_X11_part_53 (sOc hz rfl) (by decide) dX11_part_14 ?_
  refine wm_callV C (o := 113) (As := [.ref (kadr G 200), .ref (kadr G 300)]) (st := []) (a' := 0) (b' := 0) (shK_c hz rfl) rfl (k_X4_take G hG 200 300 I1 J1 _ h) 2 gX11_part_X4_take rfl (by decide +kernel) (by rw [hX]; exact ⟨Nat.le_of_ble_eq_true rfl, Nat.le_of_ble_eq_true rfl⟩) rfl (Nat.le_of_ble_eq_true rfl) rfl rfl rfl dX11_part_17 (kk_sV (fun I2 J2 h => ?_))
  refine wz_iload_n C rfl rfl dX11_part_20 ?_
  obtain ⟨g3, h⟩ := h
  have c : (l2 < 0 ∨ 4 < l2) ∨ l2 = 0 ∨ l2 = 1 ∨ l2 = 2 ∨ l2 = 3 ∨ l2 = 4 := by omega
  rcases c with c | c | c | c | c | c
  · replace h := h.1 c
    refine wz_tableOut C (tgt := 124) g3 dX11_part_21 c (by decide) ?_
    exact False.elim h
  · replace h := h.2.1 c
    refine wz_tableIn C (v := 0) (tgt := 56) c dX11_part_21 (by decide) rfl (by decide) ?_
    refine wz_aload_n C rfl rfl dX11_part_56 ?_
    refine wz_getR C (j := 113) f_X11_part_73 (sOc hz rfl) (by decide) dX11_part_57 ?_
    refine wz_getR C (j := 118) f_X11_part_337 (sOc hz rfl) (by decide) dX11_part_60 ?_
    refine wz_iload_n C rfl rfl dX11_part_63 ?_
    refine wm_callS C (As := [.ref (kadr G 118), .int (iZ l1)]) (st := []) (a' := 0) (b' := 0) (k_X11_at G hG 118 l1 I2 J2 _ h) 2 gX11_part_X11_at rfl (by decide +kernel) (by rw [hX]; exact ⟨Nat.le_of_ble_eq_true rfl, Nat.le_of_ble_eq_true rfl⟩) rfl (Nat.le_of_ble_eq_true rfl) rfl rfl rfl dX11_part_64 (kk_sI (fun v4 I4 J4 h => ?_))
    exact wz_iret C dX11_part_67 ⟨_, rfl, h⟩
  · replace h := h.2.2.1 c
    refine wz_tableIn C (v := 1) (tgt := 68) c dX11_part_21 (by decide) rfl (by decide) ?_
    refine wz_aload_n C rfl rfl dX11_part_68 ?_
    refine wz_getR C (j := 113) f_X11_part_73 (sOc hz rfl) (by decide) dX11_part_69 ?_
    refine wz_aload_n C rfl rfl dX11_part_72 ?_
    refine wz_getR C (j := 113) f_X11_part_73 (sOc hz rfl) (by decide) dX11_part_73 ?_
    refine wz_getR C (j := 118) f_X11_part_337 (sOc hz rfl) (by decide) dX11_part_76 ?_
    refine wz_iload_n C rfl rfl dX11_part_79 ?_
    refine wm_callS C (As := [.ref (kadr G 118), .int (iZ l1)]) (st := [.ref (kadr G 113)]) (a' := 0) (b' := 0) (k_X11_at G hG 118 l1 I2 J2 _ h) 2 gX11_part_X11_at rfl (by decide +kernel) (by rw [hX]; exact ⟨Nat.le_of_ble_eq_true rfl, Nat.le_of_ble_eq_true rfl⟩) rfl (Nat.le_of_ble_eq_true rfl) rfl rfl rfl dX11_part_80 (kk_sI (fun v5 I5 J5 h => ?_))
    refine wm_callV C (o := 113) (As := [.int (iZ v5)]) (st := []) (a' := 0) (b' := 0) (shK_c hz rfl) rfl (k_X4_debtAt G hG v5 I5 J5 _ h) 1 gX11_part_X4_debtAt rfl (by decide +kernel) (by rw [hX]; exact ⟨Nat.le_of_ble_eq_true rfl, Nat.le_of_ble_eq_true rfl⟩) rfl (Nat.le_of_ble_eq_true rfl) rfl rfl rfl dX11_part_83 (kk_sI (fun v6 I6 J6 h => ?_))
    exact wz_iret C dX11_part_86 ⟨_, rfl, h⟩
  · replace h := h.2.2.2.1 c
    refine wz_tableIn C (v := 2) (tgt := 87) c dX11_part_21 (by decide) rfl (by decide) ?_
    refine wz_aload_n C rfl rfl dX11_part_87 ?_
    refine wz_getR C (j := 113) f_X11_part_73 (sOc hz rfl) (by decide) dX11_part_88 ?_
    refine wz_getR C (j := 117) f_X11_part_343 (sOc hz rfl) (by decide) dX11_part_91 ?_
    refine wz_iload_n C rfl rfl dX11_part_94 ?_
    refine wm_callS C (As := [.ref (kadr G 117), .int (iZ l1)]) (st := []) (a' := 0) (b' := 0) (k_X11_at G hG 117 l1 I2 J2 _ h) 2 gX11_part_X11_at rfl (by decide +kernel) (by rw [hX]; exact ⟨Nat.le_of_ble_eq_true rfl, Nat.le_of_ble_eq_true rfl⟩) rfl (Nat.le_of_ble_eq_true rfl) rfl rfl rfl dX11_part_95 (kk_sI (fun v7 I7 J7 h => ?_))
    exact wz_iret C dX11_part_98 ⟨_, rfl, h⟩
  · replace h := h.2.2.2.2.1 c
    refine wz_tableIn C (v := 3) (tgt := 99) c dX11_part_21 (by decide) rfl (by decide) ?_
    refine wz_aload_n C rfl rfl dX11_part_99 ?_
    refine wz_getR C (j := 200) f_X11_part_40 (sOc hz rfl) (by decide) dX11_part_100 ?_
    refine wz_aload_n C rfl rfl dX11_part_103 ?_
    refine wz_getR C (j := 113) f_X11_part_73 (sOc hz rfl) (by decide) dX11_part_104 ?_
    refine wz_getR C (j := 117) f_X11_part_343 (sOc hz rfl) (by decide) dX11_part_107 ?_
    refine wz_iload_n C rfl rfl dX11_part_110 ?_
    refine wm_callS C (As := [.ref (kadr G 117), .int (iZ l1)]) (st := [.ref (kadr G 200)]) (a' := 0) (b' := 0) (k_X11_at G hG 117 l1 I2 J2 _ h) 2 gX11_part_X11_at rfl (by decide +kernel) (by rw [hX]; exact ⟨Nat.le_of_ble_eq_true rfl, Nat.le_of_ble_eq_true rfl⟩) rfl (Nat.le_of_ble_eq_true rfl) rfl rfl rfl dX11_part_111 (kk_sI (fun v8 I8 J8 h => ?_))
    refine wm_callV C (o := 200) (As := [.int (iZ v8)]) (st := []) (a' := 0) (b' := 0) (shK_c hz rfl) rfl (k_X2_pieces G hG 200 v8 I8 J8 _ h) 1 gX11_part_X2_pieces rfl (by decide +kernel) (by rw [hX]; exact ⟨Nat.le_of_ble_eq_true rfl, Nat.le_of_ble_eq_true rfl⟩) rfl (Nat.le_of_ble_eq_true rfl) rfl rfl rfl dX11_part_114 (kk_sI (fun v9 I9 J9 h => ?_))
    exact wz_iret C dX11_part_117 ⟨_, rfl, h⟩
  · replace h := h.2.2.2.2.2 c
    refine wz_tableIn C (v := 4) (tgt := 118) c dX11_part_21 (by decide) rfl (by decide) ?_
    refine wz_aload_n C rfl rfl dX11_part_118 ?_
    refine wz_iload_n C rfl rfl dX11_part_119 ?_
    refine wm_callV C (o := 100) (As := [.int (iZ l1)]) (st := []) (a' := 0) (b' := 0) (shK_c hz rfl) rfl (k_X11_cutAround G hG l1 I2 J2 _ h) 1 gX11_part_X11_cutAround rfl (by decide +kernel) (by rw [hX]; exact ⟨Nat.le_of_ble_eq_true rfl, Nat.le_of_ble_eq_true rfl⟩) rfl (Nat.le_of_ble_eq_true rfl) rfl rfl rfl dX11_part_120 (kk_sI (fun v10 I10 J10 h => ?_))
    exact wz_iret C dX11_part_123 ⟨_, rfl, h⟩
theorem in_X11_cut_X11 : ∀ w ∈ wsX110, w ∈ wsX11_cut := by decide +kernel
theorem in_X11_cut_X4 : ∀ w ∈ wsX40, w ∈ wsX11_cut := by decide +kernel
theorem f_X11_cut_73 : FLk wsX11_cut RX11 73 14 12 := flk 14 12 rfl tyX11_ok nmX11 in_X11_cut_X11 (by decide) (by decide +kernel)
theorem f_X11_cut_40 : FLk wsX11_cut RX11 40 14 4 := flk 14 4 rfl tyX11_ok nmX11 in_X11_cut_X11 (by decide) (by decide +kernel)
theorem f_X11_cut_53 : FLk wsX11_cut RX11 53 14 7 := flk 14 7 rfl tyX11_ok nmX11 in_X11_cut_X11 (by decide) (by decide +kernel)
theorem f_X11_cut_357 : FLk wsX11_cut RX11 357 7 5 := flk 7 5 rfl tyX4_ok nmX4 in_X11_cut_X4 (by decide) (by decide +kernel)
def rm_X11_cut : Room := { frames := 3, cells := 0, slots := 0, locals := 73 }
set_option maxHeartbeats 4000000 in
set_option maxRecDepth 100000 in
theorem k_X11_cut (G : KG) (hG : KokC G) (I : Ii) (J : Jj) (Q : Int → Ii → Jj → Prop) (h : wp_X11_cut I J Q) : Ctr G yX11_cut wsX11_cut rm_X11_cut [.ref (kadr G 100)] (I, J) (QsI Q) := by
  unfold wp_X11_cut at h
  skip
  refine Ctr.ofZ (cc := cX11_cut) (nL := 1) (ret := (some .int)) [some (.ref (kadr G 100))] hG.1 (by decide +kernel) rfl (Nat.le_of_ble_eq_true rfl) (Nat.le_of_ble_eq_true rfl) (by simp [lvA, lv_args, Value.category]) ?_
  intro X hX C
  have hz := hG.2
  refine wz_aload_n C rfl rfl dX11_cut_0 ?_
  refine wz_getR C (j := 113) f_X11_cut_73 (sOc hz rfl) (by decide) dX11_cut_1 ?_
  refine wz_aload_n C rfl rfl dX11_cut_4 ?_
  refine wz_getR C (j := 200) f_X11_cut_40 (sOc hz rfl) (by decide) dX11_cut_5 ?_
  refine wz_aload_n C rfl rfl dX11_cut_8 ?_
  refine wz_getR C (j := 300) f_X11_cut_53 (sOc hz rfl) (by decide) dX11_cut_9 ?_
  refine wm_callV C (o := 113) (As := [.ref (kadr G 200), .ref (kadr G 300)]) (st := []) (a' := 0) (b' := 0) (shK_c hz rfl) rfl (k_X4_take G hG 200 300 I J _ h) 2 gX11_cut_X4_take rfl (by decide +kernel) (by rw [hX]; exact ⟨Nat.le_of_ble_eq_true rfl, Nat.le_of_ble_eq_true rfl⟩) rfl (Nat.le_of_ble_eq_true rfl) rfl rfl rfl dX11_cut_12 (kk_sV (fun I1 J1 h => ?_))
  refine wz_aload_n C rfl rfl dX11_cut_15 ?_
  refine wz_getR C (j := 113) f_X11_cut_73 (sOc hz rfl) (by decide) dX11_cut_16 ?_
  refine wz_getI C rfl f_X11_cut_357 (sOc hz rfl) dX11_cut_19 ?_
  exact wz_iret C dX11_cut_22 ⟨_, rfl, h⟩
theorem in_X11_debts_X11 : ∀ w ∈ wsX110, w ∈ wsX11_debts := by decide +kernel
theorem in_X11_debts_X4 : ∀ w ∈ wsX40, w ∈ wsX11_debts := by decide +kernel
theorem f_X11_debts_73 : FLk wsX11_debts RX11 73 14 12 := flk 14 12 rfl tyX11_ok nmX11 in_X11_debts_X11 (by decide) (by decide +kernel)
theorem f_X11_debts_40 : FLk wsX11_debts RX11 40 14 4 := flk 14 4 rfl tyX11_ok nmX11 in_X11_debts_X11 (by decide) (by decide +kernel)
theorem f_X11_debts_53 : FLk wsX11_debts RX11 53 14 7 := flk 14 7 rfl tyX11_ok nmX11 in_X11_debts_X11 (by decide) (by decide +kernel)
theorem f_X11_debts_360 : FLk wsX11_debts RX11 360 7 4 := flk 7 4 rfl tyX4_ok nmX4 in_X11_debts_X4 (by decide) (by decide +kernel)
def rm_X11_debts : Room := { frames := 3, cells := 0, slots := 0, locals := 73 }
set_option maxHeartbeats 4000000 in
set_option maxRecDepth 100000 in
theorem k_X11_debts (G : KG) (hG : KokC G) (I : Ii) (J : Jj) (Q : Int → Ii → Jj → Prop) (h : wp_X11_debts I J Q) : Ctr G yX11_debts wsX11_debts rm_X11_debts [.ref (kadr G 100)] (I, J) (QsI Q) := by
  unfold wp_X11_debts at h
  skip
  refine Ctr.ofZ (cc := cX11_debts) (nL := 1) (ret := (some .int)) [some (.ref (kadr G 100))] hG.1 (by decide +kernel) rfl (Nat.le_of_ble_eq_true rfl) (Nat.le_of_ble_eq_true rfl) (by simp [lvA, lv_args, Value.category]) ?_
  intro X hX C
  have hz := hG.2
  refine wz_aload_n C rfl rfl dX11_debts_0 ?_
  refine wz_getR C (j := 113) f_X11_debts_73 (sOc hz rfl) (by decide) dX11_debts_1 ?_
  refine wz_aload_n C rfl rfl dX11_debts_4 ?_
  refine wz_getR C (j := 200) f_X11_debts_40 (sOc hz rfl) (by decide) dX11_debts_5 ?_
  refine wz_aload_n C rfl rfl dX11_debts_8 ?_
  refine wz_getR C (j := 300) f_X11_debts_53 (sOc hz rfl) (by decide) dX11_debts_9 ?_
  refine wm_callV C (o := 113) (As := [.ref (kadr G 200), .ref (kadr G 300)]) (st := []) (a' := 0) (b' := 0) (shK_c hz rfl) rfl (k_X4_take G hG 200 300 I J _ h) 2 gX11_debts_X4_take rfl (by decide +kernel) (by rw [hX]; exact ⟨Nat.le_of_ble_eq_true rfl, Nat.le_of_ble_eq_true rfl⟩) rfl (Nat.le_of_ble_eq_true rfl) rfl rfl rfl dX11_debts_12 (kk_sV (fun I1 J1 h => ?_))
  refine wz_aload_n C rfl rfl dX11_debts_15 ?_
  refine wz_getR C (j := 113) f_X11_debts_73 (sOc hz rfl) (by decide) dX11_debts_16 ?_
  refine wz_getI C rfl f_X11_debts_360 (sOc hz rfl) dX11_debts_19 ?_
  exact wz_iret C dX11_debts_22 ⟨_, rfl, h⟩
theorem in_X11_group_X11 : ∀ w ∈ wsX110, w ∈ wsX11_group := by decide +kernel
theorem in_X11_group_X4 : ∀ w ∈ wsX40, w ∈ wsX11_group := by decide +kernel
theorem f_X11_group_73 : FLk wsX11_group RX11 73 14 12 := flk 14 12 rfl tyX11_ok nmX11 in_X11_group_X11 (by decide) (by decide +kernel)
theorem f_X11_group_40 : FLk wsX11_group RX11 40 14 4 := flk 14 4 rfl tyX11_ok nmX11 in_X11_group_X11 (by decide) (by decide +kernel)
theorem f_X11_group_53 : FLk wsX11_group RX11 53 14 7 := flk 14 7 rfl tyX11_ok nmX11 in_X11_group_X11 (by decide) (by decide +kernel)
theorem f_X11_group_372 : FLk wsX11_group RX11 372 7 6 := flk 7 6 rfl tyX4_ok nmX4 in_X11_group_X4 (by decide) (by decide +kernel)
theorem f_X11_group_375 : FLk wsX11_group RX11 375 7 7 := flk 7 7 rfl tyX4_ok nmX4 in_X11_group_X4 (by decide) (by decide +kernel)
theorem f_X11_group_378 : FLk wsX11_group RX11 378 7 8 := flk 7 8 rfl tyX4_ok nmX4 in_X11_group_X4 (by decide) (by decide +kernel)
def rm_X11_group : Room := { frames := 4, cells := 0, slots := 0, locals := 83 }
set_option maxHeartbeats 4000000 in
set_option maxRecDepth 100000 in
theorem k_X11_group (G : KG) (hG : KokC G) (l1 : Int) (l2 : Int) (I : Ii) (J : Jj) (Q : Int → Ii → Jj → Prop) (h : wp_X11_group l1 l2 I J Q) : Ctr G yX11_group wsX11_group rm_X11_group [.ref (kadr G 100), .int (iZ l1), .int (iZ l2)] (I, J) (QsI Q) := by
  unfold wp_X11_group at h
  skip
  refine Ctr.ofZ (cc := cX11_group) (nL := 3) (ret := (some .int)) [some (.ref (kadr G 100)), some (.int (iZ l1)), some (.int (iZ l2))] hG.1 (by decide +kernel) rfl (Nat.le_of_ble_eq_true rfl) (Nat.le_of_ble_eq_true rfl) (by simp [lvA, lv_args, Value.category]) ?_
  intro X hX C
  have hz := hG.2
  refine wz_aload_n C rfl rfl dX11_group_0 ?_
  refine wz_iload_n C rfl rfl dX11_group_1 ?_
  refine wm_callV C (o := 100) (As := [.int (iZ l1)]) (st := []) (a' := 0) (b' := 0) (shK_c hz rfl) rfl (k_X11_requireGroup G hG l1 I J _ h) 1 gX11_group_X11_requireGroup rfl (by decide +kernel) (by rw [hX]; exact ⟨Nat.le_of_ble_eq_true rfl, Nat.le_of_ble_eq_true rfl⟩) rfl (Nat.le_of_ble_eq_true rfl) rfl rfl rfl dX11_group_2 (kk_sV (fun I1 J1 h => ?_))
  refine wz_aload_n C rfl rfl dX11_group_5 ?_
  refine wz_getR C (j := 113) f_X11_group_73 (sOc hz rfl) (by decide) dX11_group_6 ?_
  refine wz_aload_n C rfl rfl dX11_group_9 ?_
  refine wz_getR C (j := 200) f_X11_group_40 (sOc hz rfl) (by decide) dX11_group_10 ?_
  refine wz_aload_n C rfl rfl dX11_group_13 ?_
  refine wz_getR C (j := 300) f_X11_group_53 (sOc hz rfl) (by decide) dX11_group_14 ?_
  refine wm_callV C (o := 113) (As := [.ref (kadr G 200), .ref (kadr G 300)]) (st := []) (a' := 0) (b' := 0) (shK_c hz rfl) rfl (k_X4_take G hG 200 300 I1 J1 _ h) 2 gX11_group_X4_take rfl (by decide +kernel) (by rw [hX]; exact ⟨Nat.le_of_ble_eq_true rfl, Nat.le_of_ble_eq_true rfl⟩) rfl (Nat.le_of_ble_eq_true rfl) rfl rfl rfl dX11_group_17 (kk_sV (fun I2 J2 h => ?_))
  refine wz_iload_n C rfl rfl dX11_group_20 ?_
  obtain ⟨g3, h⟩ := h
  have c : (l2 < 0 ∨ 3 < l2) ∨ l2 = 0 ∨ l2 = 1 ∨ l2 = 2 ∨ l2 = 3 := by omega
  rcases c with c | c | c | c | c
  · replace h := h.1 c
    refine wz_tableOut C (tgt := 97) g3 dX11_group_21 c (by decide) ?_
    exact False.elim h
  · replace h := h.2.1 c
    refine wz_tableIn C (v := 0) (tgt := 52) c dX11_group_21 (by decide) rfl (by decide) ?_
    refine wz_aload_n C rfl rfl dX11_group_52 ?_
    refine wz_getR C (j := 113) f_X11_group_73 (sOc hz rfl) (by decide) dX11_group_53 ?_
    refine wz_getR C (j := 114) f_X11_group_372 (sOc hz rfl) (by decide) dX11_group_56 ?_
    refine wz_iload_n C rfl rfl dX11_group_59 ?_
    refine wm_callS C (As := [.ref (kadr G 114), .int (iZ l1)]) (st := []) (a' := 0) (b' := 0) (k_X11_at G hG 114 l1 I2 J2 _ h) 2 gX11_group_X11_at rfl (by decide +kernel) (by rw [hX]; exact ⟨Nat.le_of_ble_eq_true rfl, Nat.le_of_ble_eq_true rfl⟩) rfl (Nat.le_of_ble_eq_true rfl) rfl rfl rfl dX11_group_60 (kk_sI (fun v4 I4 J4 h => ?_))
    exact wz_iret C dX11_group_63 ⟨_, rfl, h⟩
  · replace h := h.2.2.1 c
    refine wz_tableIn C (v := 1) (tgt := 64) c dX11_group_21 (by decide) rfl (by decide) ?_
    refine wz_aload_n C rfl rfl dX11_group_64 ?_
    refine wz_getR C (j := 113) f_X11_group_73 (sOc hz rfl) (by decide) dX11_group_65 ?_
    refine wz_getR C (j := 115) f_X11_group_375 (sOc hz rfl) (by decide) dX11_group_68 ?_
    refine wz_iload_n C rfl rfl dX11_group_71 ?_
    refine wm_callS C (As := [.ref (kadr G 115), .int (iZ l1)]) (st := []) (a' := 0) (b' := 0) (k_X11_at G hG 115 l1 I2 J2 _ h) 2 gX11_group_X11_at rfl (by decide +kernel) (by rw [hX]; exact ⟨Nat.le_of_ble_eq_true rfl, Nat.le_of_ble_eq_true rfl⟩) rfl (Nat.le_of_ble_eq_true rfl) rfl rfl rfl dX11_group_72 (kk_sI (fun v5 I5 J5 h => ?_))
    exact wz_iret C dX11_group_75 ⟨_, rfl, h⟩
  · replace h := h.2.2.2.1 c
    refine wz_tableIn C (v := 2) (tgt := 76) c dX11_group_21 (by decide) rfl (by decide) ?_
    refine wz_aload_n C rfl rfl dX11_group_76 ?_
    refine wz_getR C (j := 113) f_X11_group_73 (sOc hz rfl) (by decide) dX11_group_77 ?_
    refine wz_getR C (j := 116) f_X11_group_378 (sOc hz rfl) (by decide) dX11_group_80 ?_
    refine wz_iload_n C rfl rfl dX11_group_83 ?_
    refine wm_callS C (As := [.ref (kadr G 116), .int (iZ l1)]) (st := []) (a' := 0) (b' := 0) (k_X11_at G hG 116 l1 I2 J2 _ h) 2 gX11_group_X11_at rfl (by decide +kernel) (by rw [hX]; exact ⟨Nat.le_of_ble_eq_true rfl, Nat.le_of_ble_eq_true rfl⟩) rfl (Nat.le_of_ble_eq_true rfl) rfl rfl rfl dX11_group_84 (kk_sI (fun v6 I6 J6 h => ?_))
    exact wz_iret C dX11_group_87 ⟨_, rfl, h⟩
  · replace h := h.2.2.2.2 c
    refine wz_tableIn C (v := 3) (tgt := 88) c dX11_group_21 (by decide) rfl (by decide) ?_
    refine wz_aload_n C rfl rfl dX11_group_88 ?_
    refine wz_getR C (j := 113) f_X11_group_73 (sOc hz rfl) (by decide) dX11_group_89 ?_
    refine wz_iload_n C rfl rfl dX11_group_92 ?_
    refine wm_callV C (o := 113) (As := [.int (iZ l1)]) (st := []) (a' := 0) (b' := 0) (shK_c hz rfl) rfl (k_X4_pullOfAll G hG l1 I2 J2 _ h) 1 gX11_group_X4_pullOfAll rfl (by decide +kernel) (by rw [hX]; exact ⟨Nat.le_of_ble_eq_true rfl, Nat.le_of_ble_eq_true rfl⟩) rfl (Nat.le_of_ble_eq_true rfl) rfl rfl rfl dX11_group_93 (kk_sI (fun v7 I7 J7 h => ?_))
    exact wz_iret C dX11_group_96 ⟨_, rfl, h⟩
theorem in_X11_findPairs_X11 : ∀ w ∈ wsX110, w ∈ wsX11_findPairs := by decide +kernel
theorem f_X11_findPairs_73 : FLk wsX11_findPairs RX11 73 14 12 := flk 14 12 rfl tyX11_ok nmX11 in_X11_findPairs_X11 (by decide) (by decide +kernel)
theorem f_X11_findPairs_40 : FLk wsX11_findPairs RX11 40 14 4 := flk 14 4 rfl tyX11_ok nmX11 in_X11_findPairs_X11 (by decide) (by decide +kernel)
theorem f_X11_findPairs_53 : FLk wsX11_findPairs RX11 53 14 7 := flk 14 7 rfl tyX11_ok nmX11 in_X11_findPairs_X11 (by decide) (by decide +kernel)
theorem f_X11_findPairs_80 : FLk wsX11_findPairs RX11 80 14 13 := flk 14 13 rfl tyX11_ok nmX11 in_X11_findPairs_X11 (by decide) (by decide +kernel)
def rm_X11_findPairs : Room := { frames := 3, cells := 0, slots := 0, locals := 73 }
set_option maxHeartbeats 4000000 in
set_option maxRecDepth 100000 in
theorem k_X11_findPairs (G : KG) (hG : KokC G) (I : Ii) (J : Jj) (Q : Ii → Jj → Prop) (h : wp_X11_findPairs I J Q) : Ctr G yX11_findPairs wsX11_findPairs rm_X11_findPairs [.ref (kadr G 100)] (I, J) (QsV Q) := by
  unfold wp_X11_findPairs at h
  skip
  refine Ctr.ofZ (cc := cX11_findPairs) (nL := 1) (ret := none) [some (.ref (kadr G 100))] hG.1 (by decide +kernel) rfl (Nat.le_of_ble_eq_true rfl) (Nat.le_of_ble_eq_true rfl) (by simp [lvA, lv_args, Value.category]) ?_
  intro X hX C
  have hz := hG.2
  refine wz_aload_n C rfl rfl dX11_findPairs_0 ?_
  refine wz_getR C (j := 113) f_X11_findPairs_73 (sOc hz rfl) (by decide) dX11_findPairs_1 ?_
  refine wz_aload_n C rfl rfl dX11_findPairs_4 ?_
  refine wz_getR C (j := 200) f_X11_findPairs_40 (sOc hz rfl) (by decide) dX11_findPairs_5 ?_
  refine wz_aload_n C rfl rfl dX11_findPairs_8 ?_
  refine wz_getR C (j := 300) f_X11_findPairs_53 (sOc hz rfl) (by decide) dX11_findPairs_9 ?_
  refine wm_callV C (o := 113) (As := [.ref (kadr G 200), .ref (kadr G 300)]) (st := []) (a' := 0) (b' := 0) (shK_c hz rfl) rfl (k_X4_take G hG 200 300 I J _ h) 2 gX11_findPairs_X4_take rfl (by decide +kernel) (by rw [hX]; exact ⟨Nat.le_of_ble_eq_true rfl, Nat.le_of_ble_eq_true rfl⟩) rfl (Nat.le_of_ble_eq_true rfl) rfl rfl rfl dX11_findPairs_12 (kk_sV (fun I1 J1 h => ?_))
  refine wz_aload_n C rfl rfl dX11_findPairs_15 ?_
  refine wz_getR C (j := 120) f_X11_findPairs_80 (sOc hz rfl) (by decide) dX11_findPairs_16 ?_
  refine wz_aload_n C rfl rfl dX11_findPairs_19 ?_
  refine wz_getR C (j := 200) f_X11_findPairs_40 (sOc hz rfl) (by decide) dX11_findPairs_20 ?_
  refine wz_aload_n C rfl rfl dX11_findPairs_23 ?_
  refine wz_getR C (j := 300) f_X11_findPairs_53 (sOc hz rfl) (by decide) dX11_findPairs_24 ?_
  refine wm_callV C (o := 120) (As := [.ref (kadr G 200), .ref (kadr G 300)]) (st := []) (a' := 0) (b' := 0) (shK_c hz rfl) rfl (k_X5_join G hG 200 300 I1 J1 _ h) 2 gX11_findPairs_X5_join rfl (by decide +kernel) (by rw [hX]; exact ⟨Nat.le_of_ble_eq_true rfl, Nat.le_of_ble_eq_true rfl⟩) rfl (Nat.le_of_ble_eq_true rfl) rfl rfl rfl dX11_findPairs_27 (kk_sV (fun I2 J2 h => ?_))
  refine wz_aload_n C rfl rfl dX11_findPairs_30 ?_
  refine wz_getR C (j := 120) f_X11_findPairs_80 (sOc hz rfl) (by decide) dX11_findPairs_31 ?_
  refine wz_aload_n C rfl rfl dX11_findPairs_34 ?_
  refine wz_getR C (j := 113) f_X11_findPairs_73 (sOc hz rfl) (by decide) dX11_findPairs_35 ?_
  refine wm_callV C (o := 120) (As := [.ref (kadr G 113)]) (st := []) (a' := 0) (b' := 0) (shK_c hz rfl) rfl (k_X5_findMates G hG I2 J2 _ h) 1 gX11_findPairs_X5_findMates rfl (by decide +kernel) (by rw [hX]; exact ⟨Nat.le_of_ble_eq_true rfl, Nat.le_of_ble_eq_true rfl⟩) rfl (Nat.le_of_ble_eq_true rfl) rfl rfl rfl dX11_findPairs_38 (kk_sV (fun I3 J3 h => ?_))
  exact wz_vret C dX11_findPairs_41 ⟨rfl, h⟩
theorem in_X11_mate_X11 : ∀ w ∈ wsX110, w ∈ wsX11_mate := by decide +kernel
theorem in_X11_mate_X5 : ∀ w ∈ wsX50, w ∈ wsX11_mate := by decide +kernel
theorem f_X11_mate_80 : FLk wsX11_mate RX11 80 14 13 := flk 14 13 rfl tyX11_ok nmX11 in_X11_mate_X11 (by decide) (by decide +kernel)
theorem f_X11_mate_406 : FLk wsX11_mate RX11 406 8 1 := flk 8 1 rfl tyX5_ok nmX5 in_X11_mate_X5 (by decide) (by decide +kernel)
def rm_X11_mate : Room := { frames := 4, cells := 0, slots := 0, locals := 93 }
set_option maxHeartbeats 4000000 in
set_option maxRecDepth 100000 in
theorem k_X11_mate (G : KG) (hG : KokC G) (l1 : Int) (I : Ii) (J : Jj) (Q : Int → Ii → Jj → Prop) (h : wp_X11_mate l1 I J Q) : Ctr G yX11_mate wsX11_mate rm_X11_mate [.ref (kadr G 100), .int (iZ l1)] (I, J) (QsI Q) := by
  unfold wp_X11_mate at h
  skip
  refine Ctr.ofZ (cc := cX11_mate) (nL := 2) (ret := (some .int)) [some (.ref (kadr G 100)), some (.int (iZ l1))] hG.1 (by decide +kernel) rfl (Nat.le_of_ble_eq_true rfl) (Nat.le_of_ble_eq_true rfl) (by simp [lvA, lv_args, Value.category]) ?_
  intro X hX C
  have hz := hG.2
  refine wz_aload_n C rfl rfl dX11_mate_0 ?_
  refine wz_iload_n C rfl rfl dX11_mate_1 ?_
  refine wm_callV C (o := 100) (As := [.int (iZ l1)]) (st := []) (a' := 0) (b' := 0) (shK_c hz rfl) rfl (k_X11_requireGroup G hG l1 I J _ h) 1 gX11_mate_X11_requireGroup rfl (by decide +kernel) (by rw [hX]; exact ⟨Nat.le_of_ble_eq_true rfl, Nat.le_of_ble_eq_true rfl⟩) rfl (Nat.le_of_ble_eq_true rfl) rfl rfl rfl dX11_mate_2 (kk_sV (fun I1 J1 h => ?_))
  refine wz_aload_n C rfl rfl dX11_mate_5 ?_
  refine wm_callV C (o := 100) (As := []) (st := []) (a' := 0) (b' := 0) (shK_c hz rfl) rfl (k_X11_findPairs G hG I1 J1 _ h) 0 gX11_mate_X11_findPairs rfl (by decide +kernel) (by rw [hX]; exact ⟨Nat.le_of_ble_eq_true rfl, Nat.le_of_ble_eq_true rfl⟩) rfl (Nat.le_of_ble_eq_true rfl) rfl rfl rfl dX11_mate_6 (kk_sV (fun I2 J2 h => ?_))
  refine wz_aload_n C rfl rfl dX11_mate_9 ?_
  refine wz_getR C (j := 120) f_X11_mate_80 (sOc hz rfl) (by decide) dX11_mate_10 ?_
  refine wz_getR C (j := 122) f_X11_mate_406 (sOc hz rfl) (by decide) dX11_mate_13 ?_
  refine wz_iload_n C rfl rfl dX11_mate_16 ?_
  refine wm_callS C (As := [.ref (kadr G 122), .int (iZ l1)]) (st := []) (a' := 0) (b' := 0) (k_X11_at G hG 122 l1 I2 J2 _ h) 2 gX11_mate_X11_at rfl (by decide +kernel) (by rw [hX]; exact ⟨Nat.le_of_ble_eq_true rfl, Nat.le_of_ble_eq_true rfl⟩) rfl (Nat.le_of_ble_eq_true rfl) rfl rfl rfl dX11_mate_17 (kk_sI (fun v3 I3 J3 h => ?_))
  exact wz_iret C dX11_mate_20 ⟨_, rfl, h⟩
theorem in_X11_gain_X11 : ∀ w ∈ wsX110, w ∈ wsX11_gain := by decide +kernel
theorem f_X11_gain_73 : FLk wsX11_gain RX11 73 14 12 := flk 14 12 rfl tyX11_ok nmX11 in_X11_gain_X11 (by decide) (by decide +kernel)
theorem f_X11_gain_40 : FLk wsX11_gain RX11 40 14 4 := flk 14 4 rfl tyX11_ok nmX11 in_X11_gain_X11 (by decide) (by decide +kernel)
theorem f_X11_gain_53 : FLk wsX11_gain RX11 53 14 7 := flk 14 7 rfl tyX11_ok nmX11 in_X11_gain_X11 (by decide) (by decide +kernel)
def rm_X11_gain : Room := { frames := 4, cells := 0, slots := 0, locals := 83 }
set_option maxHeartbeats 4000000 in
set_option maxRecDepth 100000 in
theorem k_X11_gain (G : KG) (hG : KokC G) (l1 : Int) (l2 : Int) (I : Ii) (J : Jj) (Q : Int → Ii → Jj → Prop) (h : wp_X11_gain l1 l2 I J Q) : Ctr G yX11_gain wsX11_gain rm_X11_gain [.ref (kadr G 100), .int (iZ l1), .int (iZ l2)] (I, J) (QsI Q) := by
  unfold wp_X11_gain at h
  skip
  refine Ctr.ofZ (cc := cX11_gain) (nL := 3) (ret := (some .int)) [some (.ref (kadr G 100)), some (.int (iZ l1)), some (.int (iZ l2))] hG.1 (by decide +kernel) rfl (Nat.le_of_ble_eq_true rfl) (Nat.le_of_ble_eq_true rfl) (by simp [lvA, lv_args, Value.category]) ?_
  intro X hX C
  have hz := hG.2
  refine wz_aload_n C rfl rfl dX11_gain_0 ?_
  refine wz_iload_n C rfl rfl dX11_gain_1 ?_
  refine wm_callV C (o := 100) (As := [.int (iZ l1)]) (st := []) (a' := 0) (b' := 0) (shK_c hz rfl) rfl (k_X11_requireGroup G hG l1 I J _ h) 1 gX11_gain_X11_requireGroup rfl (by decide +kernel) (by rw [hX]; exact ⟨Nat.le_of_ble_eq_true rfl, Nat.le_of_ble_eq_true rfl⟩) rfl (Nat.le_of_ble_eq_true rfl) rfl rfl rfl dX11_gain_2 (kk_sV (fun I1 J1 h => ?_))
  refine wz_aload_n C rfl rfl dX11_gain_5 ?_
  refine wz_iload_n C rfl rfl dX11_gain_6 ?_
  refine wm_callV C (o := 100) (As := [.int (iZ l2)]) (st := []) (a' := 0) (b' := 0) (shK_c hz rfl) rfl (k_X11_requirePart G hG l2 I1 J1 _ h) 1 gX11_gain_X11_requirePart rfl (by decide +kernel) (by rw [hX]; exact ⟨Nat.le_of_ble_eq_true rfl, Nat.le_of_ble_eq_true rfl⟩) rfl (Nat.le_of_ble_eq_true rfl) rfl rfl rfl dX11_gain_7 (kk_sV (fun I2 J2 h => ?_))
  refine wz_aload_n C rfl rfl dX11_gain_10 ?_
  refine wz_getR C (j := 113) f_X11_gain_73 (sOc hz rfl) (by decide) dX11_gain_11 ?_
  refine wz_aload_n C rfl rfl dX11_gain_14 ?_
  refine wz_getR C (j := 200) f_X11_gain_40 (sOc hz rfl) (by decide) dX11_gain_15 ?_
  refine wz_aload_n C rfl rfl dX11_gain_18 ?_
  refine wz_getR C (j := 300) f_X11_gain_53 (sOc hz rfl) (by decide) dX11_gain_19 ?_
  refine wm_callV C (o := 113) (As := [.ref (kadr G 200), .ref (kadr G 300)]) (st := []) (a' := 0) (b' := 0) (shK_c hz rfl) rfl (k_X4_take G hG 200 300 I2 J2 _ h) 2 gX11_gain_X4_take rfl (by decide +kernel) (by rw [hX]; exact ⟨Nat.le_of_ble_eq_true rfl, Nat.le_of_ble_eq_true rfl⟩) rfl (Nat.le_of_ble_eq_true rfl) rfl rfl rfl dX11_gain_22 (kk_sV (fun I3 J3 h => ?_))
  refine wz_aload_n C rfl rfl dX11_gain_25 ?_
  refine wz_getR C (j := 113) f_X11_gain_73 (sOc hz rfl) (by decide) dX11_gain_26 ?_
  refine wz_iload_n C rfl rfl dX11_gain_29 ?_
  refine wz_iload_n C rfl rfl dX11_gain_30 ?_
  refine wm_callV C (o := 113) (As := [.int (iZ l1), .int (iZ l2)]) (st := []) (a' := 0) (b' := 0) (shK_c hz rfl) rfl (k_X4_gainOf G hG l1 l2 I3 J3 _ h) 2 gX11_gain_X4_gainOf rfl (by decide +kernel) (by rw [hX]; exact ⟨Nat.le_of_ble_eq_true rfl, Nat.le_of_ble_eq_true rfl⟩) rfl (Nat.le_of_ble_eq_true rfl) rfl rfl rfl dX11_gain_31 (kk_sI (fun v4 I4 J4 h => ?_))
  exact wz_iret C dX11_gain_34 ⟨_, rfl, h⟩
theorem in_X11_whyNotMove_X11 : ∀ w ∈ wsX110, w ∈ wsX11_whyNotMove := by decide +kernel
theorem f_X11_whyNotMove_73 : FLk wsX11_whyNotMove RX11 73 14 12 := flk 14 12 rfl tyX11_ok nmX11 in_X11_whyNotMove_X11 (by decide) (by decide +kernel)
theorem f_X11_whyNotMove_40 : FLk wsX11_whyNotMove RX11 40 14 4 := flk 14 4 rfl tyX11_ok nmX11 in_X11_whyNotMove_X11 (by decide) (by decide +kernel)
theorem f_X11_whyNotMove_53 : FLk wsX11_whyNotMove RX11 53 14 7 := flk 14 7 rfl tyX11_ok nmX11 in_X11_whyNotMove_X11 (by decide) (by decide +kernel)
def rm_X11_whyNotMove : Room := { frames := 4, cells := 0, slots := 0, locals := 83 }
set_option maxHeartbeats 4000000 in
set_option maxRecDepth 100000 in
theorem k_X11_whyNotMove (G : KG) (hG : KokC G) (l1 : Int) (l2 : Int) (I : Ii) (J : Jj) (Q : Int → Ii → Jj → Prop) (h : wp_X11_whyNotMove l1 l2 I J Q) : Ctr G yX11_whyNotMove wsX11_whyNotMove rm_X11_whyNotMove [.ref (kadr G 100), .int (iZ l1), .int (iZ l2)] (I, J) (QsI Q) := by
  unfold wp_X11_whyNotMove at h
  skip
  refine Ctr.ofZ (cc := cX11_whyNotMove) (nL := 3) (ret := (some .int)) [some (.ref (kadr G 100)), some (.int (iZ l1)), some (.int (iZ l2))] hG.1 (by decide +kernel) rfl (Nat.le_of_ble_eq_true rfl) (Nat.le_of_ble_eq_true rfl) (by simp [lvA, lv_args, Value.category]) ?_
  intro X hX C
  have hz := hG.2
  refine wz_aload_n C rfl rfl dX11_whyNotMove_0 ?_
  refine wz_iload_n C rfl rfl dX11_whyNotMove_1 ?_
  refine wm_callV C (o := 100) (As := [.int (iZ l1)]) (st := []) (a' := 0) (b' := 0) (shK_c hz rfl) rfl (k_X11_requireGroup G hG l1 I J _ h) 1 gX11_whyNotMove_X11_requireGroup rfl (by decide +kernel) (by rw [hX]; exact ⟨Nat.le_of_ble_eq_true rfl, Nat.le_of_ble_eq_true rfl⟩) rfl (Nat.le_of_ble_eq_true rfl) rfl rfl rfl dX11_whyNotMove_2 (kk_sV (fun I1 J1 h => ?_))
  refine wz_aload_n C rfl rfl dX11_whyNotMove_5 ?_
  refine wz_iload_n C rfl rfl dX11_whyNotMove_6 ?_
  refine wm_callV C (o := 100) (As := [.int (iZ l2)]) (st := []) (a' := 0) (b' := 0) (shK_c hz rfl) rfl (k_X11_requirePart G hG l2 I1 J1 _ h) 1 gX11_whyNotMove_X11_requirePart rfl (by decide +kernel) (by rw [hX]; exact ⟨Nat.le_of_ble_eq_true rfl, Nat.le_of_ble_eq_true rfl⟩) rfl (Nat.le_of_ble_eq_true rfl) rfl rfl rfl dX11_whyNotMove_7 (kk_sV (fun I2 J2 h => ?_))
  refine wz_aload_n C rfl rfl dX11_whyNotMove_10 ?_
  refine wz_getR C (j := 113) f_X11_whyNotMove_73 (sOc hz rfl) (by decide) dX11_whyNotMove_11 ?_
  refine wz_aload_n C rfl rfl dX11_whyNotMove_14 ?_
  refine wz_getR C (j := 200) f_X11_whyNotMove_40 (sOc hz rfl) (by decide) dX11_whyNotMove_15 ?_
  refine wz_aload_n C rfl rfl dX11_whyNotMove_18 ?_
  refine wz_getR C (j := 300) f_X11_whyNotMove_53 (sOc hz rfl) (by decide) dX11_whyNotMove_19 ?_
  refine wm_callV C (o := 113) (As := [.ref (kadr G 200), .ref (kadr G 300)]) (st := []) (a' := 0) (b' := 0) (shK_c hz rfl) rfl (k_X4_take G hG 200 300 I2 J2 _ h) 2 gX11_whyNotMove_X4_take rfl (by decide +kernel) (by rw [hX]; exact ⟨Nat.le_of_ble_eq_true rfl, Nat.le_of_ble_eq_true rfl⟩) rfl (Nat.le_of_ble_eq_true rfl) rfl rfl rfl dX11_whyNotMove_22 (kk_sV (fun I3 J3 h => ?_))
  refine wz_aload_n C rfl rfl dX11_whyNotMove_25 ?_
  refine wz_getR C (j := 113) f_X11_whyNotMove_73 (sOc hz rfl) (by decide) dX11_whyNotMove_26 ?_
  refine wz_iload_n C rfl rfl dX11_whyNotMove_29 ?_
  refine wz_iload_n C rfl rfl dX11_whyNotMove_30 ?_
  refine wm_callV C (o := 113) (As := [.int (iZ l1), .int (iZ l2)]) (st := []) (a' := 0) (b' := 0) (shK_c hz rfl) rfl (k_X4_reasonAgainst G hG l1 l2 I3 J3 _ h) 2 gX11_whyNotMove_X4_reasonAgainst rfl (by decide +kernel) (by rw [hX]; exact ⟨Nat.le_of_ble_eq_true rfl, Nat.le_of_ble_eq_true rfl⟩) rfl (Nat.le_of_ble_eq_true rfl) rfl rfl rfl dX11_whyNotMove_31 (kk_sI (fun v4 I4 J4 h => ?_))
  exact wz_iret C dX11_whyNotMove_34 ⟨_, rfl, h⟩
theorem in_X11_debtsIf_X11 : ∀ w ∈ wsX110, w ∈ wsX11_debtsIf := by decide +kernel
theorem f_X11_debtsIf_73 : FLk wsX11_debtsIf RX11 73 14 12 := flk 14 12 rfl tyX11_ok nmX11 in_X11_debtsIf_X11 (by decide) (by decide +kernel)
theorem f_X11_debtsIf_40 : FLk wsX11_debtsIf RX11 40 14 4 := flk 14 4 rfl tyX11_ok nmX11 in_X11_debtsIf_X11 (by decide) (by decide +kernel)
theorem f_X11_debtsIf_53 : FLk wsX11_debtsIf RX11 53 14 7 := flk 14 7 rfl tyX11_ok nmX11 in_X11_debtsIf_X11 (by decide) (by decide +kernel)
def rm_X11_debtsIf : Room := { frames := 4, cells := 0, slots := 0, locals := 83 }
set_option maxHeartbeats 4000000 in
set_option maxRecDepth 100000 in
theorem k_X11_debtsIf (G : KG) (hG : KokC G) (l1 : Int) (l2 : Int) (I : Ii) (J : Jj) (Q : Int → Ii → Jj → Prop) (h : wp_X11_debtsIf l1 l2 I J Q) : Ctr G yX11_debtsIf wsX11_debtsIf rm_X11_debtsIf [.ref (kadr G 100), .int (iZ l1), .int (iZ l2)] (I, J) (QsI Q) := by
  unfold wp_X11_debtsIf at h
  skip
  refine Ctr.ofZ (cc := cX11_debtsIf) (nL := 3) (ret := (some .int)) [some (.ref (kadr G 100)), some (.int (iZ l1)), some (.int (iZ l2))] hG.1 (by decide +kernel) rfl (Nat.le_of_ble_eq_true rfl) (Nat.le_of_ble_eq_true rfl) (by simp [lvA, lv_args, Value.category]) ?_
  intro X hX C
  have hz := hG.2
  refine wz_aload_n C rfl rfl dX11_debtsIf_0 ?_
  refine wz_iload_n C rfl rfl dX11_debtsIf_1 ?_
  refine wm_callV C (o := 100) (As := [.int (iZ l1)]) (st := []) (a' := 0) (b' := 0) (shK_c hz rfl) rfl (k_X11_requireGroup G hG l1 I J _ h) 1 gX11_debtsIf_X11_requireGroup rfl (by decide +kernel) (by rw [hX]; exact ⟨Nat.le_of_ble_eq_true rfl, Nat.le_of_ble_eq_true rfl⟩) rfl (Nat.le_of_ble_eq_true rfl) rfl rfl rfl dX11_debtsIf_2 (kk_sV (fun I1 J1 h => ?_))
  refine wz_aload_n C rfl rfl dX11_debtsIf_5 ?_
  refine wz_iload_n C rfl rfl dX11_debtsIf_6 ?_
  refine wm_callV C (o := 100) (As := [.int (iZ l2)]) (st := []) (a' := 0) (b' := 0) (shK_c hz rfl) rfl (k_X11_requirePart G hG l2 I1 J1 _ h) 1 gX11_debtsIf_X11_requirePart rfl (by decide +kernel) (by rw [hX]; exact ⟨Nat.le_of_ble_eq_true rfl, Nat.le_of_ble_eq_true rfl⟩) rfl (Nat.le_of_ble_eq_true rfl) rfl rfl rfl dX11_debtsIf_7 (kk_sV (fun I2 J2 h => ?_))
  refine wz_aload_n C rfl rfl dX11_debtsIf_10 ?_
  refine wz_getR C (j := 113) f_X11_debtsIf_73 (sOc hz rfl) (by decide) dX11_debtsIf_11 ?_
  refine wz_aload_n C rfl rfl dX11_debtsIf_14 ?_
  refine wz_getR C (j := 200) f_X11_debtsIf_40 (sOc hz rfl) (by decide) dX11_debtsIf_15 ?_
  refine wz_aload_n C rfl rfl dX11_debtsIf_18 ?_
  refine wz_getR C (j := 300) f_X11_debtsIf_53 (sOc hz rfl) (by decide) dX11_debtsIf_19 ?_
  refine wm_callV C (o := 113) (As := [.ref (kadr G 200), .ref (kadr G 300)]) (st := []) (a' := 0) (b' := 0) (shK_c hz rfl) rfl (k_X4_take G hG 200 300 I2 J2 _ h) 2 gX11_debtsIf_X4_take rfl (by decide +kernel) (by rw [hX]; exact ⟨Nat.le_of_ble_eq_true rfl, Nat.le_of_ble_eq_true rfl⟩) rfl (Nat.le_of_ble_eq_true rfl) rfl rfl rfl dX11_debtsIf_22 (kk_sV (fun I3 J3 h => ?_))
  refine wz_aload_n C rfl rfl dX11_debtsIf_25 ?_
  refine wz_getR C (j := 113) f_X11_debtsIf_73 (sOc hz rfl) (by decide) dX11_debtsIf_26 ?_
  refine wz_iload_n C rfl rfl dX11_debtsIf_29 ?_
  refine wz_iload_n C rfl rfl dX11_debtsIf_30 ?_
  refine wm_callV C (o := 113) (As := [.int (iZ l1), .int (iZ l2)]) (st := []) (a' := 0) (b' := 0) (shK_c hz rfl) rfl (k_X4_debtsWith G hG l1 l2 I3 J3 _ h) 2 gX11_debtsIf_X4_debtsWith rfl (by decide +kernel) (by rw [hX]; exact ⟨Nat.le_of_ble_eq_true rfl, Nat.le_of_ble_eq_true rfl⟩) rfl (Nat.le_of_ble_eq_true rfl) rfl rfl rfl dX11_debtsIf_31 (kk_sI (fun v4 I4 J4 h => ?_))
  exact wz_iret C dX11_debtsIf_34 ⟨_, rfl, h⟩
theorem in_X11_nextStep_X11 : ∀ w ∈ wsX110, w ∈ wsX11_nextStep := by decide +kernel
theorem f_X11_nextStep_73 : FLk wsX11_nextStep RX11 73 14 12 := flk 14 12 rfl tyX11_ok nmX11 in_X11_nextStep_X11 (by decide) (by decide +kernel)
theorem f_X11_nextStep_40 : FLk wsX11_nextStep RX11 40 14 4 := flk 14 4 rfl tyX11_ok nmX11 in_X11_nextStep_X11 (by decide) (by decide +kernel)
theorem f_X11_nextStep_53 : FLk wsX11_nextStep RX11 53 14 7 := flk 14 7 rfl tyX11_ok nmX11 in_X11_nextStep_X11 (by decide) (by decide +kernel)
def rm_X11_nextStep : Room := { frames := 4, cells := 0, slots := 0, locals := 98 }
set_option maxHeartbeats 4000000 in
set_option maxRecDepth 100000 in
theorem k_X11_nextStep (G : KG) (hG : KokC G) (I : Ii) (J : Jj) (Q : Int → Ii → Jj → Prop) (h : wp_X11_nextStep I J Q) : Ctr G yX11_nextStep wsX11_nextStep rm_X11_nextStep [.ref (kadr G 100)] (I, J) (QsI Q) := by
  unfold wp_X11_nextStep at h
  skip
  refine Ctr.ofZ (cc := cX11_nextStep) (nL := 1) (ret := (some .int)) [some (.ref (kadr G 100))] hG.1 (by decide +kernel) rfl (Nat.le_of_ble_eq_true rfl) (Nat.le_of_ble_eq_true rfl) (by simp [lvA, lv_args, Value.category]) ?_
  intro X hX C
  have hz := hG.2
  refine wz_aload_n C rfl rfl dX11_nextStep_0 ?_
  refine wz_getR C (j := 113) f_X11_nextStep_73 (sOc hz rfl) (by decide) dX11_nextStep_1 ?_
  refine wz_aload_n C rfl rfl dX11_nextStep_4 ?_
  refine wz_getR C (j := 200) f_X11_nextStep_40 (sOc hz rfl) (by decide) dX11_nextStep_5 ?_
  refine wz_aload_n C rfl rfl dX11_nextStep_8 ?_
  refine wz_getR C (j := 300) f_X11_nextStep_53 (sOc hz rfl) (by decide) dX11_nextStep_9 ?_
  refine wm_callV C (o := 113) (As := [.ref (kadr G 200), .ref (kadr G 300)]) (st := []) (a' := 0) (b' := 0) (shK_c hz rfl) rfl (k_X4_take G hG 200 300 I J _ h) 2 gX11_nextStep_X4_take rfl (by decide +kernel) (by rw [hX]; exact ⟨Nat.le_of_ble_eq_true rfl, Nat.le_of_ble_eq_true rfl⟩) rfl (Nat.le_of_ble_eq_true rfl) rfl rfl rfl dX11_nextStep_12 (kk_sV (fun I1 J1 h => ?_))
  refine wz_aload_n C rfl rfl dX11_nextStep_15 ?_
  refine wz_getR C (j := 113) f_X11_nextStep_73 (sOc hz rfl) (by decide) dX11_nextStep_16 ?_
  refine wm_callV C (o := 113) (As := []) (st := []) (a' := 0) (b' := 0) (shK_c hz rfl) rfl (k_X4_chosenStep G hG I1 J1 _ h) 0 gX11_nextStep_X4_chosenStep rfl (by decide +kernel) (by rw [hX]; exact ⟨Nat.le_of_ble_eq_true rfl, Nat.le_of_ble_eq_true rfl⟩) rfl (Nat.le_of_ble_eq_true rfl) rfl rfl rfl dX11_nextStep_19 (kk_sI (fun v2 I2 J2 h => ?_))
  exact wz_iret C dX11_nextStep_22 ⟨_, rfl, h⟩
theorem in_X11_mergeGroups_X11 : ∀ w ∈ wsX110, w ∈ wsX11_mergeGroups := by decide +kernel
theorem in_X11_mergeGroups_X2 : ∀ w ∈ wsX20, w ∈ wsX11_mergeGroups := by decide +kernel
theorem f_X11_mergeGroups_80 : FLk wsX11_mergeGroups RX11 80 14 13 := flk 14 13 rfl tyX11_ok nmX11 in_X11_mergeGroups_X11 (by decide) (by decide +kernel)
theorem f_X11_mergeGroups_73 : FLk wsX11_mergeGroups RX11 73 14 12 := flk 14 12 rfl tyX11_ok nmX11 in_X11_mergeGroups_X11 (by decide) (by decide +kernel)
theorem f_X11_mergeGroups_53 : FLk wsX11_mergeGroups RX11 53 14 7 := flk 14 7 rfl tyX11_ok nmX11 in_X11_mergeGroups_X11 (by decide) (by decide +kernel)
theorem f_X11_mergeGroups_40 : FLk wsX11_mergeGroups RX11 40 14 4 := flk 14 4 rfl tyX11_ok nmX11 in_X11_mergeGroups_X11 (by decide) (by decide +kernel)
theorem f_X11_mergeGroups_141 : FLk wsX11_mergeGroups RX11 141 5 0 := flk 5 0 rfl tyX2_ok nmX2 in_X11_mergeGroups_X2 (by decide) (by decide +kernel)
def rm_X11_mergeGroups : Room := { frames := 4, cells := 0, slots := 0, locals := 93 }
set_option maxHeartbeats 4000000 in
set_option maxRecDepth 100000 in
theorem k_X11_mergeGroups (G : KG) (hG : KokC G) (I : Ii) (J : Jj) (Q : Ii → Jj → Prop) (h : wp_X11_mergeGroups I J Q) : Ctr G yX11_mergeGroups wsX11_mergeGroups rm_X11_mergeGroups [.ref (kadr G 100)] (I, J) (QsV Q) := by
  unfold wp_X11_mergeGroups at h
  skip
  refine Ctr.ofZ (cc := cX11_mergeGroups) (nL := 1) (ret := none) [some (.ref (kadr G 100))] hG.1 (by decide +kernel) rfl (Nat.le_of_ble_eq_true rfl) (Nat.le_of_ble_eq_true rfl) (by simp [lvA, lv_args, Value.category]) ?_
  intro X hX C
  have hz := hG.2
  refine wz_aload_n C rfl rfl dX11_mergeGroups_0 ?_
  refine wm_callV C (o := 100) (As := []) (st := []) (a' := 0) (b' := 0) (shK_c hz rfl) rfl (k_X11_findPairs G hG I J _ h) 0 gX11_mergeGroups_X11_findPairs rfl (by decide +kernel) (by rw [hX]; exact ⟨Nat.le_of_ble_eq_true rfl, Nat.le_of_ble_eq_true rfl⟩) rfl (Nat.le_of_ble_eq_true rfl) rfl rfl rfl dX11_mergeGroups_1 (kk_sV (fun I1 J1 h => ?_))
  refine wz_aload_n C rfl rfl dX11_mergeGroups_4 ?_
  refine wz_getR C (j := 120) f_X11_mergeGroups_80 (sOc hz rfl) (by decide) dX11_mergeGroups_5 ?_
  refine wz_aload_n C rfl rfl dX11_mergeGroups_8 ?_
  refine wz_getR C (j := 113) f_X11_mergeGroups_73 (sOc hz rfl) (by decide) dX11_mergeGroups_9 ?_
  refine wm_callV C (o := 120) (As := [.ref (kadr G 113)]) (st := []) (a' := 0) (b' := 0) (shK_c hz rfl) rfl (k_X5_numberMerged G hG I1 J1 _ h) 1 gX11_mergeGroups_X5_numberMerged rfl (by decide +kernel) (by rw [hX]; exact ⟨Nat.le_of_ble_eq_true rfl, Nat.le_of_ble_eq_true rfl⟩) rfl (Nat.le_of_ble_eq_true rfl) rfl rfl rfl dX11_mergeGroups_12 (kk_sV (fun I2 J2 h => ?_))
  refine wz_aload_n C rfl rfl dX11_mergeGroups_15 ?_
  refine wz_getR C (j := 300) f_X11_mergeGroups_53 (sOc hz rfl) (by decide) dX11_mergeGroups_16 ?_
  refine wz_aload_n C rfl rfl dX11_mergeGroups_19 ?_
  refine wz_getR C (j := 200) f_X11_mergeGroups_40 (sOc hz rfl) (by decide) dX11_mergeGroups_20 ?_
  refine wz_getI C rfl f_X11_mergeGroups_141 (sOc hz rfl) dX11_mergeGroups_23 ?_
  refine wz_aload_n C rfl rfl dX11_mergeGroups_26 ?_
  refine wz_getR C (j := 120) f_X11_mergeGroups_80 (sOc hz rfl) (by decide) dX11_mergeGroups_27 ?_
  refine wm_callV C (o := 300) (As := [.int (iZ (I2 200 0)), .ref (kadr G 120)]) (st := []) (a' := 0) (b' := 0) (shK_c hz rfl) rfl (k_X8_raiseLevel G hG 300 (I2 200 0) I2 J2 _ h) 2 gX11_mergeGroups_X8_raiseLevel rfl (by decide +kernel) (by rw [hX]; exact ⟨Nat.le_of_ble_eq_true rfl, Nat.le_of_ble_eq_true rfl⟩) rfl (Nat.le_of_ble_eq_true rfl) rfl rfl rfl dX11_mergeGroups_30 (kk_sV (fun I3 J3 h => ?_))
  exact wz_vret C dX11_mergeGroups_33 ⟨rfl, h⟩
theorem in_X11_takeTo_X11 : ∀ w ∈ wsX110, w ∈ wsX11_takeTo := by decide +kernel
theorem f_X11_takeTo_73 : FLk wsX11_takeTo RX11 73 14 12 := flk 14 12 rfl tyX11_ok nmX11 in_X11_takeTo_X11 (by decide) (by decide +kernel)
theorem f_X11_takeTo_40 : FLk wsX11_takeTo RX11 40 14 4 := flk 14 4 rfl tyX11_ok nmX11 in_X11_takeTo_X11 (by decide) (by decide +kernel)
theorem f_X11_takeTo_53 : FLk wsX11_takeTo RX11 53 14 7 := flk 14 7 rfl tyX11_ok nmX11 in_X11_takeTo_X11 (by decide) (by decide +kernel)
def rm_X11_takeTo : Room := { frames := 3, cells := 0, slots := 0, locals := 108 }
set_option maxHeartbeats 4000000 in
set_option maxRecDepth 100000 in
theorem k_X11_takeTo (G : KG) (hG : KokC G) (l1 : Int) (l2 : Int) (I : Ii) (J : Jj) (Q : Ii → Jj → Prop) (h : wp_X11_takeTo l1 l2 I J Q) : Ctr G yX11_takeTo wsX11_takeTo rm_X11_takeTo [.ref (kadr G 100), .int (iZ l1), .int (iZ l2)] (I, J) (QsV Q) := by
  unfold wp_X11_takeTo at h
  skip
  refine Ctr.ofZ (cc := cX11_takeTo) (nL := 3) (ret := none) [some (.ref (kadr G 100)), some (.int (iZ l1)), some (.int (iZ l2))] hG.1 (by decide +kernel) rfl (Nat.le_of_ble_eq_true rfl) (Nat.le_of_ble_eq_true rfl) (by simp [lvA, lv_args, Value.category]) ?_
  intro X hX C
  have hz := hG.2
  refine wz_aload_n C rfl rfl dX11_takeTo_0 ?_
  refine wz_getR C (j := 113) f_X11_takeTo_73 (sOc hz rfl) (by decide) dX11_takeTo_1 ?_
  refine wz_aload_n C rfl rfl dX11_takeTo_4 ?_
  refine wz_getR C (j := 200) f_X11_takeTo_40 (sOc hz rfl) (by decide) dX11_takeTo_5 ?_
  refine wz_aload_n C rfl rfl dX11_takeTo_8 ?_
  refine wz_getR C (j := 300) f_X11_takeTo_53 (sOc hz rfl) (by decide) dX11_takeTo_9 ?_
  refine wm_callV C (o := 113) (As := [.ref (kadr G 200), .ref (kadr G 300)]) (st := []) (a' := 0) (b' := 0) (shK_c hz rfl) rfl (k_X4_take G hG 200 300 I J _ h) 2 gX11_takeTo_X4_take rfl (by decide +kernel) (by rw [hX]; exact ⟨Nat.le_of_ble_eq_true rfl, Nat.le_of_ble_eq_true rfl⟩) rfl (Nat.le_of_ble_eq_true rfl) rfl rfl rfl dX11_takeTo_12 (kk_sV (fun I1 J1 h => ?_))
  refine wz_aload_n C rfl rfl dX11_takeTo_15 ?_
  refine wz_aload_n C rfl rfl dX11_takeTo_16 ?_
  refine wz_getR C (j := 300) f_X11_takeTo_53 (sOc hz rfl) (by decide) dX11_takeTo_17 ?_
  refine wz_iload_n C rfl rfl dX11_takeTo_20 ?_
  refine wz_iload_n C rfl rfl dX11_takeTo_21 ?_
  refine wm_callV C (o := 100) (As := [.ref (kadr G 300), .int (iZ l1), .int (iZ l2)]) (st := []) (a' := 0) (b' := 0) (shK_c hz rfl) rfl (k_X11_transfer G hG 300 l1 l2 I1 J1 _ h) 3 gX11_takeTo_X11_transfer rfl (by decide +kernel) (by rw [hX]; exact ⟨Nat.le_of_ble_eq_true rfl, Nat.le_of_ble_eq_true rfl⟩) rfl (Nat.le_of_ble_eq_true rfl) rfl rfl rfl dX11_takeTo_22 (kk_sV (fun I2 J2 h => ?_))
  exact wz_vret C dX11_takeTo_25 ⟨rfl, h⟩
theorem in_X11_makeSteps_X11 : ∀ w ∈ wsX110, w ∈ wsX11_makeSteps := by decide +kernel
theorem f_X11_makeSteps_73 : FLk wsX11_makeSteps RX11 73 14 12 := flk 14 12 rfl tyX11_ok nmX11 in_X11_makeSteps_X11 (by decide) (by decide +kernel)
theorem f_X11_makeSteps_40 : FLk wsX11_makeSteps RX11 40 14 4 := flk 14 4 rfl tyX11_ok nmX11 in_X11_makeSteps_X11 (by decide) (by decide +kernel)
def rm_X11_makeSteps : Room := { frames := 4, cells := 0, slots := 0, locals := 108 }
set_option maxHeartbeats 4000000 in
set_option maxRecDepth 100000 in
theorem lk_X11_makeSteps_2 (G : KG) (hG : KokC G) (X : KX) (hX : KR X = rm_X11_makeSteps) (C : Fr G X cX11_makeSteps 5 yX11_makeSteps.cls (some .int) wsX11_makeSteps) (k1 : Nat) (l2 : Int) (hk1 : sK k1) (Q : Int → Ii → Jj → Prop) : ∀ (n : Nat) (l3 : Int) (I : Ii) (J : Jj), L_X11_makeSteps_2 k1 l2 Q n l3 I J → Wz G X 5 (QsU G X (QsI Q)) 0 0 2 [some (.ref (kadr G 100)), some (.ref (kadr G k1)), some (.int (iZ l2)), some (.int (iZ l3)), none] [] I J := by
  have hz := hG.2
  intro n
  induction n with
  | zero => intro l3 I J h; exact False.elim h
  | succ n w2 =>
    intro l3 I J h
    have h : Lb_X11_makeSteps_2 k1 l2 Q (L_X11_makeSteps_2 k1 l2 Q n) l3 I J := h
    unfold Lb_X11_makeSteps_2 at h
    generalize L_X11_makeSteps_2 k1 l2 Q n = r2 at h w2
    refine wz_iload_n C rfl rfl dX11_makeSteps_2 ?_
    refine wz_iload_n C rfl rfl dX11_makeSteps_3 ?_
    obtain ⟨g1, h⟩ := h
    obtain ⟨g2, h⟩ := h
    refine wz_icmp_ge C (tgt := 57) g1 g2 dX11_makeSteps_4 (by decide) (fun c => ?_) (fun c => ?_)
    · replace h := h.1 c
      refine wz_iload_n C rfl rfl dX11_makeSteps_57 ?_
      exact wz_iret C dX11_makeSteps_58 ⟨_, rfl, h⟩
    · replace h := h.2 c
      refine wz_aload_n C rfl rfl dX11_makeSteps_7 ?_
      refine wz_getR C (j := 113) f_X11_makeSteps_73 (sOc hz rfl) (by decide) dX11_makeSteps_8 ?_
      refine wz_aload_n C rfl rfl dX11_makeSteps_11 ?_
      refine wz_getR C (j := 200) f_X11_makeSteps_40 (sOc hz rfl) (by decide) dX11_makeSteps_12 ?_
      refine wz_aload_n C rfl rfl dX11_makeSteps_15 ?_
      refine wm_callV C (o := 113) (As := [.ref (kadr G 200), .ref (kadr G k1)]) (st := []) (a' := 0) (b' := 0) (shK_c hz rfl) rfl (k_X4_take G hG 200 k1 I J _ h) 2 gX11_makeSteps_X4_take rfl (by decide +kernel) (by rw [hX]; exact ⟨Nat.le_of_ble_eq_true rfl, Nat.le_of_ble_eq_true rfl⟩) rfl (Nat.le_of_ble_eq_true rfl) rfl rfl rfl dX11_makeSteps_16 (kk_sV (fun I3 J3 h => ?_))
      refine wz_aload_n C rfl rfl dX11_makeSteps_19 ?_
      refine wz_getR C (j := 113) f_X11_makeSteps_73 (sOc hz rfl) (by decide) dX11_makeSteps_20 ?_
      refine wm_callV C (o := 113) (As := []) (st := []) (a' := 0) (b' := 0) (shK_c hz rfl) rfl (k_X4_chosenStep G hG I3 J3 _ h) 0 gX11_makeSteps_X4_chosenStep rfl (by decide +kernel) (by rw [hX]; exact ⟨Nat.le_of_ble_eq_true rfl, Nat.le_of_ble_eq_true rfl⟩) rfl (Nat.le_of_ble_eq_true rfl) rfl rfl rfl dX11_makeSteps_23 (kk_sI (fun v4 I4 J4 h => ?_))
      refine wz_istore_4 C rfl dX11_makeSteps_26 ?_
      refine wz_iload C rfl dX11_makeSteps_28 ?_
      refine wz_iconst C dX11_makeSteps_30 ?_
      obtain ⟨g5, h⟩ := h
      refine wz_icmp_ne C (tgt := 36) g5 (by decide) dX11_makeSteps_31 (by decide) (fun c => ?_) (fun c => ?_)
      · replace h := h.1 c
        refine wz_aload_n C rfl rfl dX11_makeSteps_36 ?_
        refine wz_aload_n C rfl rfl dX11_makeSteps_37 ?_
        refine wz_iload C rfl dX11_makeSteps_38 ?_
        refine wz_bipush C (by decide) dX11_makeSteps_40 ?_
        obtain ⟨g6, h⟩ := h
        refine wd_idiv C g6 dX11_makeSteps_42 ?_
        refine wz_iload C rfl dX11_makeSteps_43 ?_
        refine wz_bipush C (by decide) dX11_makeSteps_45 ?_
        obtain ⟨g7, h⟩ := h
        refine wd_irem C g7 dX11_makeSteps_47 ?_
        refine wm_callV C (o := 100) (As := [.ref (kadr G k1), .int (iZ (v4 / 10)), .int (iZ (v4 % 10))]) (st := []) (a' := 0) (b' := 0) (shK_c hz rfl) rfl (k_X11_transfer G hG k1 (v4 / 10) (v4 % 10) I4 J4 _ h) 3 gX11_makeSteps_X11_transfer rfl (by decide +kernel) (by rw [hX]; exact ⟨Nat.le_of_ble_eq_true rfl, Nat.le_of_ble_eq_true rfl⟩) rfl (Nat.le_of_ble_eq_true rfl) rfl rfl rfl dX11_makeSteps_48 (kk_sV (fun I8 J8 h => ?_))
        refine wz_iinc_3 C rfl dX11_makeSteps_51 ?_
        refine wz_goto C dX11_makeSteps_54 (tgt := 2) (by decide) ?_
        exact Wz.drop (w2 (l3 + 1) I8 J8 h) (And.intro rfl (And.intro rfl (And.intro rfl (And.intro rfl trivial))))
      · replace h := h.2 c
        refine wz_iload_n C rfl rfl dX11_makeSteps_34 ?_
        exact wz_iret C dX11_makeSteps_35 ⟨_, rfl, h⟩
set_option maxHeartbeats 4000000 in
set_option maxRecDepth 100000 in
theorem k_X11_makeSteps (G : KG) (hG : KokC G) (k1 : Nat) (l2 : Int) (I : Ii) (J : Jj) (Q : Int → Ii → Jj → Prop) (h : wp_X11_makeSteps k1 l2 I J Q) : Ctr G yX11_makeSteps wsX11_makeSteps rm_X11_makeSteps [.ref (kadr G 100), .ref (kadr G k1), .int (iZ l2)] (I, J) (QsI Q) := by
  unfold wp_X11_makeSteps at h
  obtain ⟨hk1, h⟩ := h
  refine Ctr.ofZ (cc := cX11_makeSteps) (nL := 5) (ret := (some .int)) [some (.ref (kadr G 100)), some (.ref (kadr G k1)), some (.int (iZ l2)), none, none] hG.1 (by decide +kernel) rfl (Nat.le_of_ble_eq_true rfl) (Nat.le_of_ble_eq_true rfl) (by simp [lvA, lv_args, Value.category]) ?_
  intro X hX C
  have hz := hG.2
  refine wz_iconst C dX11_makeSteps_0 ?_
  refine wz_istore_3 C rfl dX11_makeSteps_1 ?_
  obtain ⟨n, h⟩ := h
  exact lk_X11_makeSteps_2 G hG X hX C k1 l2 hk1 Q n 0 I J h
theorem in_X11_takeBest_X0 : ∀ w ∈ wsX00, w ∈ wsX11_takeBest := by decide +kernel
theorem in_X11_takeBest_X11 : ∀ w ∈ wsX110, w ∈ wsX11_takeBest := by decide +kernel
theorem in_X11_takeBest_X4 : ∀ w ∈ wsX40, w ∈ wsX11_takeBest := by decide +kernel
theorem f_X11_takeBest_53 : FLk wsX11_takeBest RX11 53 14 7 := flk 14 7 rfl tyX11_ok nmX11 in_X11_takeBest_X11 (by decide) (by decide +kernel)
theorem f_X11_takeBest_87 : FLk wsX11_takeBest RX11 87 14 14 := flk 14 14 rfl tyX11_ok nmX11 in_X11_takeBest_X11 (by decide) (by decide +kernel)
theorem f_X11_takeBest_479 : FLk wsX11_takeBest RX11 479 3 1 := flk 3 1 rfl tyX0_ok nmX0 in_X11_takeBest_X0 (by decide) (by decide +kernel)
theorem f_X11_takeBest_73 : FLk wsX11_takeBest RX11 73 14 12 := flk 14 12 rfl tyX11_ok nmX11 in_X11_takeBest_X11 (by decide) (by decide +kernel)
theorem f_X11_takeBest_378 : FLk wsX11_takeBest RX11 378 7 8 := flk 7 8 rfl tyX4_ok nmX4 in_X11_takeBest_X4 (by decide) (by decide +kernel)
def rm_X11_takeBest : Room := { frames := 4, cells := 0, slots := 0, locals := 130 }
set_option maxHeartbeats 4000000 in
set_option maxRecDepth 100000 in
theorem lk_X11_takeBest_12 (G : KG) (hG : KokC G) (X : KX) (hX : KR X = rm_X11_takeBest) (C : Fr G X cX11_takeBest 5 yX11_takeBest.cls (some .int) wsX11_takeBest) (Q : Int → Ii → Jj → Prop) : ∀ (n : Nat) (l1 : Int) (l2 : Int) (l3 : Int) (I : Ii) (J : Jj), L_X11_takeBest_12 Q n l1 l2 l3 I J → Wz G X 5 (QsU G X (QsI Q)) 0 0 12 [some (.ref (kadr G 100)), some (.int (iZ l1)), some (.int (iZ l2)), some (.int (iZ l3)), none] [] I J := by
  have hz := hG.2
  intro n
  induction n with
  | zero => intro l1 l2 l3 I J h; exact False.elim h
  | succ n w12 =>
    intro l1 l2 l3 I J h
    have h : Lb_X11_takeBest_12 Q (L_X11_takeBest_12 Q n) l1 l2 l3 I J := h
    unfold Lb_X11_takeBest_12 at h
    generalize L_X11_takeBest_12 Q n = r12 at h w12
    refine wz_iload_n C rfl rfl dX11_takeBest_12 ?_
    refine wz_iload_n C rfl rfl dX11_takeBest_13 ?_
    obtain ⟨g2, h⟩ := h
    obtain ⟨g3, h⟩ := h
    refine wz_icmp_ge C (tgt := 62) g2 g3 dX11_takeBest_14 (by decide) (fun c => ?_) (fun c => ?_)
    · replace h := h.1 c
      refine wz_iload_n C rfl rfl dX11_takeBest_62 ?_
      exact wz_iret C dX11_takeBest_63 ⟨_, rfl, h⟩
    · replace h := h.2 c
      refine wz_aload_n C rfl rfl dX11_takeBest_17 ?_
      refine wz_getR C (j := 124) f_X11_takeBest_87 (sOc hz rfl) (by decide) dX11_takeBest_18 ?_
      refine wz_getR C (j := 126) f_X11_takeBest_479 (sOc hz rfl) (by decide) dX11_takeBest_21 ?_
      refine wz_iload_n C rfl rfl dX11_takeBest_24 ?_
      refine wm_callS C (As := [.ref (kadr G 126), .int (iZ l3)]) (st := []) (a' := 0) (b' := 0) (k_X11_at G hG 126 l3 I J _ h) 2 gX11_takeBest_X11_at rfl (by decide +kernel) (by rw [hX]; exact ⟨Nat.le_of_ble_eq_true rfl, Nat.le_of_ble_eq_true rfl⟩) rfl (Nat.le_of_ble_eq_true rfl) rfl rfl rfl dX11_takeBest_25 (kk_sI (fun v4 I4 J4 h => ?_))
      refine wz_istore_4 C rfl dX11_takeBest_28 ?_
      refine wz_aload_n C rfl rfl dX11_takeBest_30 ?_
      refine wz_getR C (j := 113) f_X11_takeBest_73 (sOc hz rfl) (by decide) dX11_takeBest_31 ?_
      refine wz_getR C (j := 116) f_X11_takeBest_378 (sOc hz rfl) (by decide) dX11_takeBest_34 ?_
      refine wz_iload_n C rfl rfl dX11_takeBest_37 ?_
      refine wm_callS C (As := [.ref (kadr G 116), .int (iZ l3)]) (st := []) (a' := 0) (b' := 0) (k_X11_at G hG 116 l3 I4 J4 _ h) 2 gX11_takeBest_X11_at rfl (by decide +kernel) (by rw [hX]; exact ⟨Nat.le_of_ble_eq_true rfl, Nat.le_of_ble_eq_true rfl⟩) rfl (Nat.le_of_ble_eq_true rfl) rfl rfl rfl dX11_takeBest_38 (kk_sI (fun v5 I5 J5 h => ?_))
      refine wz_iload C rfl dX11_takeBest_41 ?_
      obtain ⟨g6, h⟩ := h
      obtain ⟨g7, h⟩ := h
      refine wz_icmp_eq C (tgt := 56) g6 g7 dX11_takeBest_43 (by decide) (fun c => ?_) (fun c => ?_)
      · replace h := h.1 c
        refine wz_iinc_3 C rfl dX11_takeBest_56 ?_
        refine wz_goto C dX11_takeBest_59 (tgt := 12) (by decide) ?_
        exact Wz.drop (w12 l1 l2 (l3 + 1) I5 J5 h) (And.intro rfl (And.intro rfl (And.intro rfl (And.intro rfl trivial))))
      · replace h := h.2 c
        refine wz_aload_n C rfl rfl dX11_takeBest_46 ?_
        refine wz_iload_n C rfl rfl dX11_takeBest_47 ?_
        refine wz_iload C rfl dX11_takeBest_48 ?_
        refine wm_callV C (o := 100) (As := [.int (iZ l3), .int (iZ v4)]) (st := []) (a' := 0) (b' := 0) (shK_c hz rfl) rfl (k_X11_takeTo G hG l3 v4 I5 J5 _ h) 2 gX11_takeBest_X11_takeTo rfl (by decide +kernel) (by rw [hX]; exact ⟨Nat.le_of_ble_eq_true rfl, Nat.le_of_ble_eq_true rfl⟩) rfl (Nat.le_of_ble_eq_true rfl) rfl rfl rfl dX11_takeBest_50 (kk_sV (fun I8 J8 h => ?_))
        refine wz_iinc_1 C rfl dX11_takeBest_53 ?_
        refine wz_iinc_3 C rfl dX11_takeBest_56 ?_
        refine wz_goto C dX11_takeBest_59 (tgt := 12) (by decide) ?_
        exact Wz.drop (w12 (l1 + 1) l2 (l3 + 1) I8 J8 h) (And.intro rfl (And.intro rfl (And.intro rfl (And.intro rfl trivial))))
set_option maxHeartbeats 4000000 in
set_option maxRecDepth 100000 in
theorem k_X11_takeBest (G : KG) (hG : KokC G) (I : Ii) (J : Jj) (Q : Int → Ii → Jj → Prop) (h : wp_X11_takeBest I J Q) : Ctr G yX11_takeBest wsX11_takeBest rm_X11_takeBest [.ref (kadr G 100)] (I, J) (QsI Q) := by
  unfold wp_X11_takeBest at h
  skip
  refine Ctr.ofZ (cc := cX11_takeBest) (nL := 5) (ret := (some .int)) [some (.ref (kadr G 100)), none, none, none, none] hG.1 (by decide +kernel) rfl (Nat.le_of_ble_eq_true rfl) (Nat.le_of_ble_eq_true rfl) (by simp [lvA, lv_args, Value.category]) ?_
  intro X hX C
  have hz := hG.2
  refine wz_iconst C dX11_takeBest_0 ?_
  refine wz_istore_1 C rfl dX11_takeBest_1 ?_
  refine wz_aload_n C rfl rfl dX11_takeBest_2 ?_
  refine wz_getR C (j := 300) f_X11_takeBest_53 (sOc hz rfl) (by decide) dX11_takeBest_3 ?_
  refine wm_callV C (o := 300) (As := []) (st := []) (a' := 0) (b' := 0) (shK_c hz rfl) rfl (k_X8_groupCount G hG 300 I J _ h) 0 gX11_takeBest_X8_groupCount rfl (by decide +kernel) (by rw [hX]; exact ⟨Nat.le_of_ble_eq_true rfl, Nat.le_of_ble_eq_true rfl⟩) rfl (Nat.le_of_ble_eq_true rfl) rfl rfl rfl dX11_takeBest_6 (kk_sI (fun v1 I1 J1 h => ?_))
  refine wz_istore_2 C rfl dX11_takeBest_9 ?_
  refine wz_iconst C dX11_takeBest_10 ?_
  refine wz_istore_3 C rfl dX11_takeBest_11 ?_
  obtain ⟨n, h⟩ := h
  exact lk_X11_takeBest_12 G hG X hX C Q n 0 v1 0 I1 J1 h
