theorem in_X2_largestPiece_X2 : ∀ w ∈ wsX20, w ∈ wsX2_largestPiece := by decide +kernel
theorem f_X2_largestPiece_32 : FLk wsX2_largestPiece RX2 32 5 0 := flk 5 0 rfl tyX2_ok nmX2 in_X2_largestPiece_X2 (by decide) (by decide +kernel)
def rm_X2_largestPiece : Room := { frames := 3, cells := 0, slots := 0, locals := 69 }
set_option maxHeartbeats 4000000 in
set_option maxRecDepth 100000 in
theorem lk_X2_largestPiece_13 (G : KG) (hG : KokC G) (X : KX) (hX : KR X = rm_X2_largestPiece) (C : Fr G X cX2_largestPiece 4 yX2_largestPiece.cls (some .int) wsX2_largestPiece) (k0 : Nat) (hk0 : gK k0) (Q : Int → Ii → Jj → Prop) : ∀ (n : Nat) (l1 : Int) (l2 : Int) (l3 : Int) (I : Ii) (J : Jj), L_X2_largestPiece_13 k0 Q n l1 l2 l3 I J → Wz G X 4 (QsU G X (QsI Q)) 0 0 13 [some (.ref (kadr G k0)), some (.int (iZ l1)), some (.int (iZ l2)), some (.int (iZ l3))] [] I J := by
  have hz := hG.2
  intro n
  induction n with
  | zero => intro l1 l2 l3 I J h; exact False.elim h
  | succ n w13 =>
    intro l1 l2 l3 I J h
    have h : Lb_X2_largestPiece_13 k0 Q (L_X2_largestPiece_13 k0 Q n) l1 l2 l3 I J := h
    unfold Lb_X2_largestPiece_13 at h
    generalize L_X2_largestPiece_13 k0 Q n = r13 at h w13
    refine wz_iload_n C rfl rfl dX2_largestPiece_13 ?_
    refine wz_aload_n C rfl rfl dX2_largestPiece_14 ?_
    refine wz_getI C rfl f_X2_largestPiece_32 (sOc hz (soX2_0 hk0)) dX2_largestPiece_15 ?_
    obtain ⟨g1, h⟩ := h
    obtain ⟨g2, h⟩ := h
    refine wz_icmp_ge C (tgt := 43) g1 g2 dX2_largestPiece_18 (by decide) (fun c => ?_) (fun c => ?_)
    · replace h := h.1 c
      refine wz_iload_n C rfl rfl dX2_largestPiece_43 ?_
      exact wz_iret C dX2_largestPiece_44 ⟨_, rfl, h⟩
    · replace h := h.2 c
      refine wz_iload_n C rfl rfl dX2_largestPiece_21 ?_
      refine wz_aload_n C rfl rfl dX2_largestPiece_22 ?_
      refine wz_iconst C dX2_largestPiece_23 ?_
      refine wz_iload_n C rfl rfl dX2_largestPiece_24 ?_
      refine wd_ishl C dX2_largestPiece_25 ?_
      refine wz_iload_n C rfl rfl dX2_largestPiece_26 ?_
      refine wm_callV C (o := k0) (As := [.int (iZ (shlZ 1 l3)), .int (iZ l1)]) (st := [.int (iZ l2)]) (a' := 0) (b' := 0) (shK_c hz (spX2 hk0)) rfl (k_X2_spread G hG k0 (shlZ 1 l3) l1 I J _ h) 2 gX2_largestPiece_X2_spread rfl (by decide +kernel) (by rw [hX]; exact ⟨Nat.le_of_ble_eq_true rfl, Nat.le_of_ble_eq_true rfl⟩) rfl (Nat.le_of_ble_eq_true rfl) rfl rfl rfl dX2_largestPiece_27 (kk_sI (fun v3 I3 J3 h => ?_))
      refine wm_callSo C (As := [.int (iZ v3)]) (st := [.int (iZ l2)]) (a' := 0) (b' := 0) (k_J6_bitCount_0f7a4 G hG v3 I3 J3 _ h) 1 (goodIn_wsS gX2_largestPiece_J6_bitCount_0f7a4) (by decide +kernel) (by decide +kernel) (by decide +kernel) rfl (by decide +kernel) (by rw [hX]; exact ⟨Nat.le_of_ble_eq_true rfl, Nat.le_of_ble_eq_true rfl⟩) rfl (Nat.le_of_ble_eq_true rfl) rfl rfl rfl dX2_largestPiece_30 (kk_sI (fun v4 I4 J4 h => ?_))
      refine wd_max C (st := []) h (by decide +kernel) (by decide +kernel) (by decide +kernel) (by decide +kernel) (by rw [hX]; exact ⟨Nat.le_of_ble_eq_true rfl, Nat.le_of_ble_eq_true rfl⟩) dX2_largestPiece_33 (fun v5 I5 J5 h => ?_)
      refine wz_istore_2 C rfl dX2_largestPiece_36 ?_
      refine wz_iinc_3 C rfl dX2_largestPiece_37 ?_
      refine wz_goto C dX2_largestPiece_40 (tgt := 13) (by decide) ?_
      exact w13 l1 v5 (l3 + 1) I5 J5 h
set_option maxHeartbeats 4000000 in
set_option maxRecDepth 100000 in
theorem k_X2_largestPiece (G : KG) (hG : KokC G) (k0 : Nat) (I : Ii) (J : Jj) (Q : Int → Ii → Jj → Prop) (h : wp_X2_largestPiece k0 I J Q) : Ctr G yX2_largestPiece wsX2_largestPiece rm_X2_largestPiece [.ref (kadr G k0)] (I, J) (QsI Q) := by
  unfold wp_X2_largestPiece at h
  obtain ⟨hk0, h⟩ := h
  refine Ctr.ofZ (cc := cX2_largestPiece) (nL := 4) (ret := (some .int)) [some (.ref (kadr G k0)), none, none, none] hG.1 (by decide +kernel) rfl (Nat.le_of_ble_eq_true rfl) (Nat.le_of_ble_eq_true rfl) (by simp [lvA, lv_args, Value.category]) ?_
  intro X hX C
  have hz := hG.2
  refine wz_iconst C dX2_largestPiece_0 ?_
  refine wz_aload_n C rfl rfl dX2_largestPiece_1 ?_
  refine wz_getI C rfl f_X2_largestPiece_32 (sOc hz (soX2_0 hk0)) dX2_largestPiece_2 ?_
  refine wd_ishl C dX2_largestPiece_5 ?_
  refine wz_iconst C dX2_largestPiece_6 ?_
  refine wz_isub C dX2_largestPiece_7 ?_
  refine wz_istore_1 C rfl dX2_largestPiece_8 ?_
  refine wz_iconst C dX2_largestPiece_9 ?_
  refine wz_istore_2 C rfl dX2_largestPiece_10 ?_
  refine wz_iconst C dX2_largestPiece_11 ?_
  refine wz_istore_3 C rfl dX2_largestPiece_12 ?_
  obtain ⟨n, h⟩ := h
  exact lk_X2_largestPiece_13 G hG X hX C k0 hk0 Q n ((shlZ 1 (I k0 0)) - 1) 0 0 I J h
theorem in_X4_takeVertices_X2 : ∀ w ∈ wsX20, w ∈ wsX4_takeVertices := by decide +kernel
theorem in_X4_takeVertices_X4 : ∀ w ∈ wsX40, w ∈ wsX4_takeVertices := by decide +kernel
theorem in_X4_takeVertices_X8 : ∀ w ∈ wsX80, w ∈ wsX4_takeVertices := by decide +kernel
theorem f_X4_takeVertices_9 : FLk wsX4_takeVertices RX4 9 7 6 := flk 7 6 rfl tyX4_ok nmX4 in_X4_takeVertices_X4 (by decide) (by decide +kernel)
theorem f_X4_takeVertices_15 : FLk wsX4_takeVertices RX4 15 7 7 := flk 7 7 rfl tyX4_ok nmX4 in_X4_takeVertices_X4 (by decide) (by decide +kernel)
theorem f_X4_takeVertices_21 : FLk wsX4_takeVertices RX4 21 7 9 := flk 7 9 rfl tyX4_ok nmX4 in_X4_takeVertices_X4 (by decide) (by decide +kernel)
theorem f_X4_takeVertices_24 : FLk wsX4_takeVertices RX4 24 7 10 := flk 7 10 rfl tyX4_ok nmX4 in_X4_takeVertices_X4 (by decide) (by decide +kernel)
theorem f_X4_takeVertices_82 : FLk wsX4_takeVertices RX4 82 5 0 := flk 5 0 rfl tyX2_ok nmX2 in_X4_takeVertices_X2 (by decide) (by decide +kernel)
theorem f_X4_takeVertices_85 : FLk wsX4_takeVertices RX4 85 11 5 := flk 11 5 rfl tyX8_ok nmX8 in_X4_takeVertices_X8 (by decide) (by decide +kernel)
theorem f_X4_takeVertices_88 : FLk wsX4_takeVertices RX4 88 11 3 := flk 11 3 rfl tyX8_ok nmX8 in_X4_takeVertices_X8 (by decide) (by decide +kernel)
theorem f_X4_takeVertices_94 : FLk wsX4_takeVertices RX4 94 5 8 := flk 5 8 rfl tyX2_ok nmX2 in_X4_takeVertices_X2 (by decide) (by decide +kernel)
theorem f_X4_takeVertices_18 : FLk wsX4_takeVertices RX4 18 7 8 := flk 7 8 rfl tyX4_ok nmX4 in_X4_takeVertices_X4 (by decide) (by decide +kernel)
def rm_X4_takeVertices : Room := { frames := 1, cells := 0, slots := 0, locals := 23 }
set_option maxHeartbeats 4000000 in
set_option maxRecDepth 100000 in
theorem lk_X4_takeVertices_40 (G : KG) (hG : KokC G) (X : KX) (hX : KR X = rm_X4_takeVertices) (C : Fr G X cX4_takeVertices 7 yX4_takeVertices.cls none wsX4_takeVertices) (k1 : Nat) (k2 : Nat) (hk1 : gK k1) (hk2 : sK k2) (Q : Ii → Jj → Prop) : ∀ (n : Nat) (l3 : Int) (l4 : Int) (I : Ii) (J : Jj), L_X4_takeVertices_40 k1 k2 Q n l3 l4 I J → Wz G X 7 (QsU G X (QsV Q)) 0 0 40 [some (.ref (kadr G 113)), some (.ref (kadr G k1)), some (.ref (kadr G k2)), some (.int (iZ l3)), some (.int (iZ l4)), none, none] [] I J := by
  have hz := hG.2
  intro n
  induction n with
  | zero => intro l3 l4 I J h; exact False.elim h
  | succ n w40 =>
    intro l3 l4 I J h
    have h : Lb_X4_takeVertices_40 k1 k2 Q (L_X4_takeVertices_40 k1 k2 Q n) l3 l4 I J := h
    unfold Lb_X4_takeVertices_40 at h
    generalize L_X4_takeVertices_40 k1 k2 Q n = r40 at h w40
    refine wz_iload C rfl dX4_takeVertices_40 ?_
    refine wz_aload_n C rfl rfl dX4_takeVertices_42 ?_
    refine wz_getI C rfl f_X4_takeVertices_82 (sOc hz (soX2_0 hk1)) dX4_takeVertices_43 ?_
    obtain ⟨g6, h⟩ := h
    obtain ⟨g7, h⟩ := h
    refine wz_icmp_ge C (tgt := 152) g6 g7 dX4_takeVertices_46 (by decide) (fun c => ?_) (fun c => ?_)
    · replace h := h.1 c
      exact wz_vret C dX4_takeVertices_152 ⟨rfl, h⟩
    · replace h := h.2 c
      refine wz_aload_n C rfl rfl dX4_takeVertices_49 ?_
      refine wz_getR C (j := k2 + 3) f_X4_takeVertices_85 (sOc hz (soX8_5 hk2)) (by have := sK_ge hk2; omega) dX4_takeVertices_50 ?_
      refine wz_iload_n C rfl rfl dX4_takeVertices_53 ?_
      refine wz_iload C rfl dX4_takeVertices_54 ?_
      refine wz_iadd C dX4_takeVertices_56 ?_
      refine wm_callSN C (As := [.ref (kadr G (k2 + 3)), .int (iZ (l3 + l4))]) (st := []) (a' := 0) (b' := 0) (host := "ShareGraph") (k_X11_at G hG (k2 + 3) (l3 + l4) I J _ h) 2 gX4_takeVertices_X11_at_n65 (by decide +kernel) (by decide +kernel) (by decide +kernel) rfl (by decide +kernel) (by rw [hX]; exact ⟨Nat.le_of_ble_eq_true rfl, Nat.le_of_ble_eq_true rfl⟩) rfl (Nat.le_of_ble_eq_true rfl) rfl rfl rfl dX4_takeVertices_57 (kk_sI (fun v8 I8 J8 h => ?_))
      refine wz_istore_5 C rfl dX4_takeVertices_60 ?_
      refine wz_aload_n C rfl rfl dX4_takeVertices_62 ?_
      refine wz_getR C (j := k2 + 1) f_X4_takeVertices_88 (sOc hz (soX8_3 hk2)) (by have := sK_ge hk2; omega) dX4_takeVertices_63 ?_
      refine wz_iload C rfl dX4_takeVertices_66 ?_
      refine wm_callSN C (As := [.ref (kadr G (k2 + 1)), .int (iZ l4)]) (st := []) (a' := 0) (b' := 0) (host := "ShareGraph") (k_X11_at G hG (k2 + 1) l4 I8 J8 _ h) 2 gX4_takeVertices_X11_at_n65 (by decide +kernel) (by decide +kernel) (by decide +kernel) rfl (by decide +kernel) (by rw [hX]; exact ⟨Nat.le_of_ble_eq_true rfl, Nat.le_of_ble_eq_true rfl⟩) rfl (Nat.le_of_ble_eq_true rfl) rfl rfl rfl dX4_takeVertices_68 (kk_sI (fun v9 I9 J9 h => ?_))
      refine wz_istore_6 C rfl dX4_takeVertices_71 ?_
      refine wz_aload_n C rfl rfl dX4_takeVertices_73 ?_
      refine wz_getR C (j := 114) f_X4_takeVertices_9 (sOc hz rfl) (by decide) dX4_takeVertices_74 ?_
      refine wz_iload C rfl dX4_takeVertices_77 ?_
      refine wz_iconst C dX4_takeVertices_79 ?_
      refine wz_iload C rfl dX4_takeVertices_80 ?_
      refine wd_ishl C dX4_takeVertices_82 ?_
      refine wm_callSN C (As := [.ref (kadr G 114), .int (iZ v8), .int (iZ (shlZ 1 l4))]) (st := []) (a' := 0) (b' := 0) (host := "ShareGraph") (k_X11_add G hG 114 v8 (shlZ 1 l4) I9 J9 _ h) 3 gX4_takeVertices_X11_add_n90 (by decide +kernel) (by decide +kernel) (by decide +kernel) rfl (by decide +kernel) (by rw [hX]; exact ⟨Nat.le_of_ble_eq_true rfl, Nat.le_of_ble_eq_true rfl⟩) rfl (Nat.le_of_ble_eq_true rfl) rfl rfl rfl dX4_takeVertices_83 (kk_sV (fun I10 J10 h => ?_))
      refine wz_aload_n C rfl rfl dX4_takeVertices_86 ?_
      refine wz_getR C (j := 115) f_X4_takeVertices_15 (sOc hz rfl) (by decide) dX4_takeVertices_87 ?_
      refine wz_iload C rfl dX4_takeVertices_90 ?_
      refine wz_aload_n C rfl rfl dX4_takeVertices_92 ?_
      refine wz_getR C (j := k1 + 2) f_X4_takeVertices_94 (sOc hz (soX2_8 hk1)) (by have := gK_ge hk1; omega) dX4_takeVertices_93 ?_
      refine wz_iload C rfl dX4_takeVertices_96 ?_
      refine wm_callSN C (As := [.ref (kadr G (k1 + 2)), .int (iZ l4)]) (st := [.int (iZ v8), .ref (kadr G 115)]) (a' := 0) (b' := 0) (host := "ShareGraph") (k_X11_at G hG (k1 + 2) l4 I10 J10 _ h) 2 gX4_takeVertices_X11_at_n65 (by decide +kernel) (by decide +kernel) (by decide +kernel) rfl (by decide +kernel) (by rw [hX]; exact ⟨Nat.le_of_ble_eq_true rfl, Nat.le_of_ble_eq_true rfl⟩) rfl (Nat.le_of_ble_eq_true rfl) rfl rfl rfl dX4_takeVertices_98 (kk_sI (fun v11 I11 J11 h => ?_))
      refine wm_callSN C (As := [.ref (kadr G 115), .int (iZ v8), .int (iZ v11)]) (st := []) (a' := 0) (b' := 0) (host := "ShareGraph") (k_X11_add G hG 115 v8 v11 I11 J11 _ h) 3 gX4_takeVertices_X11_add_n90 (by decide +kernel) (by decide +kernel) (by decide +kernel) rfl (by decide +kernel) (by rw [hX]; exact ⟨Nat.le_of_ble_eq_true rfl, Nat.le_of_ble_eq_true rfl⟩) rfl (Nat.le_of_ble_eq_true rfl) rfl rfl rfl dX4_takeVertices_101 (kk_sV (fun I12 J12 h => ?_))
      refine wz_aload_n C rfl rfl dX4_takeVertices_104 ?_
      refine wz_getR C (j := 116) f_X4_takeVertices_18 (sOc hz rfl) (by decide) dX4_takeVertices_105 ?_
      refine wz_iload C rfl dX4_takeVertices_108 ?_
      refine wz_iload C rfl dX4_takeVertices_110 ?_
      refine wm_callSN C (As := [.ref (kadr G 116), .int (iZ v8), .int (iZ v9)]) (st := []) (a' := 0) (b' := 0) (host := "ShareGraph") (k_X11_put G hG 116 v8 v9 I12 J12 _ h) 3 gX4_takeVertices_X11_put_n97 (by decide +kernel) (by decide +kernel) (by decide +kernel) rfl (by decide +kernel) (by rw [hX]; exact ⟨Nat.le_of_ble_eq_true rfl, Nat.le_of_ble_eq_true rfl⟩) rfl (Nat.le_of_ble_eq_true rfl) rfl rfl rfl dX4_takeVertices_112 (kk_sV (fun I13 J13 h => ?_))
      refine wz_aload_n C rfl rfl dX4_takeVertices_115 ?_
      refine wz_getR C (j := 117) f_X4_takeVertices_21 (sOc hz rfl) (by decide) dX4_takeVertices_116 ?_
      refine wz_iload C rfl dX4_takeVertices_119 ?_
      refine wz_iconst C dX4_takeVertices_121 ?_
      refine wz_iload C rfl dX4_takeVertices_122 ?_
      refine wd_ishl C dX4_takeVertices_124 ?_
      refine wm_callSN C (As := [.ref (kadr G 117), .int (iZ v9), .int (iZ (shlZ 1 l4))]) (st := []) (a' := 0) (b' := 0) (host := "ShareGraph") (k_X11_add G hG 117 v9 (shlZ 1 l4) I13 J13 _ h) 3 gX4_takeVertices_X11_add_n90 (by decide +kernel) (by decide +kernel) (by decide +kernel) rfl (by decide +kernel) (by rw [hX]; exact ⟨Nat.le_of_ble_eq_true rfl, Nat.le_of_ble_eq_true rfl⟩) rfl (Nat.le_of_ble_eq_true rfl) rfl rfl rfl dX4_takeVertices_125 (kk_sV (fun I14 J14 h => ?_))
      refine wz_aload_n C rfl rfl dX4_takeVertices_128 ?_
      refine wz_getR C (j := 118) f_X4_takeVertices_24 (sOc hz rfl) (by decide) dX4_takeVertices_129 ?_
      refine wz_iload C rfl dX4_takeVertices_132 ?_
      refine wz_aload_n C rfl rfl dX4_takeVertices_134 ?_
      refine wz_getR C (j := k1 + 2) f_X4_takeVertices_94 (sOc hz (soX2_8 hk1)) (by have := gK_ge hk1; omega) dX4_takeVertices_135 ?_
      refine wz_iload C rfl dX4_takeVertices_138 ?_
      refine wm_callSN C (As := [.ref (kadr G (k1 + 2)), .int (iZ l4)]) (st := [.int (iZ v9), .ref (kadr G 118)]) (a' := 0) (b' := 0) (host := "ShareGraph") (k_X11_at G hG (k1 + 2) l4 I14 J14 _ h) 2 gX4_takeVertices_X11_at_n65 (by decide +kernel) (by decide +kernel) (by decide +kernel) rfl (by decide +kernel) (by rw [hX]; exact ⟨Nat.le_of_ble_eq_true rfl, Nat.le_of_ble_eq_true rfl⟩) rfl (Nat.le_of_ble_eq_true rfl) rfl rfl rfl dX4_takeVertices_140 (kk_sI (fun v15 I15 J15 h => ?_))
      refine wm_callSN C (As := [.ref (kadr G 118), .int (iZ v9), .int (iZ v15)]) (st := []) (a' := 0) (b' := 0) (host := "ShareGraph") (k_X11_add G hG 118 v9 v15 I15 J15 _ h) 3 gX4_takeVertices_X11_add_n90 (by decide +kernel) (by decide +kernel) (by decide +kernel) rfl (by decide +kernel) (by rw [hX]; exact ⟨Nat.le_of_ble_eq_true rfl, Nat.le_of_ble_eq_true rfl⟩) rfl (Nat.le_of_ble_eq_true rfl) rfl rfl rfl dX4_takeVertices_143 (kk_sV (fun I16 J16 h => ?_))
      refine wz_iinc_4 C rfl dX4_takeVertices_146 ?_
      refine wz_goto C dX4_takeVertices_149 (tgt := 40) (by decide) ?_
      exact Wz.drop (w40 l3 (l4 + 1) I16 J16 h) (And.intro rfl (And.intro rfl (And.intro rfl (And.intro rfl (And.intro rfl trivial)))))
set_option maxHeartbeats 4000000 in
set_option maxRecDepth 100000 in
theorem k_X4_takeVertices (G : KG) (hG : KokC G) (k1 : Nat) (k2 : Nat) (I : Ii) (J : Jj) (Q : Ii → Jj → Prop) (h : wp_X4_takeVertices k1 k2 I J Q) : Ctr G yX4_takeVertices wsX4_takeVertices rm_X4_takeVertices [.ref (kadr G 113), .ref (kadr G k1), .ref (kadr G k2)] (I, J) (QsV Q) := by
  unfold wp_X4_takeVertices at h
  obtain ⟨hk1, h⟩ := h
  obtain ⟨hk2, h⟩ := h
  refine Ctr.ofZ (cc := cX4_takeVertices) (nL := 7) (ret := none) [some (.ref (kadr G 113)), some (.ref (kadr G k1)), some (.ref (kadr G k2)), none, none, none, none] hG.1 (by decide +kernel) rfl (Nat.le_of_ble_eq_true rfl) (Nat.le_of_ble_eq_true rfl) (by simp [lvA, lv_args, Value.category]) ?_
  intro X hX C
  have hz := hG.2
  refine wz_aload_n C rfl rfl dX4_takeVertices_0 ?_
  refine wz_getR C (j := 114) f_X4_takeVertices_9 (sOc hz rfl) (by decide) dX4_takeVertices_1 ?_
  refine wz_iconst C dX4_takeVertices_4 ?_
  refine wm_callSo C (As := [.ref (kadr G 114), .int (iZ 0)]) (st := []) (a' := 0) (b' := 0) (k_J7_fill_53178 G hG 114 0 I J _ h) 2 (goodIn_wsS gX4_takeVertices_J7_fill_53178) (by decide +kernel) (by decide +kernel) (by decide +kernel) rfl (by decide +kernel) (by rw [hX]; exact ⟨Nat.le_of_ble_eq_true rfl, Nat.le_of_ble_eq_true rfl⟩) rfl (Nat.le_of_ble_eq_true rfl) rfl rfl rfl dX4_takeVertices_5 (kk_sV (fun I1 J1 h => ?_))
  refine wz_aload_n C rfl rfl dX4_takeVertices_8 ?_
  refine wz_getR C (j := 115) f_X4_takeVertices_15 (sOc hz rfl) (by decide) dX4_takeVertices_9 ?_
  refine wz_iconst C dX4_takeVertices_12 ?_
  refine wm_callSo C (As := [.ref (kadr G 115), .int (iZ 0)]) (st := []) (a' := 0) (b' := 0) (k_J7_fill_53178 G hG 115 0 I1 J1 _ h) 2 (goodIn_wsS gX4_takeVertices_J7_fill_53178) (by decide +kernel) (by decide +kernel) (by decide +kernel) rfl (by decide +kernel) (by rw [hX]; exact ⟨Nat.le_of_ble_eq_true rfl, Nat.le_of_ble_eq_true rfl⟩) rfl (Nat.le_of_ble_eq_true rfl) rfl rfl rfl dX4_takeVertices_13 (kk_sV (fun I2 J2 h => ?_))
  refine wz_aload_n C rfl rfl dX4_takeVertices_16 ?_
  refine wz_getR C (j := 117) f_X4_takeVertices_21 (sOc hz rfl) (by decide) dX4_takeVertices_17 ?_
  refine wz_iconst C dX4_takeVertices_20 ?_
  refine wm_callSo C (As := [.ref (kadr G 117), .int (iZ 0)]) (st := []) (a' := 0) (b' := 0) (k_J7_fill_53178 G hG 117 0 I2 J2 _ h) 2 (goodIn_wsS gX4_takeVertices_J7_fill_53178) (by decide +kernel) (by decide +kernel) (by decide +kernel) rfl (by decide +kernel) (by rw [hX]; exact ⟨Nat.le_of_ble_eq_true rfl, Nat.le_of_ble_eq_true rfl⟩) rfl (Nat.le_of_ble_eq_true rfl) rfl rfl rfl dX4_takeVertices_21 (kk_sV (fun I3 J3 h => ?_))
  refine wz_aload_n C rfl rfl dX4_takeVertices_24 ?_
  refine wz_getR C (j := 118) f_X4_takeVertices_24 (sOc hz rfl) (by decide) dX4_takeVertices_25 ?_
  refine wz_iconst C dX4_takeVertices_28 ?_
  refine wm_callSo C (As := [.ref (kadr G 118), .int (iZ 0)]) (st := []) (a' := 0) (b' := 0) (k_J7_fill_53178 G hG 118 0 I3 J3 _ h) 2 (goodIn_wsS gX4_takeVertices_J7_fill_53178) (by decide +kernel) (by decide +kernel) (by decide +kernel) rfl (by decide +kernel) (by rw [hX]; exact ⟨Nat.le_of_ble_eq_true rfl, Nat.le_of_ble_eq_true rfl⟩) rfl (Nat.le_of_ble_eq_true rfl) rfl rfl rfl dX4_takeVertices_29 (kk_sV (fun I4 J4 h => ?_))
  refine wz_aload_n C rfl rfl dX4_takeVertices_32 ?_
  refine wm_callV C (o := k2) (As := []) (st := []) (a' := 0) (b' := 0) (shK_c hz (spX8 hk2)) rfl (k_X8_groupRow G hG k2 I4 J4 _ h) 0 gX4_takeVertices_X8_groupRow rfl (by decide +kernel) (by rw [hX]; exact ⟨Nat.le_of_ble_eq_true rfl, Nat.le_of_ble_eq_true rfl⟩) rfl (Nat.le_of_ble_eq_true rfl) rfl rfl rfl dX4_takeVertices_33 (kk_sI (fun v5 I5 J5 h => ?_))
  refine wz_istore_3 C rfl dX4_takeVertices_36 ?_
  refine wz_iconst C dX4_takeVertices_37 ?_
  refine wz_istore_4 C rfl dX4_takeVertices_38 ?_
  obtain ⟨n, h⟩ := h
  exact lk_X4_takeVertices_40 G hG X hX C k1 k2 hk1 hk2 Q n v5 0 I5 J5 h
theorem in_X4_takeEdges_X2 : ∀ w ∈ wsX20, w ∈ wsX4_takeEdges := by decide +kernel
theorem in_X4_takeEdges_X4 : ∀ w ∈ wsX40, w ∈ wsX4_takeEdges := by decide +kernel
theorem in_X4_takeEdges_X8 : ∀ w ∈ wsX80, w ∈ wsX4_takeEdges := by decide +kernel
theorem f_X4_takeEdges_27 : FLk wsX4_takeEdges RX4 27 7 11 := flk 7 11 rfl tyX4_ok nmX4 in_X4_takeEdges_X4 (by decide) (by decide +kernel)
theorem f_X4_takeEdges_100 : FLk wsX4_takeEdges RX4 100 7 5 := flk 7 5 rfl tyX4_ok nmX4 in_X4_takeEdges_X4 (by decide) (by decide +kernel)
theorem fp_X4_5 : FPk 7 5 .int := fun C9 T9 N9 h => by
  have h : some (RX4, TX4, 12) = some (C9, T9, N9) := h
  cases h
  exact ⟨rfl, by decide +kernel⟩
theorem f_X4_takeEdges_103 : FLk wsX4_takeEdges RX4 103 5 1 := flk 5 1 rfl tyX2_ok nmX2 in_X4_takeEdges_X2 (by decide) (by decide +kernel)
theorem f_X4_takeEdges_85 : FLk wsX4_takeEdges RX4 85 11 5 := flk 11 5 rfl tyX8_ok nmX8 in_X4_takeEdges_X8 (by decide) (by decide +kernel)
theorem f_X4_takeEdges_106 : FLk wsX4_takeEdges RX4 106 5 9 := flk 5 9 rfl tyX2_ok nmX2 in_X4_takeEdges_X2 (by decide) (by decide +kernel)
theorem f_X4_takeEdges_109 : FLk wsX4_takeEdges RX4 109 5 10 := flk 5 10 rfl tyX2_ok nmX2 in_X4_takeEdges_X2 (by decide) (by decide +kernel)
theorem f_X4_takeEdges_112 : FLk wsX4_takeEdges RX4 112 5 11 := flk 5 11 rfl tyX2_ok nmX2 in_X4_takeEdges_X2 (by decide) (by decide +kernel)
theorem f_X4_takeEdges_18 : FLk wsX4_takeEdges RX4 18 7 8 := flk 7 8 rfl tyX4_ok nmX4 in_X4_takeEdges_X4 (by decide) (by decide +kernel)
def rm_X4_takeEdges : Room := { frames := 1, cells := 0, slots := 0, locals := 23 }
set_option maxHeartbeats 4000000 in
set_option maxRecDepth 100000 in
theorem lk_X4_takeEdges_21 (G : KG) (hG : KokC G) (X : KX) (hX : KR X = rm_X4_takeEdges) (C : Fr G X cX4_takeEdges 8 yX4_takeEdges.cls none wsX4_takeEdges) (k1 : Nat) (k2 : Nat) (hk1 : gK k1) (hk2 : sK k2) (Q : Ii → Jj → Prop) : ∀ (n : Nat) (l3 : Int) (l4 : Int) (I : Ii) (J : Jj), L_X4_takeEdges_21 k1 k2 Q n l3 l4 I J → Wz G X 8 (QsU G X (QsV Q)) 0 0 21 [some (.ref (kadr G 113)), some (.ref (kadr G k1)), some (.ref (kadr G k2)), some (.int (iZ l3)), some (.int (iZ l4)), none, none, none] [] I J := by
  have hz := hG.2
  intro n
  induction n with
  | zero => intro l3 l4 I J h; exact False.elim h
  | succ n w21 =>
    intro l3 l4 I J h
    have h : Lb_X4_takeEdges_21 k1 k2 Q (L_X4_takeEdges_21 k1 k2 Q n) l3 l4 I J := h
    unfold Lb_X4_takeEdges_21 at h
    generalize L_X4_takeEdges_21 k1 k2 Q n = r21 at h w21
    refine wz_iload C rfl dX4_takeEdges_21 ?_
    refine wz_aload_n C rfl rfl dX4_takeEdges_23 ?_
    refine wz_getI C rfl f_X4_takeEdges_103 (sOc hz (soX2_1 hk1)) dX4_takeEdges_24 ?_
    obtain ⟨g4, h⟩ := h
    obtain ⟨g5, h⟩ := h
    refine wz_icmp_ge C (tgt := 176) g4 g5 dX4_takeEdges_27 (by decide) (fun c => ?_) (fun c => ?_)
    · replace h := h.1 c
      exact wz_vret C dX4_takeEdges_176 ⟨rfl, h⟩
    · replace h := h.2 c
      refine wz_aload_n C rfl rfl dX4_takeEdges_30 ?_
      refine wz_getR C (j := k2 + 3) f_X4_takeEdges_85 (sOc hz (soX8_5 hk2)) (by have := sK_ge hk2; omega) dX4_takeEdges_31 ?_
      refine wz_iload_n C rfl rfl dX4_takeEdges_34 ?_
      refine wz_aload_n C rfl rfl dX4_takeEdges_35 ?_
      refine wz_getR C (j := k1 + 3) f_X4_takeEdges_106 (sOc hz (soX2_9 hk1)) (by have := gK_ge hk1; omega) dX4_takeEdges_36 ?_
      refine wz_iload C rfl dX4_takeEdges_39 ?_
      refine wm_callSN C (As := [.ref (kadr G (k1 + 3)), .int (iZ l4)]) (st := [.int (iZ l3), .ref (kadr G (k2 + 3))]) (a' := 0) (b' := 0) (host := "ShareGraph") (k_X11_at G hG (k1 + 3) l4 I J _ h) 2 gX4_takeEdges_X11_at_n65 (by decide +kernel) (by decide +kernel) (by decide +kernel) rfl (by decide +kernel) (by rw [hX]; exact ⟨Nat.le_of_ble_eq_true rfl, Nat.le_of_ble_eq_true rfl⟩) rfl (Nat.le_of_ble_eq_true rfl) rfl rfl rfl dX4_takeEdges_41 (kk_sI (fun v6 I6 J6 h => ?_))
      refine wz_iadd C dX4_takeEdges_44 ?_
      refine wm_callSN C (As := [.ref (kadr G (k2 + 3)), .int (iZ (l3 + v6))]) (st := []) (a' := 0) (b' := 0) (host := "ShareGraph") (k_X11_at G hG (k2 + 3) (l3 + v6) I6 J6 _ h) 2 gX4_takeEdges_X11_at_n65 (by decide +kernel) (by decide +kernel) (by decide +kernel) rfl (by decide +kernel) (by rw [hX]; exact ⟨Nat.le_of_ble_eq_true rfl, Nat.le_of_ble_eq_true rfl⟩) rfl (Nat.le_of_ble_eq_true rfl) rfl rfl rfl dX4_takeEdges_45 (kk_sI (fun v7 I7 J7 h => ?_))
      refine wz_istore_5 C rfl dX4_takeEdges_48 ?_
      refine wz_aload_n C rfl rfl dX4_takeEdges_50 ?_
      refine wz_getR C (j := k2 + 3) f_X4_takeEdges_85 (sOc hz (soX8_5 hk2)) (by have := sK_ge hk2; omega) dX4_takeEdges_51 ?_
      refine wz_iload_n C rfl rfl dX4_takeEdges_54 ?_
      refine wz_aload_n C rfl rfl dX4_takeEdges_55 ?_
      refine wz_getR C (j := k1 + 4) f_X4_takeEdges_109 (sOc hz (soX2_10 hk1)) (by have := gK_ge hk1; omega) dX4_takeEdges_56 ?_
      refine wz_iload C rfl dX4_takeEdges_59 ?_
      refine wm_callSN C (As := [.ref (kadr G (k1 + 4)), .int (iZ l4)]) (st := [.int (iZ l3), .ref (kadr G (k2 + 3))]) (a' := 0) (b' := 0) (host := "ShareGraph") (k_X11_at G hG (k1 + 4) l4 I7 J7 _ h) 2 gX4_takeEdges_X11_at_n65 (by decide +kernel) (by decide +kernel) (by decide +kernel) rfl (by decide +kernel) (by rw [hX]; exact ⟨Nat.le_of_ble_eq_true rfl, Nat.le_of_ble_eq_true rfl⟩) rfl (Nat.le_of_ble_eq_true rfl) rfl rfl rfl dX4_takeEdges_61 (kk_sI (fun v8 I8 J8 h => ?_))
      refine wz_iadd C dX4_takeEdges_64 ?_
      refine wm_callSN C (As := [.ref (kadr G (k2 + 3)), .int (iZ (l3 + v8))]) (st := []) (a' := 0) (b' := 0) (host := "ShareGraph") (k_X11_at G hG (k2 + 3) (l3 + v8) I8 J8 _ h) 2 gX4_takeEdges_X11_at_n65 (by decide +kernel) (by decide +kernel) (by decide +kernel) rfl (by decide +kernel) (by rw [hX]; exact ⟨Nat.le_of_ble_eq_true rfl, Nat.le_of_ble_eq_true rfl⟩) rfl (Nat.le_of_ble_eq_true rfl) rfl rfl rfl dX4_takeEdges_65 (kk_sI (fun v9 I9 J9 h => ?_))
      refine wz_istore_6 C rfl dX4_takeEdges_68 ?_
      refine wz_iload C rfl dX4_takeEdges_70 ?_
      refine wz_iload C rfl dX4_takeEdges_72 ?_
      obtain ⟨g10, h⟩ := h
      obtain ⟨g11, h⟩ := h
      refine wz_icmp_eq C (tgt := 170) g10 g11 dX4_takeEdges_74 (by decide) (fun c => ?_) (fun c => ?_)
      · replace h := h.1 c
        refine wz_iinc_4 C rfl dX4_takeEdges_170 ?_
        refine wz_goto C dX4_takeEdges_173 (tgt := 21) (by decide) ?_
        exact Wz.drop (w21 l3 (l4 + 1) I9 J9 h) (And.intro rfl (And.intro rfl (And.intro rfl (And.intro rfl (And.intro rfl trivial)))))
      · replace h := h.2 c
        refine wz_aload_n C rfl rfl dX4_takeEdges_77 ?_
        refine wz_getR C (j := k1 + 5) f_X4_takeEdges_112 (sOc hz (soX2_11 hk1)) (by have := gK_ge hk1; omega) dX4_takeEdges_78 ?_
        refine wz_iload C rfl dX4_takeEdges_81 ?_
        refine wm_callSN C (As := [.ref (kadr G (k1 + 5)), .int (iZ l4)]) (st := []) (a' := 0) (b' := 0) (host := "ShareGraph") (k_X11_at G hG (k1 + 5) l4 I9 J9 _ h) 2 gX4_takeEdges_X11_at_n65 (by decide +kernel) (by decide +kernel) (by decide +kernel) rfl (by decide +kernel) (by rw [hX]; exact ⟨Nat.le_of_ble_eq_true rfl, Nat.le_of_ble_eq_true rfl⟩) rfl (Nat.le_of_ble_eq_true rfl) rfl rfl rfl dX4_takeEdges_83 (kk_sI (fun v12 I12 J12 h => ?_))
        refine wz_istore_7 C rfl dX4_takeEdges_86 ?_
        refine wz_aload_n C rfl rfl dX4_takeEdges_88 ?_
        refine wz_getR C (j := 119) f_X4_takeEdges_27 (sOc hz rfl) (by decide) dX4_takeEdges_89 ?_
        refine wz_iload C rfl dX4_takeEdges_92 ?_
        refine wz_iconst C dX4_takeEdges_94 ?_
        refine wz_imul C dX4_takeEdges_95 ?_
        refine wz_aload_n C rfl rfl dX4_takeEdges_96 ?_
        refine wz_getR C (j := 116) f_X4_takeEdges_18 (sOc hz rfl) (by decide) dX4_takeEdges_97 ?_
        refine wz_iload C rfl dX4_takeEdges_100 ?_
        refine wm_callSN C (As := [.ref (kadr G 116), .int (iZ v9)]) (st := [.int (iZ (v7 * 4)), .ref (kadr G 119)]) (a' := 0) (b' := 0) (host := "ShareGraph") (k_X11_at G hG 116 v9 I12 J12 _ h) 2 gX4_takeEdges_X11_at_n65 (by decide +kernel) (by decide +kernel) (by decide +kernel) rfl (by decide +kernel) (by rw [hX]; exact ⟨Nat.le_of_ble_eq_true rfl, Nat.le_of_ble_eq_true rfl⟩) rfl (Nat.le_of_ble_eq_true rfl) rfl rfl rfl dX4_takeEdges_102 (kk_sI (fun v13 I13 J13 h => ?_))
        refine wz_iadd C dX4_takeEdges_105 ?_
        refine wz_iload C rfl dX4_takeEdges_106 ?_
        refine wm_callSN C (As := [.ref (kadr G 119), .int (iZ ((v7 * 4) + v13)), .int (iZ v12)]) (st := []) (a' := 0) (b' := 0) (host := "ShareGraph") (k_X11_add G hG 119 ((v7 * 4) + v13) v12 I13 J13 _ h) 3 gX4_takeEdges_X11_add_n90 (by decide +kernel) (by decide +kernel) (by decide +kernel) rfl (by decide +kernel) (by rw [hX]; exact ⟨Nat.le_of_ble_eq_true rfl, Nat.le_of_ble_eq_true rfl⟩) rfl (Nat.le_of_ble_eq_true rfl) rfl rfl rfl dX4_takeEdges_108 (kk_sV (fun I14 J14 h => ?_))
        refine wz_aload_n C rfl rfl dX4_takeEdges_111 ?_
        refine wz_getR C (j := 119) f_X4_takeEdges_27 (sOc hz rfl) (by decide) dX4_takeEdges_112 ?_
        refine wz_iload C rfl dX4_takeEdges_115 ?_
        refine wz_iconst C dX4_takeEdges_117 ?_
        refine wz_imul C dX4_takeEdges_118 ?_
        refine wz_aload_n C rfl rfl dX4_takeEdges_119 ?_
        refine wz_getR C (j := 116) f_X4_takeEdges_18 (sOc hz rfl) (by decide) dX4_takeEdges_120 ?_
        refine wz_iload C rfl dX4_takeEdges_123 ?_
        refine wm_callSN C (As := [.ref (kadr G 116), .int (iZ v7)]) (st := [.int (iZ (v9 * 4)), .ref (kadr G 119)]) (a' := 0) (b' := 0) (host := "ShareGraph") (k_X11_at G hG 116 v7 I14 J14 _ h) 2 gX4_takeEdges_X11_at_n65 (by decide +kernel) (by decide +kernel) (by decide +kernel) rfl (by decide +kernel) (by rw [hX]; exact ⟨Nat.le_of_ble_eq_true rfl, Nat.le_of_ble_eq_true rfl⟩) rfl (Nat.le_of_ble_eq_true rfl) rfl rfl rfl dX4_takeEdges_125 (kk_sI (fun v15 I15 J15 h => ?_))
        refine wz_iadd C dX4_takeEdges_128 ?_
        refine wz_iload C rfl dX4_takeEdges_129 ?_
        refine wm_callSN C (As := [.ref (kadr G 119), .int (iZ ((v9 * 4) + v15)), .int (iZ v12)]) (st := []) (a' := 0) (b' := 0) (host := "ShareGraph") (k_X11_add G hG 119 ((v9 * 4) + v15) v12 I15 J15 _ h) 3 gX4_takeEdges_X11_add_n90 (by decide +kernel) (by decide +kernel) (by decide +kernel) rfl (by decide +kernel) (by rw [hX]; exact ⟨Nat.le_of_ble_eq_true rfl, Nat.le_of_ble_eq_true rfl⟩) rfl (Nat.le_of_ble_eq_true rfl) rfl rfl rfl dX4_takeEdges_131 (kk_sV (fun I16 J16 h => ?_))
        refine wz_aload_n C rfl rfl dX4_takeEdges_134 ?_
        refine wz_dup C rfl dX4_takeEdges_135 ?_
        refine wz_getI C rfl f_X4_takeEdges_100 (sOc hz rfl) dX4_takeEdges_136 ?_
        refine wz_aload_n C rfl rfl dX4_takeEdges_139 ?_
        refine wz_getR C (j := 116) f_X4_takeEdges_18 (sOc hz rfl) (by decide) dX4_takeEdges_140 ?_
        refine wz_iload C rfl dX4_takeEdges_143 ?_
        refine wm_callSN C (As := [.ref (kadr G 116), .int (iZ v7)]) (st := [.int (iZ (I16 113 5)), .ref (kadr G 113)]) (a' := 0) (b' := 0) (host := "ShareGraph") (k_X11_at G hG 116 v7 I16 J16 _ h) 2 gX4_takeEdges_X11_at_n65 (by decide +kernel) (by decide +kernel) (by decide +kernel) rfl (by decide +kernel) (by rw [hX]; exact ⟨Nat.le_of_ble_eq_true rfl, Nat.le_of_ble_eq_true rfl⟩) rfl (Nat.le_of_ble_eq_true rfl) rfl rfl rfl dX4_takeEdges_145 (kk_sI (fun v17 I17 J17 h => ?_))
        refine wz_aload_n C rfl rfl dX4_takeEdges_148 ?_
        refine wz_getR C (j := 116) f_X4_takeEdges_18 (sOc hz rfl) (by decide) dX4_takeEdges_149 ?_
        refine wz_iload C rfl dX4_takeEdges_152 ?_
        refine wm_callSN C (As := [.ref (kadr G 116), .int (iZ v9)]) (st := [.int (iZ v17), .int (iZ (I16 113 5)), .ref (kadr G 113)]) (a' := 0) (b' := 0) (host := "ShareGraph") (k_X11_at G hG 116 v9 I17 J17 _ h) 2 gX4_takeEdges_X11_at_n65 (by decide +kernel) (by decide +kernel) (by decide +kernel) rfl (by decide +kernel) (by rw [hX]; exact ⟨Nat.le_of_ble_eq_true rfl, Nat.le_of_ble_eq_true rfl⟩) rfl (Nat.le_of_ble_eq_true rfl) rfl rfl rfl dX4_takeEdges_154 (kk_sI (fun v18 I18 J18 h => ?_))
        obtain ⟨g19, h⟩ := h
        obtain ⟨g20, h⟩ := h
        refine wz_icmp_ne C (tgt := 164) g19 g20 dX4_takeEdges_157 (by decide) (fun c => ?_) (fun c => ?_)
        · replace h := h.1 c
          refine wz_iload C rfl dX4_takeEdges_164 ?_
          refine wz_iadd C dX4_takeEdges_166 ?_
          refine wd_putI C f_X4_takeEdges_100 fp_X4_5 (sOc hz rfl) dX4_takeEdges_167 (fun I21 e => ?_)
          replace h := h I21 e
          refine wz_iinc_4 C rfl dX4_takeEdges_170 ?_
          refine wz_goto C dX4_takeEdges_173 (tgt := 21) (by decide) ?_
          exact Wz.drop (w21 l3 (l4 + 1) I21 J18 h) (And.intro rfl (And.intro rfl (And.intro rfl (And.intro rfl (And.intro rfl trivial)))))
        · replace h := h.2 c
          refine wz_iconst C dX4_takeEdges_160 ?_
          refine wz_goto C dX4_takeEdges_161 (tgt := 166) (by decide) ?_
          refine wz_iadd C dX4_takeEdges_166 ?_
          refine wd_putI C f_X4_takeEdges_100 fp_X4_5 (sOc hz rfl) dX4_takeEdges_167 (fun I22 e => ?_)
          replace h := h I22 e
          refine wz_iinc_4 C rfl dX4_takeEdges_170 ?_
          refine wz_goto C dX4_takeEdges_173 (tgt := 21) (by decide) ?_
          exact Wz.drop (w21 l3 (l4 + 1) I22 J18 h) (And.intro rfl (And.intro rfl (And.intro rfl (And.intro rfl (And.intro rfl trivial)))))
set_option maxHeartbeats 4000000 in
set_option maxRecDepth 100000 in
theorem k_X4_takeEdges (G : KG) (hG : KokC G) (k1 : Nat) (k2 : Nat) (I : Ii) (J : Jj) (Q : Ii → Jj → Prop) (h : wp_X4_takeEdges k1 k2 I J Q) : Ctr G yX4_takeEdges wsX4_takeEdges rm_X4_takeEdges [.ref (kadr G 113), .ref (kadr G k1), .ref (kadr G k2)] (I, J) (QsV Q) := by
  unfold wp_X4_takeEdges at h
  obtain ⟨hk1, h⟩ := h
  obtain ⟨hk2, h⟩ := h
  refine Ctr.ofZ (cc := cX4_takeEdges) (nL := 8) (ret := none) [some (.ref (kadr G 113)), some (.ref (kadr G k1)), some (.ref (kadr G k2)), none, none, none, none, none] hG.1 (by decide +kernel) rfl (Nat.le_of_ble_eq_true rfl) (Nat.le_of_ble_eq_true rfl) (by simp [lvA, lv_args, Value.category]) ?_
  intro X hX C
  have hz := hG.2
  refine wz_aload_n C rfl rfl dX4_takeEdges_0 ?_
  refine wz_getR C (j := 119) f_X4_takeEdges_27 (sOc hz rfl) (by decide) dX4_takeEdges_1 ?_
  refine wz_iconst C dX4_takeEdges_4 ?_
  refine wm_callSo C (As := [.ref (kadr G 119), .int (iZ 0)]) (st := []) (a' := 0) (b' := 0) (k_J7_fill_53178 G hG 119 0 I J _ h) 2 (goodIn_wsS gX4_takeEdges_J7_fill_53178) (by decide +kernel) (by decide +kernel) (by decide +kernel) rfl (by decide +kernel) (by rw [hX]; exact ⟨Nat.le_of_ble_eq_true rfl, Nat.le_of_ble_eq_true rfl⟩) rfl (Nat.le_of_ble_eq_true rfl) rfl rfl rfl dX4_takeEdges_5 (kk_sV (fun I1 J1 h => ?_))
  refine wz_aload_n C rfl rfl dX4_takeEdges_8 ?_
  refine wz_iconst C dX4_takeEdges_9 ?_
  refine wd_putI C f_X4_takeEdges_100 fp_X4_5 (sOc hz rfl) dX4_takeEdges_10 (fun I2 e => ?_)
  replace h := h I2 e
  refine wz_aload_n C rfl rfl dX4_takeEdges_13 ?_
  refine wm_callV C (o := k2) (As := []) (st := []) (a' := 0) (b' := 0) (shK_c hz (spX8 hk2)) rfl (k_X8_groupRow G hG k2 I2 J1 _ h) 0 gX4_takeEdges_X8_groupRow rfl (by decide +kernel) (by rw [hX]; exact ⟨Nat.le_of_ble_eq_true rfl, Nat.le_of_ble_eq_true rfl⟩) rfl (Nat.le_of_ble_eq_true rfl) rfl rfl rfl dX4_takeEdges_14 (kk_sI (fun v3 I3 J3 h => ?_))
  refine wz_istore_3 C rfl dX4_takeEdges_17 ?_
  refine wz_iconst C dX4_takeEdges_18 ?_
  refine wz_istore_4 C rfl dX4_takeEdges_19 ?_
  obtain ⟨n, h⟩ := h
  exact lk_X4_takeEdges_21 G hG X hX C k1 k2 hk1 hk2 Q n v3 0 I3 J3 h
theorem in_X4_pullOfAll_X4 : ∀ w ∈ wsX40, w ∈ wsX4_pullOfAll := by decide +kernel
theorem f_X4_pullOfAll_45 : FLk wsX4_pullOfAll RX4 45 7 1 := flk 7 1 rfl tyX4_ok nmX4 in_X4_pullOfAll_X4 (by decide) (by decide +kernel)
theorem f_X4_pullOfAll_27 : FLk wsX4_pullOfAll RX4 27 7 11 := flk 7 11 rfl tyX4_ok nmX4 in_X4_pullOfAll_X4 (by decide) (by decide +kernel)
def rm_X4_pullOfAll : Room := { frames := 1, cells := 0, slots := 0, locals := 21 }
set_option maxHeartbeats 4000000 in
set_option maxRecDepth 100000 in
theorem lk_X4_pullOfAll_4 (G : KG) (hG : KokC G) (X : KX) (hX : KR X = rm_X4_pullOfAll) (C : Fr G X cX4_pullOfAll 4 yX4_pullOfAll.cls (some .int) wsX4_pullOfAll) (l1 : Int) (Q : Int → Ii → Jj → Prop) : ∀ (n : Nat) (l2 : Int) (l3 : Int) (I : Ii) (J : Jj), L_X4_pullOfAll_4 l1 Q n l2 l3 I J → Wz G X 4 (QsU G X (QsI Q)) 0 0 4 [some (.ref (kadr G 113)), some (.int (iZ l1)), some (.int (iZ l2)), some (.int (iZ l3))] [] I J := by
  have hz := hG.2
  intro n
  induction n with
  | zero => intro l2 l3 I J h; exact False.elim h
  | succ n w4 =>
    intro l2 l3 I J h
    have h : Lb_X4_pullOfAll_4 l1 Q (L_X4_pullOfAll_4 l1 Q n) l2 l3 I J := h
    unfold Lb_X4_pullOfAll_4 at h
    generalize L_X4_pullOfAll_4 l1 Q n = r4 at h w4
    refine wz_iload_n C rfl rfl dX4_pullOfAll_4 ?_
    refine wz_aload_n C rfl rfl dX4_pullOfAll_5 ?_
    refine wz_getI C rfl f_X4_pullOfAll_45 (sOc hz rfl) dX4_pullOfAll_6 ?_
    obtain ⟨g1, h⟩ := h
    obtain ⟨g2, h⟩ := h
    refine wz_icmp_ge C (tgt := 33) g1 g2 dX4_pullOfAll_9 (by decide) (fun c => ?_) (fun c => ?_)
    · replace h := h.1 c
      refine wz_iload_n C rfl rfl dX4_pullOfAll_33 ?_
      exact wz_iret C dX4_pullOfAll_34 ⟨_, rfl, h⟩
    · replace h := h.2 c
      refine wz_iload_n C rfl rfl dX4_pullOfAll_12 ?_
      refine wz_aload_n C rfl rfl dX4_pullOfAll_13 ?_
      refine wz_getR C (j := 119) f_X4_pullOfAll_27 (sOc hz rfl) (by decide) dX4_pullOfAll_14 ?_
      refine wz_iload_n C rfl rfl dX4_pullOfAll_17 ?_
      refine wz_iconst C dX4_pullOfAll_18 ?_
      refine wz_imul C dX4_pullOfAll_19 ?_
      refine wz_iload_n C rfl rfl dX4_pullOfAll_20 ?_
      refine wz_iadd C dX4_pullOfAll_21 ?_
      refine wm_callSN C (As := [.ref (kadr G 119), .int (iZ ((l1 * 4) + l3))]) (st := [.int (iZ l2)]) (a' := 0) (b' := 0) (host := "ShareGraph") (k_X11_at G hG 119 ((l1 * 4) + l3) I J _ h) 2 gX4_pullOfAll_X11_at_n65 (by decide +kernel) (by decide +kernel) (by decide +kernel) rfl (by decide +kernel) (by rw [hX]; exact ⟨Nat.le_of_ble_eq_true rfl, Nat.le_of_ble_eq_true rfl⟩) rfl (Nat.le_of_ble_eq_true rfl) rfl rfl rfl dX4_pullOfAll_22 (kk_sI (fun v3 I3 J3 h => ?_))
      refine wz_iadd C dX4_pullOfAll_25 ?_
      refine wz_istore_2 C rfl dX4_pullOfAll_26 ?_
      refine wz_iinc_3 C rfl dX4_pullOfAll_27 ?_
      refine wz_goto C dX4_pullOfAll_30 (tgt := 4) (by decide) ?_
      exact w4 (l2 + v3) (l3 + 1) I3 J3 h
set_option maxHeartbeats 4000000 in
set_option maxRecDepth 100000 in
theorem k_X4_pullOfAll (G : KG) (hG : KokC G) (l1 : Int) (I : Ii) (J : Jj) (Q : Int → Ii → Jj → Prop) (h : wp_X4_pullOfAll l1 I J Q) : Ctr G yX4_pullOfAll wsX4_pullOfAll rm_X4_pullOfAll [.ref (kadr G 113), .int (iZ l1)] (I, J) (QsI Q) := by
  unfold wp_X4_pullOfAll at h
  skip
  refine Ctr.ofZ (cc := cX4_pullOfAll) (nL := 4) (ret := (some .int)) [some (.ref (kadr G 113)), some (.int (iZ l1)), none, none] hG.1 (by decide +kernel) rfl (Nat.le_of_ble_eq_true rfl) (Nat.le_of_ble_eq_true rfl) (by simp [lvA, lv_args, Value.category]) ?_
  intro X hX C
  have hz := hG.2
  refine wz_iconst C dX4_pullOfAll_0 ?_
  refine wz_istore_2 C rfl dX4_pullOfAll_1 ?_
  refine wz_iconst C dX4_pullOfAll_2 ?_
  refine wz_istore_3 C rfl dX4_pullOfAll_3 ?_
  obtain ⟨n, h⟩ := h
  exact lk_X4_pullOfAll_4 G hG X hX C l1 Q n 0 0 I J h
theorem in_X4_gainOf_X4 : ∀ w ∈ wsX40, w ∈ wsX4_gainOf := by decide +kernel
theorem f_X4_gainOf_27 : FLk wsX4_gainOf RX4 27 7 11 := flk 7 11 rfl tyX4_ok nmX4 in_X4_gainOf_X4 (by decide) (by decide +kernel)
theorem f_X4_gainOf_18 : FLk wsX4_gainOf RX4 18 7 8 := flk 7 8 rfl tyX4_ok nmX4 in_X4_gainOf_X4 (by decide) (by decide +kernel)
def rm_X4_gainOf : Room := { frames := 1, cells := 0, slots := 0, locals := 21 }
set_option maxHeartbeats 4000000 in
set_option maxRecDepth 100000 in
theorem k_X4_gainOf (G : KG) (hG : KokC G) (l1 : Int) (l2 : Int) (I : Ii) (J : Jj) (Q : Int → Ii → Jj → Prop) (h : wp_X4_gainOf l1 l2 I J Q) : Ctr G yX4_gainOf wsX4_gainOf rm_X4_gainOf [.ref (kadr G 113), .int (iZ l1), .int (iZ l2)] (I, J) (QsI Q) := by
  unfold wp_X4_gainOf at h
  skip
  refine Ctr.ofZ (cc := cX4_gainOf) (nL := 4) (ret := (some .int)) [some (.ref (kadr G 113)), some (.int (iZ l1)), some (.int (iZ l2)), none] hG.1 (by decide +kernel) rfl (Nat.le_of_ble_eq_true rfl) (Nat.le_of_ble_eq_true rfl) (by simp [lvA, lv_args, Value.category]) ?_
  intro X hX C
  have hz := hG.2
  refine wz_iload_n C rfl rfl dX4_gainOf_0 ?_
  refine wz_iconst C dX4_gainOf_1 ?_
  refine wz_imul C dX4_gainOf_2 ?_
  refine wz_istore_3 C rfl dX4_gainOf_3 ?_
  refine wz_aload_n C rfl rfl dX4_gainOf_4 ?_
  refine wz_getR C (j := 119) f_X4_gainOf_27 (sOc hz rfl) (by decide) dX4_gainOf_5 ?_
  refine wz_iload_n C rfl rfl dX4_gainOf_8 ?_
  refine wz_iload_n C rfl rfl dX4_gainOf_9 ?_
  refine wz_iadd C dX4_gainOf_10 ?_
  refine wm_callSN C (As := [.ref (kadr G 119), .int (iZ ((l1 * 4) + l2))]) (st := []) (a' := 0) (b' := 0) (host := "ShareGraph") (k_X11_at G hG 119 ((l1 * 4) + l2) I J _ h) 2 gX4_gainOf_X11_at_n65 (by decide +kernel) (by decide +kernel) (by decide +kernel) rfl (by decide +kernel) (by rw [hX]; exact ⟨Nat.le_of_ble_eq_true rfl, Nat.le_of_ble_eq_true rfl⟩) rfl (Nat.le_of_ble_eq_true rfl) rfl rfl rfl dX4_gainOf_11 (kk_sI (fun v1 I1 J1 h => ?_))
  refine wz_aload_n C rfl rfl dX4_gainOf_14 ?_
  refine wz_getR C (j := 119) f_X4_gainOf_27 (sOc hz rfl) (by decide) dX4_gainOf_15 ?_
  refine wz_iload_n C rfl rfl dX4_gainOf_18 ?_
  refine wz_aload_n C rfl rfl dX4_gainOf_19 ?_
  refine wz_getR C (j := 116) f_X4_gainOf_18 (sOc hz rfl) (by decide) dX4_gainOf_20 ?_
  refine wz_iload_n C rfl rfl dX4_gainOf_23 ?_
  refine wm_callSN C (As := [.ref (kadr G 116), .int (iZ l1)]) (st := [.int (iZ (l1 * 4)), .ref (kadr G 119), .int (iZ v1)]) (a' := 0) (b' := 0) (host := "ShareGraph") (k_X11_at G hG 116 l1 I1 J1 _ h) 2 gX4_gainOf_X11_at_n65 (by decide +kernel) (by decide +kernel) (by decide +kernel) rfl (by decide +kernel) (by rw [hX]; exact ⟨Nat.le_of_ble_eq_true rfl, Nat.le_of_ble_eq_true rfl⟩) rfl (Nat.le_of_ble_eq_true rfl) rfl rfl rfl dX4_gainOf_24 (kk_sI (fun v2 I2 J2 h => ?_))
  refine wz_iadd C dX4_gainOf_27 ?_
  refine wm_callSN C (As := [.ref (kadr G 119), .int (iZ ((l1 * 4) + v2))]) (st := [.int (iZ v1)]) (a' := 0) (b' := 0) (host := "ShareGraph") (k_X11_at G hG 119 ((l1 * 4) + v2) I2 J2 _ h) 2 gX4_gainOf_X11_at_n65 (by decide +kernel) (by decide +kernel) (by decide +kernel) rfl (by decide +kernel) (by rw [hX]; exact ⟨Nat.le_of_ble_eq_true rfl, Nat.le_of_ble_eq_true rfl⟩) rfl (Nat.le_of_ble_eq_true rfl) rfl rfl rfl dX4_gainOf_28 (kk_sI (fun v3 I3 J3 h => ?_))
  refine wz_isub C dX4_gainOf_31 ?_
  exact wz_iret C dX4_gainOf_32 ⟨_, rfl, h⟩
theorem in_X4_debtsWith_X4 : ∀ w ∈ wsX40, w ∈ wsX4_debtsWith := by decide +kernel
theorem f_X4_debtsWith_18 : FLk wsX4_debtsWith RX4 18 7 8 := flk 7 8 rfl tyX4_ok nmX4 in_X4_debtsWith_X4 (by decide) (by decide +kernel)
theorem f_X4_debtsWith_15 : FLk wsX4_debtsWith RX4 15 7 7 := flk 7 7 rfl tyX4_ok nmX4 in_X4_debtsWith_X4 (by decide) (by decide +kernel)
theorem f_X4_debtsWith_24 : FLk wsX4_debtsWith RX4 24 7 10 := flk 7 10 rfl tyX4_ok nmX4 in_X4_debtsWith_X4 (by decide) (by decide +kernel)
theorem f_X4_debtsWith_62 : FLk wsX4_debtsWith RX4 62 7 4 := flk 7 4 rfl tyX4_ok nmX4 in_X4_debtsWith_X4 (by decide) (by decide +kernel)
def rm_X4_debtsWith : Room := { frames := 1, cells := 0, slots := 0, locals := 21 }
set_option maxHeartbeats 4000000 in
set_option maxRecDepth 100000 in
theorem k_X4_debtsWith (G : KG) (hG : KokC G) (l1 : Int) (l2 : Int) (I : Ii) (J : Jj) (Q : Int → Ii → Jj → Prop) (h : wp_X4_debtsWith l1 l2 I J Q) : Ctr G yX4_debtsWith wsX4_debtsWith rm_X4_debtsWith [.ref (kadr G 113), .int (iZ l1), .int (iZ l2)] (I, J) (QsI Q) := by
  unfold wp_X4_debtsWith at h
  skip
  refine Ctr.ofZ (cc := cX4_debtsWith) (nL := 7) (ret := (some .int)) [some (.ref (kadr G 113)), some (.int (iZ l1)), some (.int (iZ l2)), none, none, none, none] hG.1 (by decide +kernel) rfl (Nat.le_of_ble_eq_true rfl) (Nat.le_of_ble_eq_true rfl) (by simp [lvA, lv_args, Value.category]) ?_
  intro X hX C
  have hz := hG.2
  refine wz_aload_n C rfl rfl dX4_debtsWith_0 ?_
  refine wz_getR C (j := 116) f_X4_debtsWith_18 (sOc hz rfl) (by decide) dX4_debtsWith_1 ?_
  refine wz_iload_n C rfl rfl dX4_debtsWith_4 ?_
  refine wm_callSN C (As := [.ref (kadr G 116), .int (iZ l1)]) (st := []) (a' := 0) (b' := 0) (host := "ShareGraph") (k_X11_at G hG 116 l1 I J _ h) 2 gX4_debtsWith_X11_at_n65 (by decide +kernel) (by decide +kernel) (by decide +kernel) rfl (by decide +kernel) (by rw [hX]; exact ⟨Nat.le_of_ble_eq_true rfl, Nat.le_of_ble_eq_true rfl⟩) rfl (Nat.le_of_ble_eq_true rfl) rfl rfl rfl dX4_debtsWith_5 (kk_sI (fun v1 I1 J1 h => ?_))
  refine wz_istore_3 C rfl dX4_debtsWith_8 ?_
  refine wz_iload_n C rfl rfl dX4_debtsWith_9 ?_
  refine wz_iload_n C rfl rfl dX4_debtsWith_10 ?_
  obtain ⟨g2, h⟩ := h
  obtain ⟨g3, h⟩ := h
  refine wz_icmp_ne C (tgt := 19) g2 g3 dX4_debtsWith_11 (by decide) (fun c => ?_) (fun c => ?_)
  · replace h := h.1 c
    refine wz_aload_n C rfl rfl dX4_debtsWith_19 ?_
    refine wz_getR C (j := 115) f_X4_debtsWith_15 (sOc hz rfl) (by decide) dX4_debtsWith_20 ?_
    refine wz_iload_n C rfl rfl dX4_debtsWith_23 ?_
    refine wm_callSN C (As := [.ref (kadr G 115), .int (iZ l1)]) (st := []) (a' := 0) (b' := 0) (host := "ShareGraph") (k_X11_at G hG 115 l1 I1 J1 _ h) 2 gX4_debtsWith_X11_at_n65 (by decide +kernel) (by decide +kernel) (by decide +kernel) rfl (by decide +kernel) (by rw [hX]; exact ⟨Nat.le_of_ble_eq_true rfl, Nat.le_of_ble_eq_true rfl⟩) rfl (Nat.le_of_ble_eq_true rfl) rfl rfl rfl dX4_debtsWith_24 (kk_sI (fun v4 I4 J4 h => ?_))
    refine wz_istore_4 C rfl dX4_debtsWith_27 ?_
    refine wz_aload_n C rfl rfl dX4_debtsWith_29 ?_
    refine wz_getR C (j := 118) f_X4_debtsWith_24 (sOc hz rfl) (by decide) dX4_debtsWith_30 ?_
    refine wz_iload_n C rfl rfl dX4_debtsWith_33 ?_
    refine wm_callSN C (As := [.ref (kadr G 118), .int (iZ v1)]) (st := []) (a' := 0) (b' := 0) (host := "ShareGraph") (k_X11_at G hG 118 v1 I4 J4 _ h) 2 gX4_debtsWith_X11_at_n65 (by decide +kernel) (by decide +kernel) (by decide +kernel) rfl (by decide +kernel) (by rw [hX]; exact ⟨Nat.le_of_ble_eq_true rfl, Nat.le_of_ble_eq_true rfl⟩) rfl (Nat.le_of_ble_eq_true rfl) rfl rfl rfl dX4_debtsWith_34 (kk_sI (fun v5 I5 J5 h => ?_))
    refine wz_istore_5 C rfl dX4_debtsWith_37 ?_
    refine wz_aload_n C rfl rfl dX4_debtsWith_39 ?_
    refine wz_getR C (j := 118) f_X4_debtsWith_24 (sOc hz rfl) (by decide) dX4_debtsWith_40 ?_
    refine wz_iload_n C rfl rfl dX4_debtsWith_43 ?_
    refine wm_callSN C (As := [.ref (kadr G 118), .int (iZ l2)]) (st := []) (a' := 0) (b' := 0) (host := "ShareGraph") (k_X11_at G hG 118 l2 I5 J5 _ h) 2 gX4_debtsWith_X11_at_n65 (by decide +kernel) (by decide +kernel) (by decide +kernel) rfl (by decide +kernel) (by rw [hX]; exact ⟨Nat.le_of_ble_eq_true rfl, Nat.le_of_ble_eq_true rfl⟩) rfl (Nat.le_of_ble_eq_true rfl) rfl rfl rfl dX4_debtsWith_44 (kk_sI (fun v6 I6 J6 h => ?_))
    refine wz_istore_6 C rfl dX4_debtsWith_47 ?_
    refine wz_aload_n C rfl rfl dX4_debtsWith_49 ?_
    refine wz_getI C rfl f_X4_debtsWith_62 (sOc hz rfl) dX4_debtsWith_50 ?_
    refine wz_aload_n C rfl rfl dX4_debtsWith_53 ?_
    refine wz_iload C rfl dX4_debtsWith_54 ?_
    refine wm_callV C (o := 113) (As := [.int (iZ v5)]) (st := [.int (iZ (I6 113 4))]) (a' := 0) (b' := 0) (shK_c hz rfl) rfl (k_X4_debtAt G hG v5 I6 J6 _ h) 1 gX4_debtsWith_X4_debtAt rfl (by decide +kernel) (by rw [hX]; exact ⟨Nat.le_of_ble_eq_true rfl, Nat.le_of_ble_eq_true rfl⟩) rfl (Nat.le_of_ble_eq_true rfl) rfl rfl rfl dX4_debtsWith_56 (kk_sI (fun v7 I7 J7 h => ?_))
    refine wz_isub C dX4_debtsWith_59 ?_
    refine wz_aload_n C rfl rfl dX4_debtsWith_60 ?_
    refine wz_iload C rfl dX4_debtsWith_61 ?_
    refine wm_callV C (o := 113) (As := [.int (iZ v6)]) (st := [.int (iZ ((I6 113 4) - v7))]) (a' := 0) (b' := 0) (shK_c hz rfl) rfl (k_X4_debtAt G hG v6 I7 J7 _ h) 1 gX4_debtsWith_X4_debtAt rfl (by decide +kernel) (by rw [hX]; exact ⟨Nat.le_of_ble_eq_true rfl, Nat.le_of_ble_eq_true rfl⟩) rfl (Nat.le_of_ble_eq_true rfl) rfl rfl rfl dX4_debtsWith_63 (kk_sI (fun v8 I8 J8 h => ?_))
    refine wz_isub C dX4_debtsWith_66 ?_
    refine wz_aload_n C rfl rfl dX4_debtsWith_67 ?_
    refine wz_iload C rfl dX4_debtsWith_68 ?_
    refine wz_iload C rfl dX4_debtsWith_70 ?_
    refine wz_isub C dX4_debtsWith_72 ?_
    refine wm_callV C (o := 113) (As := [.int (iZ (v5 - v4))]) (st := [.int (iZ (((I6 113 4) - v7) - v8))]) (a' := 0) (b' := 0) (shK_c hz rfl) rfl (k_X4_debtAt G hG (v5 - v4) I8 J8 _ h) 1 gX4_debtsWith_X4_debtAt rfl (by decide +kernel) (by rw [hX]; exact ⟨Nat.le_of_ble_eq_true rfl, Nat.le_of_ble_eq_true rfl⟩) rfl (Nat.le_of_ble_eq_true rfl) rfl rfl rfl dX4_debtsWith_73 (kk_sI (fun v9 I9 J9 h => ?_))
    refine wz_iadd C dX4_debtsWith_76 ?_
    refine wz_aload_n C rfl rfl dX4_debtsWith_77 ?_
    refine wz_iload C rfl dX4_debtsWith_78 ?_
    refine wz_iload C rfl dX4_debtsWith_80 ?_
    refine wz_iadd C dX4_debtsWith_82 ?_
    refine wm_callV C (o := 113) (As := [.int (iZ (v6 + v4))]) (st := [.int (iZ ((((I6 113 4) - v7) - v8) + v9))]) (a' := 0) (b' := 0) (shK_c hz rfl) rfl (k_X4_debtAt G hG (v6 + v4) I9 J9 _ h) 1 gX4_debtsWith_X4_debtAt rfl (by decide +kernel) (by rw [hX]; exact ⟨Nat.le_of_ble_eq_true rfl, Nat.le_of_ble_eq_true rfl⟩) rfl (Nat.le_of_ble_eq_true rfl) rfl rfl rfl dX4_debtsWith_83 (kk_sI (fun v10 I10 J10 h => ?_))
    refine wz_iadd C dX4_debtsWith_86 ?_
    exact wz_iret C dX4_debtsWith_87 ⟨_, rfl, h⟩
  · replace h := h.2 c
    refine wz_aload_n C rfl rfl dX4_debtsWith_14 ?_
    refine wz_getI C rfl f_X4_debtsWith_62 (sOc hz rfl) dX4_debtsWith_15 ?_
    exact wz_iret C dX4_debtsWith_18 ⟨_, rfl, h⟩
theorem in_X4_reasonAgainst_X4 : ∀ w ∈ wsX40, w ∈ wsX4_reasonAgainst := by decide +kernel
theorem f_X4_reasonAgainst_18 : FLk wsX4_reasonAgainst RX4 18 7 8 := flk 7 8 rfl tyX4_ok nmX4 in_X4_reasonAgainst_X4 (by decide) (by decide +kernel)
def rm_X4_reasonAgainst : Room := { frames := 2, cells := 0, slots := 0, locals := 47 }
set_option maxHeartbeats 4000000 in
set_option maxRecDepth 100000 in
theorem k_X4_reasonAgainst (G : KG) (hG : KokC G) (l1 : Int) (l2 : Int) (I : Ii) (J : Jj) (Q : Int → Ii → Jj → Prop) (h : wp_X4_reasonAgainst l1 l2 I J Q) : Ctr G yX4_reasonAgainst wsX4_reasonAgainst rm_X4_reasonAgainst [.ref (kadr G 113), .int (iZ l1), .int (iZ l2)] (I, J) (QsI Q) := by
  unfold wp_X4_reasonAgainst at h
  skip
  refine Ctr.ofZ (cc := cX4_reasonAgainst) (nL := 3) (ret := (some .int)) [some (.ref (kadr G 113)), some (.int (iZ l1)), some (.int (iZ l2))] hG.1 (by decide +kernel) rfl (Nat.le_of_ble_eq_true rfl) (Nat.le_of_ble_eq_true rfl) (by simp [lvA, lv_args, Value.category]) ?_
  intro X hX C
  have hz := hG.2
  refine wz_aload_n C rfl rfl dX4_reasonAgainst_0 ?_
  refine wz_getR C (j := 116) f_X4_reasonAgainst_18 (sOc hz rfl) (by decide) dX4_reasonAgainst_1 ?_
  refine wz_iload_n C rfl rfl dX4_reasonAgainst_4 ?_
  refine wm_callSN C (As := [.ref (kadr G 116), .int (iZ l1)]) (st := []) (a' := 0) (b' := 0) (host := "ShareGraph") (k_X11_at G hG 116 l1 I J _ h) 2 gX4_reasonAgainst_X11_at_n65 (by decide +kernel) (by decide +kernel) (by decide +kernel) rfl (by decide +kernel) (by rw [hX]; exact ⟨Nat.le_of_ble_eq_true rfl, Nat.le_of_ble_eq_true rfl⟩) rfl (Nat.le_of_ble_eq_true rfl) rfl rfl rfl dX4_reasonAgainst_5 (kk_sI (fun v1 I1 J1 h => ?_))
  refine wz_iload_n C rfl rfl dX4_reasonAgainst_8 ?_
  obtain ⟨g2, h⟩ := h
  obtain ⟨g3, h⟩ := h
  refine wz_icmp_ne C (tgt := 14) g2 g3 dX4_reasonAgainst_9 (by decide) (fun c => ?_) (fun c => ?_)
  · replace h := h.1 c
    refine wz_aload_n C rfl rfl dX4_reasonAgainst_14 ?_
    refine wz_aload_n C rfl rfl dX4_reasonAgainst_15 ?_
    refine wz_iload_n C rfl rfl dX4_reasonAgainst_16 ?_
    refine wz_iload_n C rfl rfl dX4_reasonAgainst_17 ?_
    refine wm_callV C (o := 113) (As := [.int (iZ l1), .int (iZ l2)]) (st := [.ref (kadr G 113)]) (a' := 0) (b' := 0) (shK_c hz rfl) rfl (k_X4_debtsWith G hG l1 l2 I1 J1 _ h) 2 gX4_reasonAgainst_X4_debtsWith rfl (by decide +kernel) (by rw [hX]; exact ⟨Nat.le_of_ble_eq_true rfl, Nat.le_of_ble_eq_true rfl⟩) rfl (Nat.le_of_ble_eq_true rfl) rfl rfl rfl dX4_reasonAgainst_18 (kk_sI (fun v4 I4 J4 h => ?_))
    refine wm_callV C (o := 113) (As := [.int (iZ v4)]) (st := []) (a' := 0) (b' := 0) (shK_c hz rfl) rfl (k_X4_isTooMuch G hG v4 I4 J4 _ h) 1 gX4_reasonAgainst_X4_isTooMuch rfl (by decide +kernel) (by rw [hX]; exact ⟨Nat.le_of_ble_eq_true rfl, Nat.le_of_ble_eq_true rfl⟩) rfl (Nat.le_of_ble_eq_true rfl) rfl rfl rfl dX4_reasonAgainst_21 (kk_sB (fun v5 I5 J5 hb5 h => ?_))
    refine wz_if_eq C (tgt := 31) (rgB hb5) dX4_reasonAgainst_24 (by decide) (fun c => ?_) (fun c => ?_)
    · replace h := h.1 c
      refine wz_iconst C dX4_reasonAgainst_31 ?_
      exact wz_iret C dX4_reasonAgainst_32 ⟨_, rfl, h⟩
    · replace h := h.2 c
      refine wz_iconst C dX4_reasonAgainst_27 ?_
      refine wz_goto C dX4_reasonAgainst_28 (tgt := 32) (by decide) ?_
      exact wz_iret C dX4_reasonAgainst_32 ⟨_, rfl, h⟩
  · replace h := h.2 c
    refine wz_iconst C dX4_reasonAgainst_12 ?_
    exact wz_iret C dX4_reasonAgainst_13 ⟨_, rfl, h⟩
