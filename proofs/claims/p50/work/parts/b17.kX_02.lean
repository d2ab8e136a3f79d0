theorem in_X1_fillRooms_X1 : ∀ w ∈ wsX10, w ∈ wsX1_fillRooms := by decide +kernel
theorem in_X1_fillRooms_X2 : ∀ w ∈ wsX20, w ∈ wsX1_fillRooms := by decide +kernel
theorem f_X1_fillRooms_38 : FLk wsX1_fillRooms RX1 38 5 0 := flk 5 0 rfl tyX2_ok nmX2 in_X1_fillRooms_X2 (by decide) (by decide +kernel)
theorem f_X1_fillRooms_43 : FLk wsX1_fillRooms RX1 43 4 3 := flk 4 3 rfl tyX1_ok nmX1 in_X1_fillRooms_X1 (by decide) (by decide +kernel)
theorem fp_X1_3 : FPk 4 3 .int := fun C9 T9 N9 h => by
  have h : some (RX1, TX1, 6) = some (C9, T9, N9) := h
  cases h
  exact ⟨rfl, by decide +kernel⟩
theorem f_X1_fillRooms_9 : FLk wsX1_fillRooms RX1 9 4 0 := flk 4 0 rfl tyX1_ok nmX1 in_X1_fillRooms_X1 (by decide) (by decide +kernel)
theorem f_X1_fillRooms_50 : FLk wsX1_fillRooms RX1 50 5 1 := flk 5 1 rfl tyX2_ok nmX2 in_X1_fillRooms_X2 (by decide) (by decide +kernel)
theorem f_X1_fillRooms_53 : FLk wsX1_fillRooms RX1 53 5 9 := flk 5 9 rfl tyX2_ok nmX2 in_X1_fillRooms_X2 (by decide) (by decide +kernel)
theorem f_X1_fillRooms_60 : FLk wsX1_fillRooms RX1 60 5 10 := flk 5 10 rfl tyX2_ok nmX2 in_X1_fillRooms_X2 (by decide) (by decide +kernel)
theorem f_X1_fillRooms_63 : FLk wsX1_fillRooms RX1 63 5 11 := flk 5 11 rfl tyX2_ok nmX2 in_X1_fillRooms_X2 (by decide) (by decide +kernel)
def rm_X1_fillRooms : Room := { frames := 1, cells := 0, slots := 0, locals := 23 }
set_option maxHeartbeats 4000000 in
set_option maxRecDepth 100000 in
theorem lk_X1_fillRooms_18 (G : KG) (hG : KokC G) (X : KX) (hX : KR X = rm_X1_fillRooms) (C : Fr G X cX1_fillRooms 5 yX1_fillRooms.cls none wsX1_fillRooms) (k1 : Nat) (hk1 : gK k1) (Q : Ii → Jj → Prop) : ∀ (n : Nat) (l2 : Int) (I : Ii) (J : Jj), L_X1_fillRooms_18 k1 Q n l2 I J → Wz G X 5 (QsU G X (QsV Q)) 0 0 18 [some (.ref (kadr G 128)), some (.ref (kadr G k1)), some (.int (iZ l2)), none, none] [] I J := by
  have hz := hG.2
  intro n
  induction n with
  | zero => intro l2 I J h; exact False.elim h
  | succ n w18 =>
    intro l2 I J h
    have h : Lb_X1_fillRooms_18 k1 Q (L_X1_fillRooms_18 k1 Q n) l2 I J := h
    unfold Lb_X1_fillRooms_18 at h
    generalize L_X1_fillRooms_18 k1 Q n = r18 at h w18
    refine wz_iload_n C rfl rfl dX1_fillRooms_18 ?_
    refine wz_aload_n C rfl rfl dX1_fillRooms_19 ?_
    refine wz_getI C rfl f_X1_fillRooms_50 (sOc hz (soX2_1 hk1)) dX1_fillRooms_20 ?_
    obtain ⟨g3, h⟩ := h
    obtain ⟨g4, h⟩ := h
    refine wz_icmp_ge C (tgt := 95) g3 g4 dX1_fillRooms_23 (by decide) (fun c => ?_) (fun c => ?_)
    · replace h := h.1 c
      exact wz_vret C dX1_fillRooms_95 ⟨rfl, h⟩
    · replace h := h.2 c
      refine wz_aload_n C rfl rfl dX1_fillRooms_26 ?_
      refine wz_getR C (j := k1 + 3) f_X1_fillRooms_53 (sOc hz (soX2_9 hk1)) (by have := gK_ge hk1; omega) dX1_fillRooms_27 ?_
      refine wz_iload_n C rfl rfl dX1_fillRooms_30 ?_
      refine wm_callSN C (As := [.ref (kadr G (k1 + 3)), .int (iZ l2)]) (st := []) (a' := 0) (b' := 0) (host := "ShareGraph") (k_X11_at G hG (k1 + 3) l2 I J _ h) 2 gX1_fillRooms_X11_at_n56 (by decide +kernel) (by decide +kernel) (by decide +kernel) rfl (by decide +kernel) (by rw [hX]; exact ⟨Nat.le_of_ble_eq_true rfl, Nat.le_of_ble_eq_true rfl⟩) rfl (Nat.le_of_ble_eq_true rfl) rfl rfl rfl dX1_fillRooms_31 (kk_sI (fun v5 I5 J5 h => ?_))
      refine wz_istore_3 C rfl dX1_fillRooms_34 ?_
      refine wz_aload_n C rfl rfl dX1_fillRooms_35 ?_
      refine wz_getR C (j := k1 + 4) f_X1_fillRooms_60 (sOc hz (soX2_10 hk1)) (by have := gK_ge hk1; omega) dX1_fillRooms_36 ?_
      refine wz_iload_n C rfl rfl dX1_fillRooms_39 ?_
      refine wm_callSN C (As := [.ref (kadr G (k1 + 4)), .int (iZ l2)]) (st := []) (a' := 0) (b' := 0) (host := "ShareGraph") (k_X11_at G hG (k1 + 4) l2 I5 J5 _ h) 2 gX1_fillRooms_X11_at_n56 (by decide +kernel) (by decide +kernel) (by decide +kernel) rfl (by decide +kernel) (by rw [hX]; exact ⟨Nat.le_of_ble_eq_true rfl, Nat.le_of_ble_eq_true rfl⟩) rfl (Nat.le_of_ble_eq_true rfl) rfl rfl rfl dX1_fillRooms_40 (kk_sI (fun v6 I6 J6 h => ?_))
      refine wz_istore_4 C rfl dX1_fillRooms_43 ?_
      refine wz_aload_n C rfl rfl dX1_fillRooms_45 ?_
      refine wz_getR C (j := 129) f_X1_fillRooms_9 (sOc hz rfl) (by decide) dX1_fillRooms_46 ?_
      refine wz_iload_n C rfl rfl dX1_fillRooms_49 ?_
      refine wz_bipush C (by decide) dX1_fillRooms_50 ?_
      refine wz_imul C dX1_fillRooms_52 ?_
      refine wz_iload C rfl dX1_fillRooms_53 ?_
      refine wz_iadd C dX1_fillRooms_55 ?_
      refine wz_aload_n C rfl rfl dX1_fillRooms_56 ?_
      refine wz_getR C (j := k1 + 5) f_X1_fillRooms_63 (sOc hz (soX2_11 hk1)) (by have := gK_ge hk1; omega) dX1_fillRooms_57 ?_
      refine wz_iload_n C rfl rfl dX1_fillRooms_60 ?_
      refine wm_callSN C (As := [.ref (kadr G (k1 + 5)), .int (iZ l2)]) (st := [.int (iZ ((v5 * 14) + v6)), .ref (kadr G 129)]) (a' := 0) (b' := 0) (host := "ShareGraph") (k_X11_at G hG (k1 + 5) l2 I6 J6 _ h) 2 gX1_fillRooms_X11_at_n56 (by decide +kernel) (by decide +kernel) (by decide +kernel) rfl (by decide +kernel) (by rw [hX]; exact ⟨Nat.le_of_ble_eq_true rfl, Nat.le_of_ble_eq_true rfl⟩) rfl (Nat.le_of_ble_eq_true rfl) rfl rfl rfl dX1_fillRooms_61 (kk_sI (fun v7 I7 J7 h => ?_))
      refine wm_callSN C (As := [.ref (kadr G 129), .int (iZ ((v5 * 14) + v6)), .int (iZ v7)]) (st := []) (a' := 0) (b' := 0) (host := "ShareGraph") (k_X11_add G hG 129 ((v5 * 14) + v6) v7 I7 J7 _ h) 3 gX1_fillRooms_X11_add_n66 (by decide +kernel) (by decide +kernel) (by decide +kernel) rfl (by decide +kernel) (by rw [hX]; exact ⟨Nat.le_of_ble_eq_true rfl, Nat.le_of_ble_eq_true rfl⟩) rfl (Nat.le_of_ble_eq_true rfl) rfl rfl rfl dX1_fillRooms_64 (kk_sV (fun I8 J8 h => ?_))
      refine wz_aload_n C rfl rfl dX1_fillRooms_67 ?_
      refine wz_getR C (j := 129) f_X1_fillRooms_9 (sOc hz rfl) (by decide) dX1_fillRooms_68 ?_
      refine wz_iload C rfl dX1_fillRooms_71 ?_
      refine wz_bipush C (by decide) dX1_fillRooms_73 ?_
      refine wz_imul C dX1_fillRooms_75 ?_
      refine wz_iload_n C rfl rfl dX1_fillRooms_76 ?_
      refine wz_iadd C dX1_fillRooms_77 ?_
      refine wz_aload_n C rfl rfl dX1_fillRooms_78 ?_
      refine wz_getR C (j := k1 + 5) f_X1_fillRooms_63 (sOc hz (soX2_11 hk1)) (by have := gK_ge hk1; omega) dX1_fillRooms_79 ?_
      refine wz_iload_n C rfl rfl dX1_fillRooms_82 ?_
      refine wm_callSN C (As := [.ref (kadr G (k1 + 5)), .int (iZ l2)]) (st := [.int (iZ ((v6 * 14) + v5)), .ref (kadr G 129)]) (a' := 0) (b' := 0) (host := "ShareGraph") (k_X11_at G hG (k1 + 5) l2 I8 J8 _ h) 2 gX1_fillRooms_X11_at_n56 (by decide +kernel) (by decide +kernel) (by decide +kernel) rfl (by decide +kernel) (by rw [hX]; exact ⟨Nat.le_of_ble_eq_true rfl, Nat.le_of_ble_eq_true rfl⟩) rfl (Nat.le_of_ble_eq_true rfl) rfl rfl rfl dX1_fillRooms_83 (kk_sI (fun v9 I9 J9 h => ?_))
      refine wm_callSN C (As := [.ref (kadr G 129), .int (iZ ((v6 * 14) + v5)), .int (iZ v9)]) (st := []) (a' := 0) (b' := 0) (host := "ShareGraph") (k_X11_add G hG 129 ((v6 * 14) + v5) v9 I9 J9 _ h) 3 gX1_fillRooms_X11_add_n66 (by decide +kernel) (by decide +kernel) (by decide +kernel) rfl (by decide +kernel) (by rw [hX]; exact ⟨Nat.le_of_ble_eq_true rfl, Nat.le_of_ble_eq_true rfl⟩) rfl (Nat.le_of_ble_eq_true rfl) rfl rfl rfl dX1_fillRooms_86 (kk_sV (fun I10 J10 h => ?_))
      refine wz_iinc_2 C rfl dX1_fillRooms_89 ?_
      refine wz_goto C dX1_fillRooms_92 (tgt := 18) (by decide) ?_
      exact Wz.drop (w18 (l2 + 1) I10 J10 h) (And.intro rfl (And.intro rfl (And.intro rfl trivial)))
set_option maxHeartbeats 4000000 in
set_option maxRecDepth 100000 in
theorem k_X1_fillRooms (G : KG) (hG : KokC G) (k1 : Nat) (I : Ii) (J : Jj) (Q : Ii → Jj → Prop) (h : wp_X1_fillRooms k1 I J Q) : Ctr G yX1_fillRooms wsX1_fillRooms rm_X1_fillRooms [.ref (kadr G 128), .ref (kadr G k1)] (I, J) (QsV Q) := by
  unfold wp_X1_fillRooms at h
  obtain ⟨hk1, h⟩ := h
  refine Ctr.ofZ (cc := cX1_fillRooms) (nL := 5) (ret := none) [some (.ref (kadr G 128)), some (.ref (kadr G k1)), none, none, none] hG.1 (by decide +kernel) rfl (Nat.le_of_ble_eq_true rfl) (Nat.le_of_ble_eq_true rfl) (by simp [lvA, lv_args, Value.category]) ?_
  intro X hX C
  have hz := hG.2
  refine wz_aload_n C rfl rfl dX1_fillRooms_0 ?_
  refine wz_aload_n C rfl rfl dX1_fillRooms_1 ?_
  refine wz_getI C rfl f_X1_fillRooms_38 (sOc hz (soX2_0 hk1)) dX1_fillRooms_2 ?_
  refine wd_putI C f_X1_fillRooms_43 fp_X1_3 (sOc hz rfl) dX1_fillRooms_5 (fun I1 e => ?_)
  replace h := h I1 e
  refine wz_aload_n C rfl rfl dX1_fillRooms_8 ?_
  refine wz_getR C (j := 129) f_X1_fillRooms_9 (sOc hz rfl) (by decide) dX1_fillRooms_9 ?_
  refine wz_iconst C dX1_fillRooms_12 ?_
  refine wm_callSo C (As := [.ref (kadr G 129), .int (iZ 0)]) (st := []) (a' := 0) (b' := 0) (k_J7_fill_53178 G hG 129 0 I1 J _ h) 2 (goodIn_wsS gX1_fillRooms_J7_fill_53178) (by decide +kernel) (by decide +kernel) (by decide +kernel) rfl (by decide +kernel) (by rw [hX]; exact ⟨Nat.le_of_ble_eq_true rfl, Nat.le_of_ble_eq_true rfl⟩) rfl (Nat.le_of_ble_eq_true rfl) rfl rfl rfl dX1_fillRooms_13 (kk_sV (fun I2 J2 h => ?_))
  refine wz_iconst C dX1_fillRooms_16 ?_
  refine wz_istore_2 C rfl dX1_fillRooms_17 ?_
  obtain ⟨n, h⟩ := h
  exact lk_X1_fillRooms_18 G hG X hX C k1 hk1 Q n 0 I2 J2 h
theorem in_X1_findWay_X1 : ∀ w ∈ wsX10, w ∈ wsX1_findWay := by decide +kernel
theorem f_X1_findWay_70 : FLk wsX1_findWay RX1 70 4 5 := flk 4 5 rfl tyX1_ok nmX1 in_X1_findWay_X1 (by decide) (by decide +kernel)
theorem fp_X1_5 : FPk 4 5 .int := fun C9 T9 N9 h => by
  have h : some (RX1, TX1, 6) = some (C9, T9, N9) := h
  cases h
  exact ⟨rfl, by decide +kernel⟩
theorem f_X1_findWay_15 : FLk wsX1_findWay RX1 15 4 1 := flk 4 1 rfl tyX1_ok nmX1 in_X1_findWay_X1 (by decide) (by decide +kernel)
theorem f_X1_findWay_43 : FLk wsX1_findWay RX1 43 4 3 := flk 4 3 rfl tyX1_ok nmX1 in_X1_findWay_X1 (by decide) (by decide +kernel)
theorem f_X1_findWay_9 : FLk wsX1_findWay RX1 9 4 0 := flk 4 0 rfl tyX1_ok nmX1 in_X1_findWay_X1 (by decide) (by decide +kernel)
theorem f_X1_findWay_18 : FLk wsX1_findWay RX1 18 4 2 := flk 4 2 rfl tyX1_ok nmX1 in_X1_findWay_X1 (by decide) (by decide +kernel)
def rm_X1_findWay : Room := { frames := 1, cells := 0, slots := 0, locals := 22 }
set_option maxHeartbeats 4000000 in
set_option maxRecDepth 100000 in
theorem lk_X1_findWay_48 (G : KG) (hG : KokC G) (X : KX) (hX : KR X = rm_X1_findWay) (C : Fr G X cX1_findWay 7 yX1_findWay.cls (some .boolean) wsX1_findWay) (l1 : Int) (l2 : Int) (Q : Int → Ii → Jj → Prop) (r21 : Int → Int → Ii → Jj → Prop) (w21 : ∀ (l3 : Int) (l4 : Int) (I : Ii) (J : Jj), r21 l3 l4 I J → Wz G X 7 (QsU G X (QsB Q)) 0 0 21 [some (.ref (kadr G 128)), none, some (.int (iZ l2)), some (.int (iZ l3)), some (.int (iZ l4)), none, none] [] I J) : ∀ (n : Nat) (l3 : Int) (l4 : Int) (l5 : Int) (l6 : Int) (I : Ii) (J : Jj), L_X1_findWay_48 l1 l2 Q r21 n l3 l4 l5 l6 I J → Wz G X 7 (QsU G X (QsB Q)) 0 0 48 [some (.ref (kadr G 128)), none, some (.int (iZ l2)), some (.int (iZ l3)), some (.int (iZ l4)), some (.int (iZ l5)), some (.int (iZ l6))] [] I J := by
  have hz := hG.2
  intro n
  induction n with
  | zero => intro l3 l4 l5 l6 I J h; exact False.elim h
  | succ n w48 =>
    intro l3 l4 l5 l6 I J h
    have h : Lb_X1_findWay_48 l1 l2 Q r21 (L_X1_findWay_48 l1 l2 Q r21 n) l3 l4 l5 l6 I J := h
    unfold Lb_X1_findWay_48 at h
    generalize L_X1_findWay_48 l1 l2 Q r21 n = r48 at h w48
    refine wz_iload C rfl dX1_findWay_48 ?_
    refine wz_aload_n C rfl rfl dX1_findWay_50 ?_
    refine wz_getI C rfl f_X1_findWay_43 (sOc hz rfl) dX1_findWay_51 ?_
    obtain ⟨g7, h⟩ := h
    obtain ⟨g8, h⟩ := h
    refine wz_icmp_ge C (tgt := 130) g7 g8 dX1_findWay_54 (by decide) (fun c => ?_) (fun c => ?_)
    · replace h := h.1 c
      refine wz_iinc_4 C rfl dX1_findWay_130 ?_
      refine wz_goto C dX1_findWay_133 (tgt := 21) (by decide) ?_
      exact Wz.drop (w21 l3 (l4 + 1) I J h) (And.intro rfl (And.intro rfl (And.intro rfl (And.intro rfl trivial))))
    · replace h := h.2 c
      refine wz_aload_n C rfl rfl dX1_findWay_57 ?_
      refine wz_getI C rfl f_X1_findWay_70 (sOc hz rfl) dX1_findWay_58 ?_
      refine wz_iload C rfl dX1_findWay_61 ?_
      refine wm_callSN C (As := [.int (iZ (I 128 5)), .int (iZ l6)]) (st := []) (a' := 0) (b' := 0) (host := "ShareGraph") (k_X11_isIn G hG (I 128 5) l6 I J _ h) 2 gX1_findWay_X11_isIn_n76 (by decide +kernel) (by decide +kernel) (by decide +kernel) rfl (by decide +kernel) (by rw [hX]; exact ⟨Nat.le_of_ble_eq_true rfl, Nat.le_of_ble_eq_true rfl⟩) rfl (Nat.le_of_ble_eq_true rfl) rfl rfl rfl dX1_findWay_63 (kk_sB (fun v9 I9 J9 hb9 h => ?_))
      refine wz_if_ne C (tgt := 124) (rgB hb9) dX1_findWay_66 (by decide) (fun c => ?_) (fun c => ?_)
      · replace h := h.1 c
        refine wz_iinc_6 C rfl dX1_findWay_124 ?_
        refine wz_goto C dX1_findWay_127 (tgt := 48) (by decide) ?_
        exact w48 l3 l4 l5 (l6 + 1) I9 J9 h
      · replace h := h.2 c
        refine wz_aload_n C rfl rfl dX1_findWay_69 ?_
        refine wz_getR C (j := 129) f_X1_findWay_9 (sOc hz rfl) (by decide) dX1_findWay_70 ?_
        refine wz_iload C rfl dX1_findWay_73 ?_
        refine wz_bipush C (by decide) dX1_findWay_75 ?_
        refine wz_imul C dX1_findWay_77 ?_
        refine wz_iload C rfl dX1_findWay_78 ?_
        refine wz_iadd C dX1_findWay_80 ?_
        refine wm_callSN C (As := [.ref (kadr G 129), .int (iZ ((l5 * 14) + l6))]) (st := []) (a' := 0) (b' := 0) (host := "ShareGraph") (k_X11_at G hG 129 ((l5 * 14) + l6) I9 J9 _ h) 2 gX1_findWay_X11_at_n56 (by decide +kernel) (by decide +kernel) (by decide +kernel) rfl (by decide +kernel) (by rw [hX]; exact ⟨Nat.le_of_ble_eq_true rfl, Nat.le_of_ble_eq_true rfl⟩) rfl (Nat.le_of_ble_eq_true rfl) rfl rfl rfl dX1_findWay_81 (kk_sI (fun v10 I10 J10 h => ?_))
        obtain ⟨g11, h⟩ := h
        refine wz_if_le C (tgt := 124) g11 dX1_findWay_84 (by decide) (fun c => ?_) (fun c => ?_)
        · replace h := h.1 c
          refine wz_iinc_6 C rfl dX1_findWay_124 ?_
          refine wz_goto C dX1_findWay_127 (tgt := 48) (by decide) ?_
          exact w48 l3 l4 l5 (l6 + 1) I10 J10 h
        · replace h := h.2 c
          refine wz_aload_n C rfl rfl dX1_findWay_87 ?_
          refine wz_dup C rfl dX1_findWay_88 ?_
          refine wz_getI C rfl f_X1_findWay_70 (sOc hz rfl) dX1_findWay_89 ?_
          refine wz_iconst C dX1_findWay_92 ?_
          refine wz_iload C rfl dX1_findWay_93 ?_
          refine wd_ishl C dX1_findWay_95 ?_
          refine wd_ior C dX1_findWay_96 ?_
          refine wd_putI C f_X1_findWay_70 fp_X1_5 (sOc hz rfl) dX1_findWay_97 (fun I12 e => ?_)
          replace h := h I12 e
          refine wz_aload_n C rfl rfl dX1_findWay_100 ?_
          refine wz_getR C (j := 131) f_X1_findWay_18 (sOc hz rfl) (by decide) dX1_findWay_101 ?_
          refine wz_iload C rfl dX1_findWay_104 ?_
          refine wz_iload C rfl dX1_findWay_106 ?_
          refine wm_callSN C (As := [.ref (kadr G 131), .int (iZ l6), .int (iZ l5)]) (st := []) (a' := 0) (b' := 0) (host := "ShareGraph") (k_X11_put G hG 131 l6 l5 I12 J10 _ h) 3 gX1_findWay_X11_put_n73 (by decide +kernel) (by decide +kernel) (by decide +kernel) rfl (by decide +kernel) (by rw [hX]; exact ⟨Nat.le_of_ble_eq_true rfl, Nat.le_of_ble_eq_true rfl⟩) rfl (Nat.le_of_ble_eq_true rfl) rfl rfl rfl dX1_findWay_108 (kk_sV (fun I13 J13 h => ?_))
          refine wz_aload_n C rfl rfl dX1_findWay_111 ?_
          refine wz_getR C (j := 130) f_X1_findWay_15 (sOc hz rfl) (by decide) dX1_findWay_112 ?_
          refine wz_iload_n C rfl rfl dX1_findWay_115 ?_
          refine wz_iload C rfl dX1_findWay_116 ?_
          refine wm_callSN C (As := [.ref (kadr G 130), .int (iZ l3), .int (iZ l6)]) (st := []) (a' := 0) (b' := 0) (host := "ShareGraph") (k_X11_put G hG 130 l3 l6 I13 J13 _ h) 3 gX1_findWay_X11_put_n73 (by decide +kernel) (by decide +kernel) (by decide +kernel) rfl (by decide +kernel) (by rw [hX]; exact ⟨Nat.le_of_ble_eq_true rfl, Nat.le_of_ble_eq_true rfl⟩) rfl (Nat.le_of_ble_eq_true rfl) rfl rfl rfl dX1_findWay_118 (kk_sV (fun I14 J14 h => ?_))
          refine wz_iinc_3 C rfl dX1_findWay_121 ?_
          refine wz_iinc_6 C rfl dX1_findWay_124 ?_
          refine wz_goto C dX1_findWay_127 (tgt := 48) (by decide) ?_
          exact w48 (l3 + 1) l4 l5 (l6 + 1) I14 J14 h
set_option maxHeartbeats 4000000 in
set_option maxRecDepth 100000 in
theorem bk_X1_findWay_136 (G : KG) (hG : KokC G) (X : KX) (hX : KR X = rm_X1_findWay) (C : Fr G X cX1_findWay 7 yX1_findWay.cls (some .boolean) wsX1_findWay) (l1 : Int) (l2 : Int) (Q : Int → Ii → Jj → Prop)  (I : Ii) (J : Jj) (h : B_X1_findWay_136 l1 l2 Q  I J)   : Wz G X 7 (QsU G X (QsB Q)) 0 0 136 [some (.ref (kadr G 128)), none, some (.int (iZ l2)), none, none, none, none] [] I J := by
  have hz := hG.2
  unfold B_X1_findWay_136 at h
  refine wz_aload_n C rfl rfl dX1_findWay_136 ?_
  refine wz_getI C rfl f_X1_findWay_70 (sOc hz rfl) dX1_findWay_137 ?_
  refine wz_iload_n C rfl rfl dX1_findWay_140 ?_
  refine wm_callSN C (As := [.int (iZ (I 128 5)), .int (iZ l2)]) (st := []) (a' := 0) (b' := 0) (host := "ShareGraph") (k_X11_isIn G hG (I 128 5) l2 I J _ h) 2 gX1_findWay_X11_isIn_n76 (by decide +kernel) (by decide +kernel) (by decide +kernel) rfl (by decide +kernel) (by rw [hX]; exact ⟨Nat.le_of_ble_eq_true rfl, Nat.le_of_ble_eq_true rfl⟩) rfl (Nat.le_of_ble_eq_true rfl) rfl rfl rfl dX1_findWay_141 (kk_sB (fun v6 I6 J6 hb6 h => ?_))
  exact wz_zret C h.1 dX1_findWay_144 ⟨_, rfl, h.1, h.2⟩
set_option maxHeartbeats 4000000 in
set_option maxRecDepth 100000 in
theorem lk_X1_findWay_21 (G : KG) (hG : KokC G) (X : KX) (hX : KR X = rm_X1_findWay) (C : Fr G X cX1_findWay 7 yX1_findWay.cls (some .boolean) wsX1_findWay) (l1 : Int) (l2 : Int) (Q : Int → Ii → Jj → Prop) : ∀ (n : Nat) (l3 : Int) (l4 : Int) (I : Ii) (J : Jj), L_X1_findWay_21 l1 l2 Q n l3 l4 I J → Wz G X 7 (QsU G X (QsB Q)) 0 0 21 [some (.ref (kadr G 128)), none, some (.int (iZ l2)), some (.int (iZ l3)), some (.int (iZ l4)), none, none] [] I J := by
  have hz := hG.2
  intro n
  induction n with
  | zero => intro l3 l4 I J h; exact False.elim h
  | succ n w21 =>
    intro l3 l4 I J h
    have h : Lb_X1_findWay_21 l1 l2 Q (L_X1_findWay_21 l1 l2 Q n) l3 l4 I J := h
    unfold Lb_X1_findWay_21 at h
    generalize L_X1_findWay_21 l1 l2 Q n = r21 at h w21
    refine wz_iload C rfl dX1_findWay_21 ?_
    refine wz_iload_n C rfl rfl dX1_findWay_23 ?_
    obtain ⟨g3, h⟩ := h
    obtain ⟨g4, h⟩ := h
    refine wz_icmp_ge C (tgt := 136) g3 g4 dX1_findWay_24 (by decide) (fun c => ?_) (fun c => ?_)
    · replace h := h.1 c
      exact Wz.drop (bk_X1_findWay_136 G hG X hX C l1 l2 Q I J h) (And.intro rfl (And.intro rfl trivial))
    · replace h := h.2 c
      refine wz_iload C rfl dX1_findWay_27 ?_
      refine wz_bipush C (by decide) dX1_findWay_29 ?_
      refine wz_icmp_ge C (tgt := 136) g3 (by decide) dX1_findWay_31 (by decide) (fun c => ?_) (fun c => ?_)
      · replace h := h.1 c
        exact Wz.drop (bk_X1_findWay_136 G hG X hX C l1 l2 Q I J h) (And.intro rfl (And.intro rfl trivial))
      · replace h := h.2 c
        refine wz_aload_n C rfl rfl dX1_findWay_34 ?_
        refine wz_getR C (j := 130) f_X1_findWay_15 (sOc hz rfl) (by decide) dX1_findWay_35 ?_
        refine wz_iload C rfl dX1_findWay_38 ?_
        refine wm_callSN C (As := [.ref (kadr G 130), .int (iZ l4)]) (st := []) (a' := 0) (b' := 0) (host := "ShareGraph") (k_X11_at G hG 130 l4 I J _ h) 2 gX1_findWay_X11_at_n56 (by decide +kernel) (by decide +kernel) (by decide +kernel) rfl (by decide +kernel) (by rw [hX]; exact ⟨Nat.le_of_ble_eq_true rfl, Nat.le_of_ble_eq_true rfl⟩) rfl (Nat.le_of_ble_eq_true rfl) rfl rfl rfl dX1_findWay_40 (kk_sI (fun v5 I5 J5 h => ?_))
        refine wz_istore_5 C rfl dX1_findWay_43 ?_
        refine wz_iconst C dX1_findWay_45 ?_
        refine wz_istore_6 C rfl dX1_findWay_46 ?_
        obtain ⟨n, h⟩ := h
        exact lk_X1_findWay_48 G hG X hX C l1 l2 Q r21 w21 n l3 l4 v5 0 I5 J5 h
set_option maxHeartbeats 4000000 in
set_option maxRecDepth 100000 in
theorem k_X1_findWay (G : KG) (hG : KokC G) (l1 : Int) (l2 : Int) (I : Ii) (J : Jj) (Q : Int → Ii → Jj → Prop) (h : wp_X1_findWay l1 l2 I J Q) : Ctr G yX1_findWay wsX1_findWay rm_X1_findWay [.ref (kadr G 128), .int (iZ l1), .int (iZ l2)] (I, J) (QsB Q) := by
  unfold wp_X1_findWay at h
  skip
  refine Ctr.ofZ (cc := cX1_findWay) (nL := 7) (ret := (some .boolean)) [some (.ref (kadr G 128)), some (.int (iZ l1)), some (.int (iZ l2)), none, none, none, none] hG.1 (by decide +kernel) rfl (Nat.le_of_ble_eq_true rfl) (Nat.le_of_ble_eq_true rfl) (by simp [lvA, lv_args, Value.category]) ?_
  intro X hX C
  have hz := hG.2
  refine wz_aload_n C rfl rfl dX1_findWay_0 ?_
  refine wz_iconst C dX1_findWay_1 ?_
  refine wz_iload_n C rfl rfl dX1_findWay_2 ?_
  refine wd_ishl C dX1_findWay_3 ?_
  refine wd_putI C f_X1_findWay_70 fp_X1_5 (sOc hz rfl) dX1_findWay_4 (fun I1 e => ?_)
  replace h := h I1 e
  refine wz_aload_n C rfl rfl dX1_findWay_7 ?_
  refine wz_getR C (j := 130) f_X1_findWay_15 (sOc hz rfl) (by decide) dX1_findWay_8 ?_
  refine wz_iconst C dX1_findWay_11 ?_
  refine wz_iload_n C rfl rfl dX1_findWay_12 ?_
  refine wm_callSN C (As := [.ref (kadr G 130), .int (iZ 0), .int (iZ l1)]) (st := []) (a' := 0) (b' := 0) (host := "ShareGraph") (k_X11_put G hG 130 0 l1 I1 J _ h) 3 gX1_findWay_X11_put_n73 (by decide +kernel) (by decide +kernel) (by decide +kernel) rfl (by decide +kernel) (by rw [hX]; exact ⟨Nat.le_of_ble_eq_true rfl, Nat.le_of_ble_eq_true rfl⟩) rfl (Nat.le_of_ble_eq_true rfl) rfl rfl rfl dX1_findWay_13 (kk_sV (fun I2 J2 h => ?_))
  refine wz_iconst C dX1_findWay_16 ?_
  refine wz_istore_3 C rfl dX1_findWay_17 ?_
  refine wz_iconst C dX1_findWay_18 ?_
  refine wz_istore_4 C rfl dX1_findWay_19 ?_
  obtain ⟨n, h⟩ := h
  exact Wz.drop (lk_X1_findWay_21 G hG X hX C l1 l2 Q n 1 0 I2 J2 h) (And.intro rfl (And.intro rfl (And.intro rfl (And.intro rfl trivial))))
theorem in_X1_useWay_X1 : ∀ w ∈ wsX10, w ∈ wsX1_useWay := by decide +kernel
theorem f_X1_useWay_9 : FLk wsX1_useWay RX1 9 4 0 := flk 4 0 rfl tyX1_ok nmX1 in_X1_useWay_X1 (by decide) (by decide +kernel)
theorem f_X1_useWay_18 : FLk wsX1_useWay RX1 18 4 2 := flk 4 2 rfl tyX1_ok nmX1 in_X1_useWay_X1 (by decide) (by decide +kernel)
def rm_X1_useWay : Room := { frames := 1, cells := 0, slots := 0, locals := 22 }
set_option maxHeartbeats 4000000 in
set_option maxRecDepth 100000 in
theorem lk_X1_useWay_72 (G : KG) (hG : KokC G) (X : KX) (hX : KR X = rm_X1_useWay) (C : Fr G X cX1_useWay 6 yX1_useWay.cls (some .int) wsX1_useWay) (l1 : Int) (l2 : Int) (Q : Int → Ii → Jj → Prop) : ∀ (n : Nat) (l3 : Int) (l4 : Int) (l5 : Int) (I : Ii) (J : Jj), L_X1_useWay_72 l1 l2 Q n l3 l4 l5 I J → Wz G X 6 (QsU G X (QsI Q)) 0 0 72 [some (.ref (kadr G 128)), some (.int (iZ l1)), none, some (.int (iZ l3)), some (.int (iZ l4)), some (.int (iZ l5))] [] I J := by
  have hz := hG.2
  intro n
  induction n with
  | zero => intro l3 l4 l5 I J h; exact False.elim h
  | succ n w72 =>
    intro l3 l4 l5 I J h
    have h : Lb_X1_useWay_72 l1 l2 Q (L_X1_useWay_72 l1 l2 Q n) l3 l4 l5 I J := h
    unfold Lb_X1_useWay_72 at h
    generalize L_X1_useWay_72 l1 l2 Q n = r72 at h w72
    refine wz_iload C rfl dX1_useWay_72 ?_
    refine wz_bipush C (by decide) dX1_useWay_74 ?_
    obtain ⟨g8, h⟩ := h
    refine wz_icmp_ge C (tgt := 149) g8 (by decide) dX1_useWay_76 (by decide) (fun c => ?_) (fun c => ?_)
    · replace h := h.1 c
      refine wz_iload_n C rfl rfl dX1_useWay_149 ?_
      exact wz_iret C dX1_useWay_150 ⟨_, rfl, h⟩
    · replace h := h.2 c
      refine wz_iload C rfl dX1_useWay_79 ?_
      refine wz_iload_n C rfl rfl dX1_useWay_81 ?_
      obtain ⟨g9, h⟩ := h
      obtain ⟨g10, h⟩ := h
      refine wz_icmp_eq C (tgt := 149) g9 g10 dX1_useWay_82 (by decide) (fun c => ?_) (fun c => ?_)
      · replace h := h.1 c
        refine wz_iload_n C rfl rfl dX1_useWay_149 ?_
        exact wz_iret C dX1_useWay_150 ⟨_, rfl, h⟩
      · replace h := h.2 c
        refine wz_aload_n C rfl rfl dX1_useWay_85 ?_
        refine wz_getR C (j := 129) f_X1_useWay_9 (sOc hz rfl) (by decide) dX1_useWay_86 ?_
        refine wz_aload_n C rfl rfl dX1_useWay_89 ?_
        refine wz_getR C (j := 131) f_X1_useWay_18 (sOc hz rfl) (by decide) dX1_useWay_90 ?_
        refine wz_iload C rfl dX1_useWay_93 ?_
        refine wm_callSN C (As := [.ref (kadr G 131), .int (iZ l4)]) (st := [.ref (kadr G 129)]) (a' := 0) (b' := 0) (host := "ShareGraph") (k_X11_at G hG 131 l4 I J _ h) 2 gX1_useWay_X11_at_n56 (by decide +kernel) (by decide +kernel) (by decide +kernel) rfl (by decide +kernel) (by rw [hX]; exact ⟨Nat.le_of_ble_eq_true rfl, Nat.le_of_ble_eq_true rfl⟩) rfl (Nat.le_of_ble_eq_true rfl) rfl rfl rfl dX1_useWay_95 (kk_sI (fun v11 I11 J11 h => ?_))
        refine wz_bipush C (by decide) dX1_useWay_98 ?_
        refine wz_imul C dX1_useWay_100 ?_
        refine wz_iload C rfl dX1_useWay_101 ?_
        refine wz_iadd C dX1_useWay_103 ?_
        refine wz_iload_n C rfl rfl dX1_useWay_104 ?_
        refine wz_ineg C dX1_useWay_105 ?_
        refine wm_callSN C (As := [.ref (kadr G 129), .int (iZ ((v11 * 14) + l4)), .int (iZ (-l3))]) (st := []) (a' := 0) (b' := 0) (host := "ShareGraph") (k_X11_add G hG 129 ((v11 * 14) + l4) (-l3) I11 J11 _ h) 3 gX1_useWay_X11_add_n66 (by decide +kernel) (by decide +kernel) (by decide +kernel) rfl (by decide +kernel) (by rw [hX]; exact ⟨Nat.le_of_ble_eq_true rfl, Nat.le_of_ble_eq_true rfl⟩) rfl (Nat.le_of_ble_eq_true rfl) rfl rfl rfl dX1_useWay_106 (kk_sV (fun I12 J12 h => ?_))
        refine wz_aload_n C rfl rfl dX1_useWay_109 ?_
        refine wz_getR C (j := 129) f_X1_useWay_9 (sOc hz rfl) (by decide) dX1_useWay_110 ?_
        refine wz_iload C rfl dX1_useWay_113 ?_
        refine wz_bipush C (by decide) dX1_useWay_115 ?_
        refine wz_imul C dX1_useWay_117 ?_
        refine wz_aload_n C rfl rfl dX1_useWay_118 ?_
        refine wz_getR C (j := 131) f_X1_useWay_18 (sOc hz rfl) (by decide) dX1_useWay_119 ?_
        refine wz_iload C rfl dX1_useWay_122 ?_
        refine wm_callSN C (As := [.ref (kadr G 131), .int (iZ l4)]) (st := [.int (iZ (l4 * 14)), .ref (kadr G 129)]) (a' := 0) (b' := 0) (host := "ShareGraph") (k_X11_at G hG 131 l4 I12 J12 _ h) 2 gX1_useWay_X11_at_n56 (by decide +kernel) (by decide +kernel) (by decide +kernel) rfl (by decide +kernel) (by rw [hX]; exact ⟨Nat.le_of_ble_eq_true rfl, Nat.le_of_ble_eq_true rfl⟩) rfl (Nat.le_of_ble_eq_true rfl) rfl rfl rfl dX1_useWay_124 (kk_sI (fun v13 I13 J13 h => ?_))
        refine wz_iadd C dX1_useWay_127 ?_
        refine wz_iload_n C rfl rfl dX1_useWay_128 ?_
        refine wm_callSN C (As := [.ref (kadr G 129), .int (iZ ((l4 * 14) + v13)), .int (iZ l3)]) (st := []) (a' := 0) (b' := 0) (host := "ShareGraph") (k_X11_add G hG 129 ((l4 * 14) + v13) l3 I13 J13 _ h) 3 gX1_useWay_X11_add_n66 (by decide +kernel) (by decide +kernel) (by decide +kernel) rfl (by decide +kernel) (by rw [hX]; exact ⟨Nat.le_of_ble_eq_true rfl, Nat.le_of_ble_eq_true rfl⟩) rfl (Nat.le_of_ble_eq_true rfl) rfl rfl rfl dX1_useWay_129 (kk_sV (fun I14 J14 h => ?_))
        refine wz_aload_n C rfl rfl dX1_useWay_132 ?_
        refine wz_getR C (j := 131) f_X1_useWay_18 (sOc hz rfl) (by decide) dX1_useWay_133 ?_
        refine wz_iload C rfl dX1_useWay_136 ?_
        refine wm_callSN C (As := [.ref (kadr G 131), .int (iZ l4)]) (st := []) (a' := 0) (b' := 0) (host := "ShareGraph") (k_X11_at G hG 131 l4 I14 J14 _ h) 2 gX1_useWay_X11_at_n56 (by decide +kernel) (by decide +kernel) (by decide +kernel) rfl (by decide +kernel) (by rw [hX]; exact ⟨Nat.le_of_ble_eq_true rfl, Nat.le_of_ble_eq_true rfl⟩) rfl (Nat.le_of_ble_eq_true rfl) rfl rfl rfl dX1_useWay_138 (kk_sI (fun v15 I15 J15 h => ?_))
        refine wz_istore_4 C rfl dX1_useWay_141 ?_
        refine wz_iinc_5 C rfl dX1_useWay_143 ?_
        refine wz_goto C dX1_useWay_146 (tgt := 72) (by decide) ?_
        exact w72 l3 v15 (l5 + 1) I15 J15 h
set_option maxHeartbeats 4000000 in
set_option maxRecDepth 100000 in
theorem lk_X1_useWay_9 (G : KG) (hG : KokC G) (X : KX) (hX : KR X = rm_X1_useWay) (C : Fr G X cX1_useWay 6 yX1_useWay.cls (some .int) wsX1_useWay) (l1 : Int) (l2 : Int) (Q : Int → Ii → Jj → Prop) : ∀ (n : Nat) (l3 : Int) (l4 : Int) (l5 : Int) (I : Ii) (J : Jj), L_X1_useWay_9 l1 l2 Q n l3 l4 l5 I J → Wz G X 6 (QsU G X (QsI Q)) 0 0 9 [some (.ref (kadr G 128)), some (.int (iZ l1)), some (.int (iZ l2)), some (.int (iZ l3)), some (.int (iZ l4)), some (.int (iZ l5))] [] I J := by
  have hz := hG.2
  intro n
  induction n with
  | zero => intro l3 l4 l5 I J h; exact False.elim h
  | succ n w9 =>
    intro l3 l4 l5 I J h
    have h : Lb_X1_useWay_9 l1 l2 Q (L_X1_useWay_9 l1 l2 Q n) l3 l4 l5 I J := h
    unfold Lb_X1_useWay_9 at h
    generalize L_X1_useWay_9 l1 l2 Q n = r9 at h w9
    refine wz_iload C rfl dX1_useWay_9 ?_
    refine wz_bipush C (by decide) dX1_useWay_11 ?_
    obtain ⟨g1, h⟩ := h
    refine wz_icmp_ge C (tgt := 66) g1 (by decide) dX1_useWay_13 (by decide) (fun c => ?_) (fun c => ?_)
    · replace h := h.1 c
      refine wz_iload_n C rfl rfl dX1_useWay_66 ?_
      refine wz_istore_4 C rfl dX1_useWay_67 ?_
      refine wz_iconst C dX1_useWay_69 ?_
      refine wz_istore_5 C rfl dX1_useWay_70 ?_
      obtain ⟨n, h⟩ := h
      exact Wz.drop (lk_X1_useWay_72 G hG X hX C l1 l2 Q n l3 l2 0 I J h) (And.intro rfl (And.intro rfl (And.intro rfl (And.intro rfl (And.intro rfl trivial)))))
    · replace h := h.2 c
      refine wz_iload C rfl dX1_useWay_16 ?_
      refine wz_iload_n C rfl rfl dX1_useWay_18 ?_
      obtain ⟨g2, h⟩ := h
      obtain ⟨g3, h⟩ := h
      refine wz_icmp_eq C (tgt := 66) g2 g3 dX1_useWay_19 (by decide) (fun c => ?_) (fun c => ?_)
      · replace h := h.1 c
        refine wz_iload_n C rfl rfl dX1_useWay_66 ?_
        refine wz_istore_4 C rfl dX1_useWay_67 ?_
        refine wz_iconst C dX1_useWay_69 ?_
        refine wz_istore_5 C rfl dX1_useWay_70 ?_
        obtain ⟨n, h⟩ := h
        exact Wz.drop (lk_X1_useWay_72 G hG X hX C l1 l2 Q n l3 l2 0 I J h) (And.intro rfl (And.intro rfl (And.intro rfl (And.intro rfl (And.intro rfl trivial)))))
      · replace h := h.2 c
        refine wz_iload_n C rfl rfl dX1_useWay_22 ?_
        refine wz_aload_n C rfl rfl dX1_useWay_23 ?_
        refine wz_getR C (j := 129) f_X1_useWay_9 (sOc hz rfl) (by decide) dX1_useWay_24 ?_
        refine wz_aload_n C rfl rfl dX1_useWay_27 ?_
        refine wz_getR C (j := 131) f_X1_useWay_18 (sOc hz rfl) (by decide) dX1_useWay_28 ?_
        refine wz_iload C rfl dX1_useWay_31 ?_
        refine wm_callSN C (As := [.ref (kadr G 131), .int (iZ l4)]) (st := [.ref (kadr G 129), .int (iZ l3)]) (a' := 0) (b' := 0) (host := "ShareGraph") (k_X11_at G hG 131 l4 I J _ h) 2 gX1_useWay_X11_at_n56 (by decide +kernel) (by decide +kernel) (by decide +kernel) rfl (by decide +kernel) (by rw [hX]; exact ⟨Nat.le_of_ble_eq_true rfl, Nat.le_of_ble_eq_true rfl⟩) rfl (Nat.le_of_ble_eq_true rfl) rfl rfl rfl dX1_useWay_33 (kk_sI (fun v4 I4 J4 h => ?_))
        refine wz_bipush C (by decide) dX1_useWay_36 ?_
        refine wz_imul C dX1_useWay_38 ?_
        refine wz_iload C rfl dX1_useWay_39 ?_
        refine wz_iadd C dX1_useWay_41 ?_
        refine wm_callSN C (As := [.ref (kadr G 129), .int (iZ ((v4 * 14) + l4))]) (st := [.int (iZ l3)]) (a' := 0) (b' := 0) (host := "ShareGraph") (k_X11_at G hG 129 ((v4 * 14) + l4) I4 J4 _ h) 2 gX1_useWay_X11_at_n56 (by decide +kernel) (by decide +kernel) (by decide +kernel) rfl (by decide +kernel) (by rw [hX]; exact ⟨Nat.le_of_ble_eq_true rfl, Nat.le_of_ble_eq_true rfl⟩) rfl (Nat.le_of_ble_eq_true rfl) rfl rfl rfl dX1_useWay_42 (kk_sI (fun v5 I5 J5 h => ?_))
        refine wd_min C (st := []) h (by decide +kernel) (by decide +kernel) (by decide +kernel) (by decide +kernel) (by rw [hX]; exact ⟨Nat.le_of_ble_eq_true rfl, Nat.le_of_ble_eq_true rfl⟩) dX1_useWay_45 (fun v6 I6 J6 h => ?_)
        refine wz_istore_3 C rfl dX1_useWay_48 ?_
        refine wz_aload_n C rfl rfl dX1_useWay_49 ?_
        refine wz_getR C (j := 131) f_X1_useWay_18 (sOc hz rfl) (by decide) dX1_useWay_50 ?_
        refine wz_iload C rfl dX1_useWay_53 ?_
        refine wm_callSN C (As := [.ref (kadr G 131), .int (iZ l4)]) (st := []) (a' := 0) (b' := 0) (host := "ShareGraph") (k_X11_at G hG 131 l4 I6 J6 _ h) 2 gX1_useWay_X11_at_n56 (by decide +kernel) (by decide +kernel) (by decide +kernel) rfl (by decide +kernel) (by rw [hX]; exact ⟨Nat.le_of_ble_eq_true rfl, Nat.le_of_ble_eq_true rfl⟩) rfl (Nat.le_of_ble_eq_true rfl) rfl rfl rfl dX1_useWay_55 (kk_sI (fun v7 I7 J7 h => ?_))
        refine wz_istore_4 C rfl dX1_useWay_58 ?_
        refine wz_iinc_5 C rfl dX1_useWay_60 ?_
        refine wz_goto C dX1_useWay_63 (tgt := 9) (by decide) ?_
        exact w9 v6 v7 (l5 + 1) I7 J7 h
set_option maxHeartbeats 4000000 in
set_option maxRecDepth 100000 in
theorem k_X1_useWay (G : KG) (hG : KokC G) (l1 : Int) (l2 : Int) (I : Ii) (J : Jj) (Q : Int → Ii → Jj → Prop) (h : wp_X1_useWay l1 l2 I J Q) : Ctr G yX1_useWay wsX1_useWay rm_X1_useWay [.ref (kadr G 128), .int (iZ l1), .int (iZ l2)] (I, J) (QsI Q) := by
  unfold wp_X1_useWay at h
  skip
  refine Ctr.ofZ (cc := cX1_useWay) (nL := 6) (ret := (some .int)) [some (.ref (kadr G 128)), some (.int (iZ l1)), some (.int (iZ l2)), none, none, none] hG.1 (by decide +kernel) rfl (Nat.le_of_ble_eq_true rfl) (Nat.le_of_ble_eq_true rfl) (by simp [lvA, lv_args, Value.category]) ?_
  intro X hX C
  have hz := hG.2
  refine wz_ldc C (n := 1000000) (v := 1000000) (by decide) (by decide +kernel) dX1_useWay_0 ?_
  refine wz_istore_3 C rfl dX1_useWay_2 ?_
  refine wz_iload_n C rfl rfl dX1_useWay_3 ?_
  refine wz_istore_4 C rfl dX1_useWay_4 ?_
  refine wz_iconst C dX1_useWay_6 ?_
  refine wz_istore_5 C rfl dX1_useWay_7 ?_
  obtain ⟨n, h⟩ := h
  exact lk_X1_useWay_9 G hG X hX C l1 l2 Q n 1000000 l2 0 I J h
theorem in_X2_addVertex_X2 : ∀ w ∈ wsX20, w ∈ wsX2_addVertex := by decide +kernel
theorem f_X2_addVertex_32 : FLk wsX2_addVertex RX2 32 5 0 := flk 5 0 rfl tyX2_ok nmX2 in_X2_addVertex_X2 (by decide) (by decide +kernel)
theorem f_X2_addVertex_15 : FLk wsX2_addVertex RX2 15 5 7 := flk 5 7 rfl tyX2_ok nmX2 in_X2_addVertex_X2 (by decide) (by decide +kernel)
theorem f_X2_addVertex_19 : FLk wsX2_addVertex RX2 19 5 8 := flk 5 8 rfl tyX2_ok nmX2 in_X2_addVertex_X2 (by decide) (by decide +kernel)
theorem f_X2_addVertex_44 : FLk wsX2_addVertex RX2 44 5 5 := flk 5 5 rfl tyX2_ok nmX2 in_X2_addVertex_X2 (by decide) (by decide +kernel)
def rm_X2_addVertex : Room := { frames := 1, cells := 0, slots := 0, locals := 22 }
set_option maxHeartbeats 4000000 in
set_option maxRecDepth 100000 in
theorem k_X2_addVertex (G : KG) (hG : KokC G) (k0 : Nat) (l1 : Int64) (l3 : Int) (I : Ii) (J : Jj) (Q : Ii → Jj → Prop) (h : wp_X2_addVertex k0 l1 l3 I J Q) : Ctr G yX2_addVertex wsX2_addVertex rm_X2_addVertex [.ref (kadr G k0), .long l1, .int (iZ l3)] (I, J) (QsV Q) := by
  unfold wp_X2_addVertex at h
  obtain ⟨hk0, h⟩ := h
  refine Ctr.ofZ (cc := cX2_addVertex) (nL := 4) (ret := none) [some (.ref (kadr G k0)), some (.long l1), none, some (.int (iZ l3))] hG.1 (by decide +kernel) rfl (Nat.le_of_ble_eq_true rfl) (Nat.le_of_ble_eq_true rfl) (by simp [lvA, lv_args, Value.category]) ?_
  intro X hX C
  have hz := hG.2
  refine wz_aload_n C rfl rfl dX2_addVertex_0 ?_
  refine wz_getI C rfl f_X2_addVertex_32 (sOc hz (soX2_0 hk0)) dX2_addVertex_1 ?_
  obtain ⟨g1, h⟩ := h
  have h0 : 0 ≤ I k0 0 := by
    rcases Decidable.em (14 ≤ I k0 0) with c | c
    · omega
    · exact (h.2 c).1.1
  refine wz_if_lt C (tgt := 61) g1 dX2_addVertex_4 (by decide) (fun c => absurd c (by omega)) (fun _ => ?_)
  refine wz_aload_n C rfl rfl dX2_addVertex_7 ?_
  refine wz_getI C rfl f_X2_addVertex_32 (sOc hz (soX2_0 hk0)) dX2_addVertex_8 ?_
  refine wz_aload_n C rfl rfl dX2_addVertex_11 ?_
  refine wz_getR C (j := k0 + 1) f_X2_addVertex_15 (sOc hz (soX2_7 hk0)) (by have := gK_ge hk0; omega) dX2_addVertex_12 ?_
  refine wz_alen1 C (n := 14) (sRc hz (srX2_1 hk0)) dX2_addVertex_15 ?_
  refine wz_icmp_ge C (tgt := 61) g1 (by decide) dX2_addVertex_16 (by decide) (fun c => ?_) (fun c => ?_)
  · replace h := h.1 c
    exact wz_vret C dX2_addVertex_61 ⟨rfl, h⟩
  · replace h := h.2 c
    refine wz_aload_n C rfl rfl dX2_addVertex_19 ?_
    refine wz_getR C (j := k0 + 1) f_X2_addVertex_15 (sOc hz (soX2_7 hk0)) (by have := gK_ge hk0; omega) dX2_addVertex_20 ?_
    refine wz_aload_n C rfl rfl dX2_addVertex_23 ?_
    refine wz_getI C rfl f_X2_addVertex_32 (sOc hz (soX2_0 hk0)) dX2_addVertex_24 ?_
    refine wz_lload_n C rfl rfl dX2_addVertex_27 ?_
    obtain ⟨g2, h⟩ := h
    refine wd_lastore C ((I k0 0).toNat) (n := 14) (sRc hz (srX2_1 hk0)) (zN g2) (zL g2) (by decide) dX2_addVertex_28 (fun J3 e => ?_)
    replace h := h J3 e
    refine wz_aload_n C rfl rfl dX2_addVertex_29 ?_
    refine wz_getR C (j := k0 + 2) f_X2_addVertex_19 (sOc hz (soX2_8 hk0)) (by have := gK_ge hk0; omega) dX2_addVertex_30 ?_
    refine wz_aload_n C rfl rfl dX2_addVertex_33 ?_
    refine wz_getI C rfl f_X2_addVertex_32 (sOc hz (soX2_0 hk0)) dX2_addVertex_34 ?_
    refine wz_iload_n C rfl rfl dX2_addVertex_37 ?_
    refine wm_callSN C (As := [.ref (kadr G (k0 + 2)), .int (iZ (I k0 0)), .int (iZ l3)]) (st := []) (a' := 0) (b' := 0) (host := "ShareGraph") (k_X11_put G hG (k0 + 2) (I k0 0) l3 I J3 _ h) 3 gX2_addVertex_X11_put_n60 (by decide +kernel) (by decide +kernel) (by decide +kernel) rfl (by decide +kernel) (by rw [hX]; exact ⟨Nat.le_of_ble_eq_true rfl, Nat.le_of_ble_eq_true rfl⟩) rfl (Nat.le_of_ble_eq_true rfl) rfl rfl rfl dX2_addVertex_38 (kk_sV (fun I4 J4 h => ?_))
    refine wz_aload_n C rfl rfl dX2_addVertex_41 ?_
    refine wz_dup C rfl dX2_addVertex_42 ?_
    refine wz_getI C rfl f_X2_addVertex_44 (sOc hz (soX2_5 hk0)) dX2_addVertex_43 ?_
    refine wz_iload_n C rfl rfl dX2_addVertex_46 ?_
    refine wz_iadd C dX2_addVertex_47 ?_
    refine wd_putI C f_X2_addVertex_44 fp_X2_5 (sOc hz (soX2_5 hk0)) dX2_addVertex_48 (fun I5 e => ?_)
    replace h := h I5 e
    refine wz_aload_n C rfl rfl dX2_addVertex_51 ?_
    refine wz_dup C rfl dX2_addVertex_52 ?_
    refine wz_getI C rfl f_X2_addVertex_32 (sOc hz (soX2_0 hk0)) dX2_addVertex_53 ?_
    refine wz_iconst C dX2_addVertex_56 ?_
    refine wz_iadd C dX2_addVertex_57 ?_
    refine wd_putI C f_X2_addVertex_32 fp_X2_0 (sOc hz (soX2_0 hk0)) dX2_addVertex_58 (fun I6 e => ?_)
    replace h := h I6 e
    exact wz_vret C dX2_addVertex_61 ⟨rfl, h⟩
theorem in_X2_addEdge_X2 : ∀ w ∈ wsX20, w ∈ wsX2_addEdge := by decide +kernel
theorem f_X2_addEdge_23 : FLk wsX2_addEdge RX2 23 5 9 := flk 5 9 rfl tyX2_ok nmX2 in_X2_addEdge_X2 (by decide) (by decide +kernel)
theorem f_X2_addEdge_35 : FLk wsX2_addEdge RX2 35 5 1 := flk 5 1 rfl tyX2_ok nmX2 in_X2_addEdge_X2 (by decide) (by decide +kernel)
theorem f_X2_addEdge_26 : FLk wsX2_addEdge RX2 26 5 10 := flk 5 10 rfl tyX2_ok nmX2 in_X2_addEdge_X2 (by decide) (by decide +kernel)
theorem f_X2_addEdge_29 : FLk wsX2_addEdge RX2 29 5 11 := flk 5 11 rfl tyX2_ok nmX2 in_X2_addEdge_X2 (by decide) (by decide +kernel)
theorem f_X2_addEdge_47 : FLk wsX2_addEdge RX2 47 5 6 := flk 5 6 rfl tyX2_ok nmX2 in_X2_addEdge_X2 (by decide) (by decide +kernel)
def rm_X2_addEdge : Room := { frames := 1, cells := 0, slots := 0, locals := 22 }
set_option maxHeartbeats 4000000 in
set_option maxRecDepth 100000 in
theorem k_X2_addEdge (G : KG) (hG : KokC G) (k0 : Nat) (l1 : Int) (l2 : Int) (l3 : Int) (I : Ii) (J : Jj) (Q : Ii → Jj → Prop) (h : wp_X2_addEdge k0 l1 l2 l3 I J Q) : Ctr G yX2_addEdge wsX2_addEdge rm_X2_addEdge [.ref (kadr G k0), .int (iZ l1), .int (iZ l2), .int (iZ l3)] (I, J) (QsV Q) := by
  unfold wp_X2_addEdge at h
  obtain ⟨hk0, h⟩ := h
  refine Ctr.ofZ (cc := cX2_addEdge) (nL := 4) (ret := none) [some (.ref (kadr G k0)), some (.int (iZ l1)), some (.int (iZ l2)), some (.int (iZ l3))] hG.1 (by decide +kernel) rfl (Nat.le_of_ble_eq_true rfl) (Nat.le_of_ble_eq_true rfl) (by simp [lvA, lv_args, Value.category]) ?_
  intro X hX C
  have hz := hG.2
  refine wz_aload_n C rfl rfl dX2_addEdge_0 ?_
  refine wz_getR C (j := k0 + 3) f_X2_addEdge_23 (sOc hz (soX2_9 hk0)) (by have := gK_ge hk0; omega) dX2_addEdge_1 ?_
  refine wz_aload_n C rfl rfl dX2_addEdge_4 ?_
  refine wz_getI C rfl f_X2_addEdge_35 (sOc hz (soX2_1 hk0)) dX2_addEdge_5 ?_
  refine wz_iload_n C rfl rfl dX2_addEdge_8 ?_
  refine wm_callSN C (As := [.ref (kadr G (k0 + 3)), .int (iZ (I k0 1)), .int (iZ l1)]) (st := []) (a' := 0) (b' := 0) (host := "ShareGraph") (k_X11_put G hG (k0 + 3) (I k0 1) l1 I J _ h) 3 gX2_addEdge_X11_put_n60 (by decide +kernel) (by decide +kernel) (by decide +kernel) rfl (by decide +kernel) (by rw [hX]; exact ⟨Nat.le_of_ble_eq_true rfl, Nat.le_of_ble_eq_true rfl⟩) rfl (Nat.le_of_ble_eq_true rfl) rfl rfl rfl dX2_addEdge_9 (kk_sV (fun I1 J1 h => ?_))
  refine wz_aload_n C rfl rfl dX2_addEdge_12 ?_
  refine wz_getR C (j := k0 + 4) f_X2_addEdge_26 (sOc hz (soX2_10 hk0)) (by have := gK_ge hk0; omega) dX2_addEdge_13 ?_
  refine wz_aload_n C rfl rfl dX2_addEdge_16 ?_
  refine wz_getI C rfl f_X2_addEdge_35 (sOc hz (soX2_1 hk0)) dX2_addEdge_17 ?_
  refine wz_iload_n C rfl rfl dX2_addEdge_20 ?_
  refine wm_callSN C (As := [.ref (kadr G (k0 + 4)), .int (iZ (I1 k0 1)), .int (iZ l2)]) (st := []) (a' := 0) (b' := 0) (host := "ShareGraph") (k_X11_put G hG (k0 + 4) (I1 k0 1) l2 I1 J1 _ h) 3 gX2_addEdge_X11_put_n60 (by decide +kernel) (by decide +kernel) (by decide +kernel) rfl (by decide +kernel) (by rw [hX]; exact ⟨Nat.le_of_ble_eq_true rfl, Nat.le_of_ble_eq_true rfl⟩) rfl (Nat.le_of_ble_eq_true rfl) rfl rfl rfl dX2_addEdge_21 (kk_sV (fun I2 J2 h => ?_))
  refine wz_aload_n C rfl rfl dX2_addEdge_24 ?_
  refine wz_getR C (j := k0 + 5) f_X2_addEdge_29 (sOc hz (soX2_11 hk0)) (by have := gK_ge hk0; omega) dX2_addEdge_25 ?_
  refine wz_aload_n C rfl rfl dX2_addEdge_28 ?_
  refine wz_getI C rfl f_X2_addEdge_35 (sOc hz (soX2_1 hk0)) dX2_addEdge_29 ?_
  refine wz_iload_n C rfl rfl dX2_addEdge_32 ?_
  refine wm_callSN C (As := [.ref (kadr G (k0 + 5)), .int (iZ (I2 k0 1)), .int (iZ l3)]) (st := []) (a' := 0) (b' := 0) (host := "ShareGraph") (k_X11_put G hG (k0 + 5) (I2 k0 1) l3 I2 J2 _ h) 3 gX2_addEdge_X11_put_n60 (by decide +kernel) (by decide +kernel) (by decide +kernel) rfl (by decide +kernel) (by rw [hX]; exact ⟨Nat.le_of_ble_eq_true rfl, Nat.le_of_ble_eq_true rfl⟩) rfl (Nat.le_of_ble_eq_true rfl) rfl rfl rfl dX2_addEdge_33 (kk_sV (fun I3 J3 h => ?_))
  refine wz_aload_n C rfl rfl dX2_addEdge_36 ?_
  refine wz_dup C rfl dX2_addEdge_37 ?_
  refine wz_getI C rfl f_X2_addEdge_47 (sOc hz (soX2_6 hk0)) dX2_addEdge_38 ?_
  refine wz_iload_n C rfl rfl dX2_addEdge_41 ?_
  refine wz_iadd C dX2_addEdge_42 ?_
  refine wd_putI C f_X2_addEdge_47 fp_X2_6 (sOc hz (soX2_6 hk0)) dX2_addEdge_43 (fun I4 e => ?_)
  replace h := h I4 e
  refine wz_aload_n C rfl rfl dX2_addEdge_46 ?_
  refine wz_dup C rfl dX2_addEdge_47 ?_
  refine wz_getI C rfl f_X2_addEdge_35 (sOc hz (soX2_1 hk0)) dX2_addEdge_48 ?_
  refine wz_iconst C dX2_addEdge_51 ?_
  refine wz_iadd C dX2_addEdge_52 ?_
  refine wd_putI C f_X2_addEdge_35 fp_X2_1 (sOc hz (soX2_1 hk0)) dX2_addEdge_53 (fun I5 e => ?_)
  replace h := h I5 e
  exact wz_vret C dX2_addEdge_56 ⟨rfl, h⟩
theorem in_X2_endsOf_X2 : ∀ w ∈ wsX20, w ∈ wsX2_endsOf := by decide +kernel
theorem f_X2_endsOf_23 : FLk wsX2_endsOf RX2 23 5 9 := flk 5 9 rfl tyX2_ok nmX2 in_X2_endsOf_X2 (by decide) (by decide +kernel)
theorem f_X2_endsOf_26 : FLk wsX2_endsOf RX2 26 5 10 := flk 5 10 rfl tyX2_ok nmX2 in_X2_endsOf_X2 (by decide) (by decide +kernel)
def rm_X2_endsOf : Room := { frames := 1, cells := 0, slots := 0, locals := 21 }
set_option maxHeartbeats 4000000 in
set_option maxRecDepth 100000 in
theorem k_X2_endsOf (G : KG) (hG : KokC G) (k0 : Nat) (l1 : Int) (I : Ii) (J : Jj) (Q : Int → Ii → Jj → Prop) (h : wp_X2_endsOf k0 l1 I J Q) : Ctr G yX2_endsOf wsX2_endsOf rm_X2_endsOf [.ref (kadr G k0), .int (iZ l1)] (I, J) (QsI Q) := by
  unfold wp_X2_endsOf at h
  obtain ⟨hk0, h⟩ := h
  refine Ctr.ofZ (cc := cX2_endsOf) (nL := 2) (ret := (some .int)) [some (.ref (kadr G k0)), some (.int (iZ l1))] hG.1 (by decide +kernel) rfl (Nat.le_of_ble_eq_true rfl) (Nat.le_of_ble_eq_true rfl) (by simp [lvA, lv_args, Value.category]) ?_
  intro X hX C
  have hz := hG.2
  refine wz_iconst C dX2_endsOf_0 ?_
  refine wz_aload_n C rfl rfl dX2_endsOf_1 ?_
  refine wz_getR C (j := k0 + 3) f_X2_endsOf_23 (sOc hz (soX2_9 hk0)) (by have := gK_ge hk0; omega) dX2_endsOf_2 ?_
  refine wz_iload_n C rfl rfl dX2_endsOf_5 ?_
  refine wm_callSN C (As := [.ref (kadr G (k0 + 3)), .int (iZ l1)]) (st := [.int (iZ 1)]) (a' := 0) (b' := 0) (host := "ShareGraph") (k_X11_at G hG (k0 + 3) l1 I J _ h) 2 gX2_endsOf_X11_at_n72 (by decide +kernel) (by decide +kernel) (by decide +kernel) rfl (by decide +kernel) (by rw [hX]; exact ⟨Nat.le_of_ble_eq_true rfl, Nat.le_of_ble_eq_true rfl⟩) rfl (Nat.le_of_ble_eq_true rfl) rfl rfl rfl dX2_endsOf_6 (kk_sI (fun v1 I1 J1 h => ?_))
  refine wd_ishl C dX2_endsOf_9 ?_
  refine wz_iconst C dX2_endsOf_10 ?_
  refine wz_aload_n C rfl rfl dX2_endsOf_11 ?_
  refine wz_getR C (j := k0 + 4) f_X2_endsOf_26 (sOc hz (soX2_10 hk0)) (by have := gK_ge hk0; omega) dX2_endsOf_12 ?_
  refine wz_iload_n C rfl rfl dX2_endsOf_15 ?_
  refine wm_callSN C (As := [.ref (kadr G (k0 + 4)), .int (iZ l1)]) (st := [.int (iZ 1), .int (iZ (shlZ 1 v1))]) (a' := 0) (b' := 0) (host := "ShareGraph") (k_X11_at G hG (k0 + 4) l1 I1 J1 _ h) 2 gX2_endsOf_X11_at_n72 (by decide +kernel) (by decide +kernel) (by decide +kernel) rfl (by decide +kernel) (by rw [hX]; exact ⟨Nat.le_of_ble_eq_true rfl, Nat.le_of_ble_eq_true rfl⟩) rfl (Nat.le_of_ble_eq_true rfl) rfl rfl rfl dX2_endsOf_16 (kk_sI (fun v2 I2 J2 h => ?_))
  refine wd_ishl C dX2_endsOf_19 ?_
  refine wd_ior C dX2_endsOf_20 ?_
  exact wz_iret C dX2_endsOf_21 ⟨_, rfl, h⟩
theorem in_X2_spread_X2 : ∀ w ∈ wsX20, w ∈ wsX2_spread := by decide +kernel
theorem f_X2_spread_35 : FLk wsX2_spread RX2 35 5 1 := flk 5 1 rfl tyX2_ok nmX2 in_X2_spread_X2 (by decide) (by decide +kernel)
def rm_X2_spread : Room := { frames := 2, cells := 0, slots := 0, locals := 42 }
set_option maxHeartbeats 4000000 in
set_option maxRecDepth 100000 in
theorem lk_X2_spread_18 (G : KG) (hG : KokC G) (X : KX) (hX : KR X = rm_X2_spread) (C : Fr G X cX2_spread 8 yX2_spread.cls (some .int) wsX2_spread) (k0 : Nat) (l1 : Int) (l2 : Int) (hk0 : gK k0) (Q : Int → Ii → Jj → Prop) (r5 : Int → Int → Ii → Jj → Prop) (w5 : ∀ (l3 : Int) (l4 : Int) (I : Ii) (J : Jj), r5 l3 l4 I J → Wz G X 8 (QsU G X (QsI Q)) 0 0 5 [some (.ref (kadr G k0)), none, some (.int (iZ l2)), some (.int (iZ l3)), some (.int (iZ l4)), none, none, none] [] I J) : ∀ (n : Nat) (l3 : Int) (l4 : Int) (l5 : Int) (l6 : Int) (I : Ii) (J : Jj), L_X2_spread_18 k0 l1 l2 Q r5 n l3 l4 l5 l6 I J → Wz G X 8 (QsU G X (QsI Q)) 0 0 18 [some (.ref (kadr G k0)), none, some (.int (iZ l2)), some (.int (iZ l3)), some (.int (iZ l4)), some (.int (iZ l5)), some (.int (iZ l6)), none] [] I J := by
  have hz := hG.2
  intro n
  induction n with
  | zero => intro l3 l4 l5 l6 I J h; exact False.elim h
  | succ n w18 =>
    intro l3 l4 l5 l6 I J h
    have h : Lb_X2_spread_18 k0 l1 l2 Q r5 (L_X2_spread_18 k0 l1 l2 Q r5 n) l3 l4 l5 l6 I J := h
    unfold Lb_X2_spread_18 at h
    generalize L_X2_spread_18 k0 l1 l2 Q r5 n = r18 at h w18
    refine wz_iload C rfl dX2_spread_18 ?_
    refine wz_aload_n C rfl rfl dX2_spread_20 ?_
    refine wz_getI C rfl f_X2_spread_35 (sOc hz (soX2_1 hk0)) dX2_spread_21 ?_
    obtain ⟨g2, h⟩ := h
    obtain ⟨g3, h⟩ := h
    refine wz_icmp_ge C (tgt := 62) g2 g3 dX2_spread_24 (by decide) (fun c => ?_) (fun c => ?_)
    · replace h := h.1 c
      refine wz_iload_n C rfl rfl dX2_spread_62 ?_
      refine wz_iload C rfl dX2_spread_63 ?_
      obtain ⟨g4, h⟩ := h
      obtain ⟨g5, h⟩ := h
      refine wz_icmp_ne C (tgt := 70) g4 g5 dX2_spread_65 (by decide) (fun c => ?_) (fun c => ?_)
      · replace h := h.1 c
        refine wz_iinc_4 C rfl dX2_spread_70 ?_
        refine wz_goto C dX2_spread_73 (tgt := 5) (by decide) ?_
        exact Wz.drop (w5 l3 (l4 + 1) I J h) (And.intro rfl (And.intro rfl (And.intro rfl (And.intro rfl trivial))))
      · replace h := h.2 c
        refine wz_iload_n C rfl rfl dX2_spread_68 ?_
        exact wz_iret C dX2_spread_69 ⟨_, rfl, h⟩
    · replace h := h.2 c
      refine wz_aload_n C rfl rfl dX2_spread_27 ?_
      refine wz_iload C rfl dX2_spread_28 ?_
      refine wm_callV C (o := k0) (As := [.int (iZ l6)]) (st := []) (a' := 0) (b' := 0) (shK_c hz (spX2 hk0)) rfl (k_X2_endsOf G hG k0 l6 I J _ h) 1 gX2_spread_X2_endsOf rfl (by decide +kernel) (by rw [hX]; exact ⟨Nat.le_of_ble_eq_true rfl, Nat.le_of_ble_eq_true rfl⟩) rfl (Nat.le_of_ble_eq_true rfl) rfl rfl rfl dX2_spread_30 (kk_sI (fun v6 I6 J6 h => ?_))
      refine wz_istore_7 C rfl dX2_spread_33 ?_
      refine wz_iload C rfl dX2_spread_35 ?_
      refine wz_iload_n C rfl rfl dX2_spread_37 ?_
      refine wz_iconst C dX2_spread_38 ?_
      refine wd_ixor C dX2_spread_39 ?_
      refine wd_iand C dX2_spread_40 ?_
      refine wz_if_ne C (tgt := 56) (toInt_rg _) dX2_spread_41 (by decide) (fun c => ?_) (fun c => ?_)
      · replace h := h.1 c
        refine wz_iinc_6 C rfl dX2_spread_56 ?_
        refine wz_goto C dX2_spread_59 (tgt := 18) (by decide) ?_
        exact Wz.drop (w18 l3 l4 l5 (l6 + 1) I6 J6 h) (And.intro rfl (And.intro rfl (And.intro rfl (And.intro rfl (And.intro rfl (And.intro rfl trivial))))))
      · replace h := h.2 c
        refine wz_iload C rfl dX2_spread_44 ?_
        refine wz_iload_n C rfl rfl dX2_spread_46 ?_
        refine wd_iand C dX2_spread_47 ?_
        refine wz_if_eq C (tgt := 56) (toInt_rg _) dX2_spread_48 (by decide) (fun c => ?_) (fun c => ?_)
        · replace h := h.1 c
          refine wz_iinc_6 C rfl dX2_spread_56 ?_
          refine wz_goto C dX2_spread_59 (tgt := 18) (by decide) ?_
          exact Wz.drop (w18 l3 l4 l5 (l6 + 1) I6 J6 h) (And.intro rfl (And.intro rfl (And.intro rfl (And.intro rfl (And.intro rfl (And.intro rfl trivial))))))
        · replace h := h.2 c
          refine wz_iload_n C rfl rfl dX2_spread_51 ?_
          refine wz_iload C rfl dX2_spread_52 ?_
          refine wd_ior C dX2_spread_54 ?_
          refine wz_istore_3 C rfl dX2_spread_55 ?_
          refine wz_iinc_6 C rfl dX2_spread_56 ?_
          refine wz_goto C dX2_spread_59 (tgt := 18) (by decide) ?_
          exact Wz.drop (w18 (orZ l3 v6) l4 l5 (l6 + 1) I6 J6 h) (And.intro rfl (And.intro rfl (And.intro rfl (And.intro rfl (And.intro rfl (And.intro rfl trivial))))))
set_option maxHeartbeats 4000000 in
set_option maxRecDepth 100000 in
theorem lk_X2_spread_5 (G : KG) (hG : KokC G) (X : KX) (hX : KR X = rm_X2_spread) (C : Fr G X cX2_spread 8 yX2_spread.cls (some .int) wsX2_spread) (k0 : Nat) (l1 : Int) (l2 : Int) (hk0 : gK k0) (Q : Int → Ii → Jj → Prop) : ∀ (n : Nat) (l3 : Int) (l4 : Int) (I : Ii) (J : Jj), L_X2_spread_5 k0 l1 l2 Q n l3 l4 I J → Wz G X 8 (QsU G X (QsI Q)) 0 0 5 [some (.ref (kadr G k0)), none, some (.int (iZ l2)), some (.int (iZ l3)), some (.int (iZ l4)), none, none, none] [] I J := by
  have hz := hG.2
  intro n
  induction n with
  | zero => intro l3 l4 I J h; exact False.elim h
  | succ n w5 =>
    intro l3 l4 I J h
    have h : Lb_X2_spread_5 k0 l1 l2 Q (L_X2_spread_5 k0 l1 l2 Q n) l3 l4 I J := h
    unfold Lb_X2_spread_5 at h
    generalize L_X2_spread_5 k0 l1 l2 Q n = r5 at h w5
    refine wz_iload C rfl dX2_spread_5 ?_
    refine wz_bipush C (by decide) dX2_spread_7 ?_
    obtain ⟨g1, h⟩ := h
    refine wz_icmp_ge C (tgt := 76) g1 (by decide) dX2_spread_9 (by decide) (fun c => ?_) (fun c => ?_)
    · replace h := h.1 c
      refine wz_iload_n C rfl rfl dX2_spread_76 ?_
      exact wz_iret C dX2_spread_77 ⟨_, rfl, h⟩
    · replace h := h.2 c
      refine wz_iload_n C rfl rfl dX2_spread_12 ?_
      refine wz_istore_5 C rfl dX2_spread_13 ?_
      refine wz_iconst C dX2_spread_15 ?_
      refine wz_istore_6 C rfl dX2_spread_16 ?_
      obtain ⟨n, h⟩ := h
      exact lk_X2_spread_18 G hG X hX C k0 l1 l2 hk0 Q r5 w5 n l3 l4 l3 0 I J h
set_option maxHeartbeats 4000000 in
set_option maxRecDepth 100000 in
theorem k_X2_spread (G : KG) (hG : KokC G) (k0 : Nat) (l1 : Int) (l2 : Int) (I : Ii) (J : Jj) (Q : Int → Ii → Jj → Prop) (h : wp_X2_spread k0 l1 l2 I J Q) : Ctr G yX2_spread wsX2_spread rm_X2_spread [.ref (kadr G k0), .int (iZ l1), .int (iZ l2)] (I, J) (QsI Q) := by
  unfold wp_X2_spread at h
  obtain ⟨hk0, h⟩ := h
  refine Ctr.ofZ (cc := cX2_spread) (nL := 8) (ret := (some .int)) [some (.ref (kadr G k0)), some (.int (iZ l1)), some (.int (iZ l2)), none, none, none, none, none] hG.1 (by decide +kernel) rfl (Nat.le_of_ble_eq_true rfl) (Nat.le_of_ble_eq_true rfl) (by simp [lvA, lv_args, Value.category]) ?_
  intro X hX C
  have hz := hG.2
  refine wz_iload_n C rfl rfl dX2_spread_0 ?_
  refine wz_istore_3 C rfl dX2_spread_1 ?_
  refine wz_iconst C dX2_spread_2 ?_
  refine wz_istore_4 C rfl dX2_spread_3 ?_
  obtain ⟨n, h⟩ := h
  exact Wz.drop (lk_X2_spread_5 G hG X hX C k0 l1 l2 hk0 Q n l1 0 I J h) (And.intro rfl (And.intro rfl (And.intro rfl (And.intro rfl trivial))))
theorem in_X2_pieces_X2 : ∀ w ∈ wsX20, w ∈ wsX2_pieces := by decide +kernel
theorem f_X2_pieces_32 : FLk wsX2_pieces RX2 32 5 0 := flk 5 0 rfl tyX2_ok nmX2 in_X2_pieces_X2 (by decide) (by decide +kernel)
def rm_X2_pieces : Room := { frames := 3, cells := 0, slots := 0, locals := 69 }
set_option maxHeartbeats 4000000 in
set_option maxRecDepth 100000 in
theorem lk_X2_pieces_7 (G : KG) (hG : KokC G) (X : KX) (hX : KR X = rm_X2_pieces) (C : Fr G X cX2_pieces 5 yX2_pieces.cls (some .int) wsX2_pieces) (k0 : Nat) (l1 : Int) (hk0 : gK k0) (Q : Int → Ii → Jj → Prop) : ∀ (n : Nat) (l2 : Int) (l3 : Int) (l4 : Int) (I : Ii) (J : Jj), L_X2_pieces_7 k0 l1 Q n l2 l3 l4 I J → Wz G X 5 (QsU G X (QsI Q)) 0 0 7 [some (.ref (kadr G k0)), some (.int (iZ l1)), some (.int (iZ l2)), some (.int (iZ l3)), some (.int (iZ l4))] [] I J := by
  have hz := hG.2
  intro n
  induction n with
  | zero => intro l2 l3 l4 I J h; exact False.elim h
  | succ n w7 =>
    intro l2 l3 l4 I J h
    have h : Lb_X2_pieces_7 k0 l1 Q (L_X2_pieces_7 k0 l1 Q n) l2 l3 l4 I J := h
    unfold Lb_X2_pieces_7 at h
    generalize L_X2_pieces_7 k0 l1 Q n = r7 at h w7
    refine wz_iload C rfl dX2_pieces_7 ?_
    refine wz_aload_n C rfl rfl dX2_pieces_9 ?_
    refine wz_getI C rfl f_X2_pieces_32 (sOc hz (soX2_0 hk0)) dX2_pieces_10 ?_
    obtain ⟨g1, h⟩ := h
    obtain ⟨g2, h⟩ := h
    refine wz_icmp_ge C (tgt := 48) g1 g2 dX2_pieces_13 (by decide) (fun c => ?_) (fun c => ?_)
    · replace h := h.1 c
      refine wz_iload_n C rfl rfl dX2_pieces_48 ?_
      exact wz_iret C dX2_pieces_49 ⟨_, rfl, h⟩
    · replace h := h.2 c
      refine wz_iload_n C rfl rfl dX2_pieces_16 ?_
      refine wz_iload C rfl dX2_pieces_17 ?_
      refine wm_callSN C (As := [.int (iZ l2), .int (iZ l4)]) (st := []) (a' := 0) (b' := 0) (host := "ShareGraph") (k_X11_isIn G hG l2 l4 I J _ h) 2 gX2_pieces_X11_isIn_n76 (by decide +kernel) (by decide +kernel) (by decide +kernel) rfl (by decide +kernel) (by rw [hX]; exact ⟨Nat.le_of_ble_eq_true rfl, Nat.le_of_ble_eq_true rfl⟩) rfl (Nat.le_of_ble_eq_true rfl) rfl rfl rfl dX2_pieces_19 (kk_sB (fun v3 I3 J3 hb3 h => ?_))
      refine wz_if_eq C (tgt := 42) (rgB hb3) dX2_pieces_22 (by decide) (fun c => ?_) (fun c => ?_)
      · replace h := h.1 c
        refine wz_iinc_4 C rfl dX2_pieces_42 ?_
        refine wz_goto C dX2_pieces_45 (tgt := 7) (by decide) ?_
        exact w7 l2 l3 (l4 + 1) I3 J3 h
      · replace h := h.2 c
        refine wz_iload_n C rfl rfl dX2_pieces_25 ?_
        refine wz_aload_n C rfl rfl dX2_pieces_26 ?_
        refine wz_iconst C dX2_pieces_27 ?_
        refine wz_iload C rfl dX2_pieces_28 ?_
        refine wd_ishl C dX2_pieces_30 ?_
        refine wz_iload_n C rfl rfl dX2_pieces_31 ?_
        refine wm_callV C (o := k0) (As := [.int (iZ (shlZ 1 l4)), .int (iZ l1)]) (st := [.int (iZ l2)]) (a' := 0) (b' := 0) (shK_c hz (spX2 hk0)) rfl (k_X2_spread G hG k0 (shlZ 1 l4) l1 I3 J3 _ h) 2 gX2_pieces_X2_spread rfl (by decide +kernel) (by rw [hX]; exact ⟨Nat.le_of_ble_eq_true rfl, Nat.le_of_ble_eq_true rfl⟩) rfl (Nat.le_of_ble_eq_true rfl) rfl rfl rfl dX2_pieces_32 (kk_sI (fun v4 I4 J4 h => ?_))
        refine wz_iconst C dX2_pieces_35 ?_
        refine wd_ixor C dX2_pieces_36 ?_
        refine wd_iand C dX2_pieces_37 ?_
        refine wz_istore_2 C rfl dX2_pieces_38 ?_
        refine wz_iinc_3 C rfl dX2_pieces_39 ?_
        refine wz_iinc_4 C rfl dX2_pieces_42 ?_
        refine wz_goto C dX2_pieces_45 (tgt := 7) (by decide) ?_
        exact w7 (andZ l2 (xorZ v4 (-1))) (l3 + 1) (l4 + 1) I4 J4 h
set_option maxHeartbeats 4000000 in
set_option maxRecDepth 100000 in
theorem k_X2_pieces (G : KG) (hG : KokC G) (k0 : Nat) (l1 : Int) (I : Ii) (J : Jj) (Q : Int → Ii → Jj → Prop) (h : wp_X2_pieces k0 l1 I J Q) : Ctr G yX2_pieces wsX2_pieces rm_X2_pieces [.ref (kadr G k0), .int (iZ l1)] (I, J) (QsI Q) := by
  unfold wp_X2_pieces at h
  obtain ⟨hk0, h⟩ := h
  refine Ctr.ofZ (cc := cX2_pieces) (nL := 5) (ret := (some .int)) [some (.ref (kadr G k0)), some (.int (iZ l1)), none, none, none] hG.1 (by decide +kernel) rfl (Nat.le_of_ble_eq_true rfl) (Nat.le_of_ble_eq_true rfl) (by simp [lvA, lv_args, Value.category]) ?_
  intro X hX C
  have hz := hG.2
  refine wz_iload_n C rfl rfl dX2_pieces_0 ?_
  refine wz_istore_2 C rfl dX2_pieces_1 ?_
  refine wz_iconst C dX2_pieces_2 ?_
  refine wz_istore_3 C rfl dX2_pieces_3 ?_
  refine wz_iconst C dX2_pieces_4 ?_
  refine wz_istore_4 C rfl dX2_pieces_5 ?_
  obtain ⟨n, h⟩ := h
  exact lk_X2_pieces_7 G hG X hX C k0 l1 hk0 Q n l1 0 0 I J h
