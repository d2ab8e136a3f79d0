theorem in_X11_takeApart_X1 : ∀ w ∈ wsX10, w ∈ wsX11_takeApart := by decide +kernel
theorem in_X11_takeApart_X11 : ∀ w ∈ wsX110, w ∈ wsX11_takeApart := by decide +kernel
theorem in_X11_takeApart_X2 : ∀ w ∈ wsX20, w ∈ wsX11_takeApart := by decide +kernel
theorem in_X11_takeApart_X8 : ∀ w ∈ wsX80, w ∈ wsX11_takeApart := by decide +kernel
theorem f_X11_takeApart_94 : FLk wsX11_takeApart RX11 94 14 15 := flk 14 15 rfl tyX11_ok nmX11 in_X11_takeApart_X11 (by decide) (by decide +kernel)
theorem f_X11_takeApart_40 : FLk wsX11_takeApart RX11 40 14 4 := flk 14 4 rfl tyX11_ok nmX11 in_X11_takeApart_X11 (by decide) (by decide +kernel)
theorem f_X11_takeApart_141 : FLk wsX11_takeApart RX11 141 5 0 := flk 5 0 rfl tyX2_ok nmX2 in_X11_takeApart_X2 (by decide) (by decide +kernel)
theorem f_X11_takeApart_327 : FLk wsX11_takeApart RX11 327 4 5 := flk 4 5 rfl tyX1_ok nmX1 in_X11_takeApart_X1 (by decide) (by decide +kernel)
theorem f_X11_takeApart_53 : FLk wsX11_takeApart RX11 53 14 7 := flk 14 7 rfl tyX11_ok nmX11 in_X11_takeApart_X11 (by decide) (by decide +kernel)
theorem f_X11_takeApart_315 : FLk wsX11_takeApart RX11 315 11 3 := flk 11 3 rfl tyX8_ok nmX8 in_X11_takeApart_X8 (by decide) (by decide +kernel)
def rm_X11_takeApart : Room := { frames := 4, cells := 0, slots := 0, locals := 130 }
set_option maxHeartbeats 4000000 in
set_option maxRecDepth 100000 in
theorem bk_X11_takeApart_50 (G : KG) (hG : KokC G) (X : KX) (hX : KR X = rm_X11_takeApart) (C : Fr G X cX11_takeApart 6 yX11_takeApart.cls (some .int) wsX11_takeApart) (l1 : Int) (l2 : Int) (Q : Int → Ii → Jj → Prop) (r18 : Int → Int → Ii → Jj → Prop) (w18 : ∀ (l3 : Int) (l4 : Int) (I : Ii) (J : Jj), r18 l3 l4 I J → Wz G X 6 (QsU G X (QsI Q)) 0 0 18 [some (.ref (kadr G 100)), none, none, some (.int (iZ l3)), some (.int (iZ l4)), none] [] I J) (l3 : Int) (l4 : Int) (t0 : Int) (I : Ii) (J : Jj) (h : B_X11_takeApart_50 l1 l2 Q r18 l3 l4 t0 I J)   : Wz G X 6 (QsU G X (QsI Q)) 0 0 50 [some (.ref (kadr G 100)), none, none, some (.int (iZ l3)), some (.int (iZ l4)), none] [.int (iZ t0)] I J := by
  have hz := hG.2
  unfold B_X11_takeApart_50 at h
  refine wz_istore_5 C rfl dX11_takeApart_50 ?_
  refine wz_aload_n C rfl rfl dX11_takeApart_52 ?_
  refine wz_getR C (j := 300) f_X11_takeApart_53 (sOc hz rfl) (by decide) dX11_takeApart_53 ?_
  refine wz_getR C (j := 301) f_X11_takeApart_315 (sOc hz rfl) (by decide) dX11_takeApart_56 ?_
  refine wz_iload C rfl dX11_takeApart_59 ?_
  refine wm_callS C (As := [.ref (kadr G 301), .int (iZ l4)]) (st := []) (a' := 0) (b' := 0) (k_X11_at G hG 301 l4 I J _ h) 2 gX11_takeApart_X11_at rfl (by decide +kernel) (by rw [hX]; exact ⟨Nat.le_of_ble_eq_true rfl, Nat.le_of_ble_eq_true rfl⟩) rfl (Nat.le_of_ble_eq_true rfl) rfl rfl rfl dX11_takeApart_61 (kk_sI (fun v5 I5 J5 h => ?_))
  refine wz_iload C rfl dX11_takeApart_64 ?_
  obtain ⟨g6, h⟩ := h
  obtain ⟨g7, h⟩ := h
  refine wz_icmp_eq C (tgt := 80) g6 g7 dX11_takeApart_66 (by decide) (fun c => ?_) (fun c => ?_)
  · replace h := h.1 c
    refine wz_iinc_4 C rfl dX11_takeApart_80 ?_
    refine wz_goto C dX11_takeApart_83 (tgt := 18) (by decide) ?_
    exact Wz.drop (w18 l3 (l4 + 1) I5 J5 h) (And.intro rfl (And.intro rfl (And.intro rfl trivial)))
  · replace h := h.2 c
    refine wz_aload_n C rfl rfl dX11_takeApart_69 ?_
    refine wz_iload C rfl dX11_takeApart_70 ?_
    refine wz_iload C rfl dX11_takeApart_72 ?_
    refine wm_callV C (o := 100) (As := [.int (iZ l4), .int (iZ t0)]) (st := []) (a' := 0) (b' := 0) (shK_c hz rfl) rfl (k_X11_takeTo G hG l4 t0 I5 J5 _ h) 2 gX11_takeApart_X11_takeTo rfl (by decide +kernel) (by rw [hX]; exact ⟨Nat.le_of_ble_eq_true rfl, Nat.le_of_ble_eq_true rfl⟩) rfl (Nat.le_of_ble_eq_true rfl) rfl rfl rfl dX11_takeApart_74 (kk_sV (fun I8 J8 h => ?_))
    refine wz_iinc_3 C rfl dX11_takeApart_77 ?_
    refine wz_iinc_4 C rfl dX11_takeApart_80 ?_
    refine wz_goto C dX11_takeApart_83 (tgt := 18) (by decide) ?_
    exact Wz.drop (w18 (l3 + 1) (l4 + 1) I8 J8 h) (And.intro rfl (And.intro rfl (And.intro rfl trivial)))
set_option maxHeartbeats 4000000 in
set_option maxRecDepth 100000 in
theorem lk_X11_takeApart_18 (G : KG) (hG : KokC G) (X : KX) (hX : KR X = rm_X11_takeApart) (C : Fr G X cX11_takeApart 6 yX11_takeApart.cls (some .int) wsX11_takeApart) (l1 : Int) (l2 : Int) (Q : Int → Ii → Jj → Prop) : ∀ (n : Nat) (l3 : Int) (l4 : Int) (I : Ii) (J : Jj), L_X11_takeApart_18 l1 l2 Q n l3 l4 I J → Wz G X 6 (QsU G X (QsI Q)) 0 0 18 [some (.ref (kadr G 100)), none, none, some (.int (iZ l3)), some (.int (iZ l4)), none] [] I J := by
  have hz := hG.2
  intro n
  induction n with
  | zero => intro l3 l4 I J h; exact False.elim h
  | succ n w18 =>
    intro l3 l4 I J h
    have h : Lb_X11_takeApart_18 l1 l2 Q (L_X11_takeApart_18 l1 l2 Q n) l3 l4 I J := h
    unfold Lb_X11_takeApart_18 at h
    generalize L_X11_takeApart_18 l1 l2 Q n = r18 at h w18
    refine wz_iload C rfl dX11_takeApart_18 ?_
    refine wz_aload_n C rfl rfl dX11_takeApart_20 ?_
    refine wz_getR C (j := 200) f_X11_takeApart_40 (sOc hz rfl) (by decide) dX11_takeApart_21 ?_
    refine wz_getI C rfl f_X11_takeApart_141 (sOc hz rfl) dX11_takeApart_24 ?_
    obtain ⟨g2, h⟩ := h
    obtain ⟨g3, h⟩ := h
    refine wz_icmp_ge C (tgt := 86) g2 g3 dX11_takeApart_27 (by decide) (fun c => ?_) (fun c => ?_)
    · replace h := h.1 c
      refine wz_iload_n C rfl rfl dX11_takeApart_86 ?_
      exact wz_iret C dX11_takeApart_87 ⟨_, rfl, h⟩
    · replace h := h.2 c
      refine wz_aload_n C rfl rfl dX11_takeApart_30 ?_
      refine wz_getR C (j := 128) f_X11_takeApart_94 (sOc hz rfl) (by decide) dX11_takeApart_31 ?_
      refine wz_getI C rfl f_X11_takeApart_327 (sOc hz rfl) dX11_takeApart_34 ?_
      refine wz_iload C rfl dX11_takeApart_37 ?_
      refine wm_callS C (As := [.int (iZ (I 128 5)), .int (iZ l4)]) (st := []) (a' := 0) (b' := 0) (k_X11_isIn G hG (I 128 5) l4 I J _ h) 2 gX11_takeApart_X11_isIn rfl (by decide +kernel) (by rw [hX]; exact ⟨Nat.le_of_ble_eq_true rfl, Nat.le_of_ble_eq_true rfl⟩) rfl (Nat.le_of_ble_eq_true rfl) rfl rfl rfl dX11_takeApart_39 (kk_sB (fun v4 I4 J4 hb4 h => ?_))
      refine wz_if_eq C (tgt := 49) (rgB hb4) dX11_takeApart_42 (by decide) (fun c => ?_) (fun c => ?_)
      · replace h := h.1 c
        refine wz_iconst C dX11_takeApart_49 ?_
        exact bk_X11_takeApart_50 G hG X hX C l1 l2 Q r18 w18 l3 l4 1 I4 J4 h
      · replace h := h.2 c
        refine wz_iconst C dX11_takeApart_45 ?_
        refine wz_goto C dX11_takeApart_46 (tgt := 50) (by decide) ?_
        exact bk_X11_takeApart_50 G hG X hX C l1 l2 Q r18 w18 l3 l4 0 I4 J4 h
set_option maxHeartbeats 4000000 in
set_option maxRecDepth 100000 in
theorem k_X11_takeApart (G : KG) (hG : KokC G) (l1 : Int) (l2 : Int) (I : Ii) (J : Jj) (Q : Int → Ii → Jj → Prop) (h : wp_X11_takeApart l1 l2 I J Q) : Ctr G yX11_takeApart wsX11_takeApart rm_X11_takeApart [.ref (kadr G 100), .int (iZ l1), .int (iZ l2)] (I, J) (QsI Q) := by
  unfold wp_X11_takeApart at h
  skip
  refine Ctr.ofZ (cc := cX11_takeApart) (nL := 6) (ret := (some .int)) [some (.ref (kadr G 100)), some (.int (iZ l1)), some (.int (iZ l2)), none, none, none] hG.1 (by decide +kernel) rfl (Nat.le_of_ble_eq_true rfl) (Nat.le_of_ble_eq_true rfl) (by simp [lvA, lv_args, Value.category]) ?_
  intro X hX C
  have hz := hG.2
  refine wz_aload_n C rfl rfl dX11_takeApart_0 ?_
  refine wz_getR C (j := 128) f_X11_takeApart_94 (sOc hz rfl) (by decide) dX11_takeApart_1 ?_
  refine wz_aload_n C rfl rfl dX11_takeApart_4 ?_
  refine wz_getR C (j := 200) f_X11_takeApart_40 (sOc hz rfl) (by decide) dX11_takeApart_5 ?_
  refine wz_iload_n C rfl rfl dX11_takeApart_8 ?_
  refine wz_iload_n C rfl rfl dX11_takeApart_9 ?_
  refine wm_callV C (o := 128) (As := [.ref (kadr G 200), .int (iZ l1), .int (iZ l2)]) (st := []) (a' := 0) (b' := 0) (shK_c hz rfl) rfl (k_X1_run G hG 200 l1 l2 I J _ h) 3 gX11_takeApart_X1_run rfl (by decide +kernel) (by rw [hX]; exact ⟨Nat.le_of_ble_eq_true rfl, Nat.le_of_ble_eq_true rfl⟩) rfl (Nat.le_of_ble_eq_true rfl) rfl rfl rfl dX11_takeApart_10 (kk_sV (fun I1 J1 h => ?_))
  refine wz_iconst C dX11_takeApart_13 ?_
  refine wz_istore_3 C rfl dX11_takeApart_14 ?_
  refine wz_iconst C dX11_takeApart_15 ?_
  refine wz_istore_4 C rfl dX11_takeApart_16 ?_
  obtain ⟨n, h⟩ := h
  exact Wz.drop (lk_X11_takeApart_18 G hG X hX C l1 l2 Q n 0 0 I1 J1 h) (And.intro rfl (And.intro rfl (And.intro rfl trivial)))
theorem in_X0_search_X0 : ∀ w ∈ wsX00, w ∈ wsX0_search := by decide +kernel
theorem in_X0_search_X4 : ∀ w ∈ wsX40, w ∈ wsX0_search := by decide +kernel
theorem f_X0_search_9 : FLk wsX0_search RX0 9 3 0 := flk 3 0 rfl tyX0_ok nmX0 in_X0_search_X0 (by decide) (by decide +kernel)
theorem f_X0_search_28 : FLk wsX0_search RX0 28 3 3 := flk 3 3 rfl tyX0_ok nmX0 in_X0_search_X0 (by decide) (by decide +kernel)
theorem fp_X0_3 : FPk 3 3 .int := fun C9 T9 N9 h => by
  have h : some (RX0, TX0, 5) = some (C9, T9, N9) := h
  cases h
  exact ⟨rfl, by decide +kernel⟩
theorem f_X0_search_32 : FLk wsX0_search RX0 32 3 4 := flk 3 4 rfl tyX0_ok nmX0 in_X0_search_X0 (by decide) (by decide +kernel)
theorem fp_X0_4 : FPk 3 4 .int := fun C9 T9 N9 h => by
  have h : some (RX0, TX0, 5) = some (C9, T9, N9) := h
  cases h
  exact ⟨rfl, by decide +kernel⟩
theorem f_X0_search_39 : FLk wsX0_search RX0 39 7 0 := flk 7 0 rfl tyX4_ok nmX4 in_X0_search_X4 (by decide) (by decide +kernel)
theorem f_X0_search_15 : FLk wsX0_search RX0 15 3 1 := flk 3 1 rfl tyX0_ok nmX0 in_X0_search_X0 (by decide) (by decide +kernel)
def rm_X0_search : Room := { frames := 3, cells := 0, slots := 0, locals := 81 }
set_option maxHeartbeats 4000000 in
set_option maxRecDepth 100000 in
theorem bk_X0_search_109 (G : KG) (hG : KokC G) (X : KX) (hX : KR X = rm_X0_search) (C : Fr G X cX0_search 7 yX0_search.cls none wsX0_search) (Q : Ii → Jj → Prop) (r25 : Int → Int → Ii → Jj → Prop) (w25 : ∀ (l3 : Int) (l4 : Int) (I : Ii) (J : Jj), r25 l3 l4 I J → Wz G X 7 (QsU G X (QsV Q)) 0 0 25 [some (.ref (kadr G 124)), some (.ref (kadr G 113)), some (.ref (kadr G 120)), some (.int (iZ l3)), some (.int (iZ l4)), none, none] [] I J) (l4 : Int) (I : Ii) (J : Jj) (h : B_X0_search_109 Q r25 l4 I J)   : Wz G X 7 (QsU G X (QsV Q)) 0 0 109 [some (.ref (kadr G 124)), some (.ref (kadr G 113)), some (.ref (kadr G 120)), none, some (.int (iZ l4)), none, none] [] I J := by
  have hz := hG.2
  unfold B_X0_search_109 at h
  refine wz_aload_n C rfl rfl dX0_search_109 ?_
  refine wz_aload_n C rfl rfl dX0_search_110 ?_
  refine wm_callV C (o := 124) (As := [.ref (kadr G 113)]) (st := []) (a' := 0) (b' := 0) (shK_c hz rfl) rfl (k_X0_advance G hG I J _ h) 1 gX0_search_X0_advance rfl (by decide +kernel) (by rw [hX]; exact ⟨Nat.le_of_ble_eq_true rfl, Nat.le_of_ble_eq_true rfl⟩) rfl (Nat.le_of_ble_eq_true rfl) rfl rfl rfl dX0_search_111 (kk_sB (fun v17 I17 J17 hb17 h => ?_))
  refine wz_istore_3 C rfl dX0_search_114 ?_
  refine wz_iinc_4 C rfl dX0_search_115 ?_
  refine wz_goto C dX0_search_118 (tgt := 25) (by decide) ?_
  exact w25 v17 (l4 + 1) I17 J17 h
set_option maxHeartbeats 4000000 in
set_option maxRecDepth 100000 in
theorem bk_X0_search_86 (G : KG) (hG : KokC G) (X : KX) (hX : KR X = rm_X0_search) (C : Fr G X cX0_search 7 yX0_search.cls none wsX0_search) (Q : Ii → Jj → Prop) (r25 : Int → Int → Ii → Jj → Prop) (w25 : ∀ (l3 : Int) (l4 : Int) (I : Ii) (J : Jj), r25 l3 l4 I J → Wz G X 7 (QsU G X (QsV Q)) 0 0 25 [some (.ref (kadr G 124)), some (.ref (kadr G 113)), some (.ref (kadr G 120)), some (.int (iZ l3)), some (.int (iZ l4)), none, none] [] I J) (l4 : Int) (l5 : Int) (l6 : Int) (I : Ii) (J : Jj) (h : B_X0_search_86 Q r25 l4 l5 l6 I J)   : Wz G X 7 (QsU G X (QsV Q)) 0 0 86 [some (.ref (kadr G 124)), some (.ref (kadr G 113)), some (.ref (kadr G 120)), none, some (.int (iZ l4)), some (.int (iZ l5)), some (.int (iZ l6))] [] I J := by
  have hz := hG.2
  unfold B_X0_search_86 at h
  refine wz_aload_n C rfl rfl dX0_search_86 ?_
  refine wz_iload C rfl dX0_search_87 ?_
  refine wd_putI C f_X0_search_28 fp_X0_3 (sOc hz rfl) dX0_search_89 (fun I14 e => ?_)
  replace h := h I14 e
  refine wz_aload_n C rfl rfl dX0_search_92 ?_
  refine wz_iload C rfl dX0_search_93 ?_
  refine wd_putI C f_X0_search_32 fp_X0_4 (sOc hz rfl) dX0_search_95 (fun I15 e => ?_)
  replace h := h I15 e
  refine wz_aload_n C rfl rfl dX0_search_98 ?_
  refine wz_getR C (j := 125) f_X0_search_9 (sOc hz rfl) (by decide) dX0_search_99 ?_
  refine wz_aload_n C rfl rfl dX0_search_102 ?_
  refine wz_getR C (j := 126) f_X0_search_15 (sOc hz rfl) (by decide) dX0_search_103 ?_
  refine wm_callSN C (As := [.ref (kadr G 125), .ref (kadr G 126)]) (st := []) (a' := 0) (b' := 0) (host := "ShareGraph") (k_X11_copy G hG 125 126 I15 J _ h) 2 gX0_search_X11_copy_n48 (by decide +kernel) (by decide +kernel) (by decide +kernel) rfl (by decide +kernel) (by rw [hX]; exact ⟨Nat.le_of_ble_eq_true rfl, Nat.le_of_ble_eq_true rfl⟩) rfl (Nat.le_of_ble_eq_true rfl) rfl rfl rfl dX0_search_106 (kk_sV (fun I16 J16 h => ?_))
  exact Wz.drop (bk_X0_search_109 G hG X hX C Q r25 w25 l4 I16 J16 h) (And.intro rfl (And.intro rfl (And.intro rfl (And.intro rfl trivial))))
set_option maxHeartbeats 4000000 in
set_option maxRecDepth 100000 in
theorem bk_X0_search_66 (G : KG) (hG : KokC G) (X : KX) (hX : KR X = rm_X0_search) (C : Fr G X cX0_search 7 yX0_search.cls none wsX0_search) (Q : Ii → Jj → Prop) (r25 : Int → Int → Ii → Jj → Prop) (w25 : ∀ (l3 : Int) (l4 : Int) (I : Ii) (J : Jj), r25 l3 l4 I J → Wz G X 7 (QsU G X (QsV Q)) 0 0 25 [some (.ref (kadr G 124)), some (.ref (kadr G 113)), some (.ref (kadr G 120)), some (.int (iZ l3)), some (.int (iZ l4)), none, none] [] I J) (l4 : Int) (l5 : Int) (t0 : Int) (I : Ii) (J : Jj) (h : B_X0_search_66 Q r25 l4 l5 t0 I J)   : Wz G X 7 (QsU G X (QsV Q)) 0 0 66 [some (.ref (kadr G 124)), some (.ref (kadr G 113)), some (.ref (kadr G 120)), none, some (.int (iZ l4)), some (.int (iZ l5)), none] [.int (iZ t0)] I J := by
  have hz := hG.2
  unfold B_X0_search_66 at h
  refine wz_istore_6 C rfl dX0_search_66 ?_
  refine wz_iload C rfl dX0_search_68 ?_
  refine wz_aload_n C rfl rfl dX0_search_70 ?_
  refine wz_getI C rfl f_X0_search_28 (sOc hz rfl) dX0_search_71 ?_
  obtain ⟨g10, h⟩ := h
  obtain ⟨g11, h⟩ := h
  refine wz_icmp_lt C (tgt := 86) g10 g11 dX0_search_74 (by decide) (fun c => ?_) (fun c => ?_)
  · replace h := h.1 c
    exact bk_X0_search_86 G hG X hX C Q r25 w25 l4 l5 t0 I J h
  · replace h := h.2 c
    refine wz_iload C rfl dX0_search_77 ?_
    refine wz_aload_n C rfl rfl dX0_search_79 ?_
    refine wz_getI C rfl f_X0_search_32 (sOc hz rfl) dX0_search_80 ?_
    obtain ⟨g12, h⟩ := h
    obtain ⟨g13, h⟩ := h
    refine wz_icmp_ge C (tgt := 109) g12 g13 dX0_search_83 (by decide) (fun c => ?_) (fun c => ?_)
    · replace h := h.1 c
      exact Wz.drop (bk_X0_search_109 G hG X hX C Q r25 w25 l4 I J h) (And.intro rfl (And.intro rfl (And.intro rfl (And.intro rfl trivial))))
    · replace h := h.2 c
      exact bk_X0_search_86 G hG X hX C Q r25 w25 l4 l5 t0 I J h
set_option maxHeartbeats 4000000 in
set_option maxRecDepth 100000 in
theorem lk_X0_search_25 (G : KG) (hG : KokC G) (X : KX) (hX : KR X = rm_X0_search) (C : Fr G X cX0_search 7 yX0_search.cls none wsX0_search) (Q : Ii → Jj → Prop) : ∀ (n : Nat) (l3 : Int) (l4 : Int) (I : Ii) (J : Jj), L_X0_search_25 Q n l3 l4 I J → Wz G X 7 (QsU G X (QsV Q)) 0 0 25 [some (.ref (kadr G 124)), some (.ref (kadr G 113)), some (.ref (kadr G 120)), some (.int (iZ l3)), some (.int (iZ l4)), none, none] [] I J := by
  have hz := hG.2
  intro n
  induction n with
  | zero => intro l3 l4 I J h; exact False.elim h
  | succ n w25 =>
    intro l3 l4 I J h
    have h : Lb_X0_search_25 Q (L_X0_search_25 Q n) l3 l4 I J := h
    unfold Lb_X0_search_25 at h
    generalize L_X0_search_25 Q n = r25 at h w25
    refine wz_iload_n C rfl rfl dX0_search_25 ?_
    obtain ⟨g4, h⟩ := h
    refine wz_if_eq C (tgt := 121) g4 dX0_search_26 (by decide) (fun c => ?_) (fun c => ?_)
    · replace h := h.1 c
      exact wz_vret C dX0_search_121 ⟨rfl, h⟩
    · replace h := h.2 c
      refine wz_iload C rfl dX0_search_29 ?_
      refine wz_ldc C (n := 1000000) (v := 1000000) (by decide) (by decide +kernel) dX0_search_31 ?_
      obtain ⟨g5, h⟩ := h
      refine wz_icmp_ge C (tgt := 121) g5 (by decide) dX0_search_33 (by decide) (fun c => ?_) (fun c => ?_)
      · replace h := h.1 c
        exact wz_vret C dX0_search_121 ⟨rfl, h⟩
      · replace h := h.2 c
        refine wz_aload_n C rfl rfl dX0_search_36 ?_
        refine wz_aload_n C rfl rfl dX0_search_37 ?_
        refine wm_callV C (o := 124) (As := [.ref (kadr G 113)]) (st := []) (a' := 0) (b' := 0) (shK_c hz rfl) rfl (k_X0_triedDebts G hG I J _ h) 1 gX0_search_X0_triedDebts rfl (by decide +kernel) (by rw [hX]; exact ⟨Nat.le_of_ble_eq_true rfl, Nat.le_of_ble_eq_true rfl⟩) rfl (Nat.le_of_ble_eq_true rfl) rfl rfl rfl dX0_search_38 (kk_sI (fun v6 I6 J6 h => ?_))
        refine wz_istore_5 C rfl dX0_search_41 ?_
        refine wz_iload C rfl dX0_search_43 ?_
        refine wz_aload_n C rfl rfl dX0_search_45 ?_
        refine wz_getI C rfl f_X0_search_28 (sOc hz rfl) dX0_search_46 ?_
        obtain ⟨g7, h⟩ := h
        obtain ⟨g8, h⟩ := h
        refine wz_icmp_le C (tgt := 57) g7 g8 dX0_search_49 (by decide) (fun c => ?_) (fun c => ?_)
        · replace h := h.1 c
          refine wz_aload_n C rfl rfl dX0_search_57 ?_
          refine wz_aload_n C rfl rfl dX0_search_58 ?_
          refine wz_getI C rfl f_X0_search_39 (sOc hz rfl) dX0_search_59 ?_
          refine wz_aload_n C rfl rfl dX0_search_62 ?_
          refine wm_callV C (o := 124) (As := [.int (iZ (I6 113 0)), .ref (kadr G 120)]) (st := []) (a' := 0) (b' := 0) (shK_c hz rfl) rfl (k_X0_triedCut G hG (I6 113 0) I6 J6 _ h) 2 gX0_search_X0_triedCut rfl (by decide +kernel) (by rw [hX]; exact ⟨Nat.le_of_ble_eq_true rfl, Nat.le_of_ble_eq_true rfl⟩) rfl (Nat.le_of_ble_eq_true rfl) rfl rfl rfl dX0_search_63 (kk_sI (fun v9 I9 J9 h => ?_))
          exact Wz.drop (bk_X0_search_66 G hG X hX C Q r25 w25 l4 v6 v9 I9 J9 h) (And.intro rfl (And.intro rfl (And.intro rfl (And.intro rfl (And.intro rfl trivial)))))
        · replace h := h.2 c
          refine wz_ldc C (n := 1000000) (v := 1000000) (by decide) (by decide +kernel) dX0_search_52 ?_
          refine wz_goto C dX0_search_54 (tgt := 66) (by decide) ?_
          exact Wz.drop (bk_X0_search_66 G hG X hX C Q r25 w25 l4 v6 1000000 I6 J6 h) (And.intro rfl (And.intro rfl (And.intro rfl (And.intro rfl (And.intro rfl trivial)))))
set_option maxHeartbeats 4000000 in
set_option maxRecDepth 100000 in
theorem k_X0_search (G : KG) (hG : KokC G) (I : Ii) (J : Jj) (Q : Ii → Jj → Prop) (h : wp_X0_search I J Q) : Ctr G yX0_search wsX0_search rm_X0_search [.ref (kadr G 124), .ref (kadr G 113), .ref (kadr G 120)] (I, J) (QsV Q) := by
  unfold wp_X0_search at h
  skip
  refine Ctr.ofZ (cc := cX0_search) (nL := 7) (ret := none) [some (.ref (kadr G 124)), some (.ref (kadr G 113)), some (.ref (kadr G 120)), none, none, none, none] hG.1 (by decide +kernel) rfl (Nat.le_of_ble_eq_true rfl) (Nat.le_of_ble_eq_true rfl) (by simp [lvA, lv_args, Value.category]) ?_
  intro X hX C
  have hz := hG.2
  refine wz_aload_n C rfl rfl dX0_search_0 ?_
  refine wz_getR C (j := 125) f_X0_search_9 (sOc hz rfl) (by decide) dX0_search_1 ?_
  refine wz_iconst C dX0_search_4 ?_
  refine wm_callSo C (As := [.ref (kadr G 125), .int (iZ 0)]) (st := []) (a' := 0) (b' := 0) (k_J7_fill_53178 G hG 125 0 I J _ h) 2 (goodIn_wsS gX0_search_J7_fill_53178) (by decide +kernel) (by decide +kernel) (by decide +kernel) rfl (by decide +kernel) (by rw [hX]; exact ⟨Nat.le_of_ble_eq_true rfl, Nat.le_of_ble_eq_true rfl⟩) rfl (Nat.le_of_ble_eq_true rfl) rfl rfl rfl dX0_search_5 (kk_sV (fun I1 J1 h => ?_))
  refine wz_aload_n C rfl rfl dX0_search_8 ?_
  refine wz_ldc C (n := 1000000) (v := 1000000) (by decide) (by decide +kernel) dX0_search_9 ?_
  refine wd_putI C f_X0_search_28 fp_X0_3 (sOc hz rfl) dX0_search_11 (fun I2 e => ?_)
  replace h := h I2 e
  refine wz_aload_n C rfl rfl dX0_search_14 ?_
  refine wz_ldc C (n := 1000000) (v := 1000000) (by decide) (by decide +kernel) dX0_search_15 ?_
  refine wd_putI C f_X0_search_32 fp_X0_4 (sOc hz rfl) dX0_search_17 (fun I3 e => ?_)
  replace h := h I3 e
  refine wz_iconst C dX0_search_20 ?_
  refine wz_istore_3 C rfl dX0_search_21 ?_
  refine wz_iconst C dX0_search_22 ?_
  refine wz_istore_4 C rfl dX0_search_23 ?_
  obtain ⟨n, h⟩ := h
  exact lk_X0_search_25 G hG X hX C Q n 1 0 I3 J1 h
theorem in_X3_keep_X3 : ∀ w ∈ wsX30, w ∈ wsX3_keep := by decide +kernel
theorem f_X3_keep_22 : FLk wsX3_keep RX3 22 6 1 := flk 6 1 rfl tyX3_ok nmX3 in_X3_keep_X3 (by decide) (by decide +kernel)
theorem fp_X3_1 : FPk 6 1 .int := fun C9 T9 N9 h => by
  have h : some (RX3, TX3, 3) = some (C9, T9, N9) := h
  cases h
  exact ⟨rfl, by decide +kernel⟩
theorem f_X3_keep_18 : FLk wsX3_keep RX3 18 6 2 := flk 6 2 rfl tyX3_ok nmX3 in_X3_keep_X3 (by decide) (by decide +kernel)
def rm_X3_keep : Room := { frames := 3, cells := 0, slots := 0, locals := 102 }
set_option maxHeartbeats 4000000 in
set_option maxRecDepth 100000 in
theorem k_X3_keep (G : KG) (hG : KokC G) (k1 : Nat) (I : Ii) (J : Jj) (Q : Ii → Jj → Prop) (h : wp_X3_keep k1 I J Q) : Ctr G yX3_keep wsX3_keep rm_X3_keep [.ref (kadr G 111), .ref (kadr G k1)] (I, J) (QsV Q) := by
  unfold wp_X3_keep at h
  obtain ⟨hk1, h⟩ := h
  refine Ctr.ofZ (cc := cX3_keep) (nL := 3) (ret := none) [some (.ref (kadr G 111)), some (.ref (kadr G k1)), none] hG.1 (by decide +kernel) rfl (Nat.le_of_ble_eq_true rfl) (Nat.le_of_ble_eq_true rfl) (by simp [lvA, lv_args, Value.category]) ?_
  intro X hX C
  have hz := hG.2
  refine wz_aload_n C rfl rfl dX3_keep_0 ?_
  refine wz_aload_n C rfl rfl dX3_keep_1 ?_
  refine wz_getI C rfl f_X3_keep_22 (sOc hz rfl) dX3_keep_2 ?_
  refine wz_iconst C dX3_keep_5 ?_
  refine wz_iadd C dX3_keep_6 ?_
  refine wz_bipush C (by decide) dX3_keep_7 ?_
  obtain ⟨g1, h⟩ := h
  refine wd_irem C g1 dX3_keep_9 ?_
  refine wd_putI C f_X3_keep_22 fp_X3_1 (sOc hz rfl) dX3_keep_10 (fun I2 e => ?_)
  replace h := h I2 e
  refine wz_aload_n C rfl rfl dX3_keep_13 ?_
  refine wz_aload_n C rfl rfl dX3_keep_14 ?_
  refine wz_getI C rfl f_X3_keep_22 (sOc hz rfl) dX3_keep_15 ?_
  refine wm_callV C (o := 111) (As := [.int (iZ (I2 111 1))]) (st := []) (a' := 0) (b' := 0) (shK_c hz rfl) rfl (k_X3_entry G hG (I2 111 1) I2 J _ h) 1 gX3_keep_X3_entry rfl (by decide +kernel) (by rw [hX]; exact ⟨Nat.le_of_ble_eq_true rfl, Nat.le_of_ble_eq_true rfl⟩) rfl (Nat.le_of_ble_eq_true rfl) rfl rfl rfl dX3_keep_18 (kk_sR (fun v3 I3 J3 h => ?_))
  refine wd_astore_2 C rfl dX3_keep_21 ?_
  refine wd_aload_n C rfl rfl dX3_keep_22 ?_
  refine wd_ifnull C (tgt := 46) dX3_keep_23 (by decide) (fun c => ?_) (fun k4 c => ?_)
  · replace h := h.1 c
    exact wz_vret C dX3_keep_46 ⟨rfl, h⟩
  · replace h := h.2 k4 c
    obtain ⟨gk4, h⟩ := h
    subst c
    refine wz_aload_n C rfl rfl dX3_keep_26 ?_
    refine wz_aload_n C rfl rfl dX3_keep_27 ?_
    refine wm_callV C (o := k4) (As := [.ref (kadr G k1)]) (st := []) (a' := 0) (b' := 0) (shK_c hz (spX8 (sK_of gk4))) rfl (k_X8_copyFrom G hG k4 k1 I3 J3 _ h) 1 gX3_keep_X8_copyFrom rfl (by decide +kernel) (by rw [hX]; exact ⟨Nat.le_of_ble_eq_true rfl, Nat.le_of_ble_eq_true rfl⟩) rfl (Nat.le_of_ble_eq_true rfl) rfl rfl rfl dX3_keep_28 (kk_sV (fun I5 J5 h => ?_))
    refine wz_aload_n C rfl rfl dX3_keep_31 ?_
    refine wz_aload_n C rfl rfl dX3_keep_32 ?_
    refine wz_getI C rfl f_X3_keep_18 (sOc hz rfl) dX3_keep_33 ?_
    refine wz_iconst C dX3_keep_36 ?_
    refine wz_iadd C dX3_keep_37 ?_
    refine wz_bipush C (by decide) dX3_keep_38 ?_
    refine wd_min C (st := [.ref (kadr G 111)]) h (by decide +kernel) (by decide +kernel) (by decide +kernel) (by decide +kernel) (by rw [hX]; exact ⟨Nat.le_of_ble_eq_true rfl, Nat.le_of_ble_eq_true rfl⟩) dX3_keep_40 (fun v6 I6 J6 h => ?_)
    refine wd_putI C f_X3_keep_18 fp_X3_2 (sOc hz rfl) dX3_keep_43 (fun I7 e => ?_)
    replace h := h I7 e
    exact wz_vret C dX3_keep_46 ⟨rfl, h⟩
theorem in_X3_takeBack_X3 : ∀ w ∈ wsX30, w ∈ wsX3_takeBack := by decide +kernel
theorem f_X3_takeBack_22 : FLk wsX3_takeBack RX3 22 6 1 := flk 6 1 rfl tyX3_ok nmX3 in_X3_takeBack_X3 (by decide) (by decide +kernel)
theorem f_X3_takeBack_18 : FLk wsX3_takeBack RX3 18 6 2 := flk 6 2 rfl tyX3_ok nmX3 in_X3_takeBack_X3 (by decide) (by decide +kernel)
def rm_X3_takeBack : Room := { frames := 3, cells := 0, slots := 0, locals := 102 }
set_option maxHeartbeats 4000000 in
set_option maxRecDepth 100000 in
theorem k_X3_takeBack (G : KG) (hG : KokC G) (k1 : Nat) (I : Ii) (J : Jj) (Q : Int → Ii → Jj → Prop) (h : wp_X3_takeBack k1 I J Q) : Ctr G yX3_takeBack wsX3_takeBack rm_X3_takeBack [.ref (kadr G 111), .ref (kadr G k1)] (I, J) (QsB Q) := by
  unfold wp_X3_takeBack at h
  obtain ⟨hk1, h⟩ := h
  refine Ctr.ofZ (cc := cX3_takeBack) (nL := 3) (ret := (some .boolean)) [some (.ref (kadr G 111)), some (.ref (kadr G k1)), none] hG.1 (by decide +kernel) rfl (Nat.le_of_ble_eq_true rfl) (Nat.le_of_ble_eq_true rfl) (by simp [lvA, lv_args, Value.category]) ?_
  intro X hX C
  have hz := hG.2
  refine wz_aload_n C rfl rfl dX3_takeBack_0 ?_
  refine wz_aload_n C rfl rfl dX3_takeBack_1 ?_
  refine wz_getI C rfl f_X3_takeBack_22 (sOc hz rfl) dX3_takeBack_2 ?_
  refine wm_callV C (o := 111) (As := [.int (iZ (I 111 1))]) (st := []) (a' := 0) (b' := 0) (shK_c hz rfl) rfl (k_X3_entry G hG (I 111 1) I J _ h) 1 gX3_takeBack_X3_entry rfl (by decide +kernel) (by rw [hX]; exact ⟨Nat.le_of_ble_eq_true rfl, Nat.le_of_ble_eq_true rfl⟩) rfl (Nat.le_of_ble_eq_true rfl) rfl rfl rfl dX3_takeBack_5 (kk_sR (fun v1 I1 J1 h => ?_))
  refine wd_astore_2 C rfl dX3_takeBack_8 ?_
  refine wz_aload_n C rfl rfl dX3_takeBack_9 ?_
  refine wz_getI C rfl f_X3_takeBack_18 (sOc hz rfl) dX3_takeBack_10 ?_
  obtain ⟨g2, h⟩ := h
  refine wz_if_eq C (tgt := 20) g2 dX3_takeBack_13 (by decide) (fun c => ?_) (fun c => ?_)
  · replace h := h.1 c
    refine wz_iconst C dX3_takeBack_20 ?_
    exact wz_zret C (Or.inl rfl) dX3_takeBack_21 ⟨_, rfl, (Or.inl rfl), h⟩
  · replace h := h.2 c
    refine wd_aload_n C rfl rfl dX3_takeBack_16 ?_
    refine wd_ifnonnull C (tgt := 22) dX3_takeBack_17 (by decide) (fun c => ?_) (fun k3 c => ?_)
    · replace h := h.1 c
      refine wz_iconst C dX3_takeBack_20 ?_
      exact wz_zret C (Or.inl rfl) dX3_takeBack_21 ⟨_, rfl, (Or.inl rfl), h⟩
    · replace h := h.2 k3 c
      obtain ⟨gk3, h⟩ := h
      subst c
      refine wz_aload_n C rfl rfl dX3_takeBack_22 ?_
      refine wz_aload_n C rfl rfl dX3_takeBack_23 ?_
      refine wm_callV C (o := k1) (As := [.ref (kadr G k3)]) (st := []) (a' := 0) (b' := 0) (shK_c hz (spX8 hk1)) rfl (k_X8_copyFrom G hG k1 k3 I1 J1 _ h) 1 gX3_takeBack_X8_copyFrom rfl (by decide +kernel) (by rw [hX]; exact ⟨Nat.le_of_ble_eq_true rfl, Nat.le_of_ble_eq_true rfl⟩) rfl (Nat.le_of_ble_eq_true rfl) rfl rfl rfl dX3_takeBack_24 (kk_sV (fun I4 J4 h => ?_))
      refine wz_aload_n C rfl rfl dX3_takeBack_27 ?_
      refine wz_aload_n C rfl rfl dX3_takeBack_28 ?_
      refine wz_getI C rfl f_X3_takeBack_22 (sOc hz rfl) dX3_takeBack_29 ?_
      refine wz_bipush C (by decide) dX3_takeBack_32 ?_
      refine wz_iadd C dX3_takeBack_34 ?_
      refine wz_iconst C dX3_takeBack_35 ?_
      refine wz_isub C dX3_takeBack_36 ?_
      refine wz_bipush C (by decide) dX3_takeBack_37 ?_
      obtain ⟨g5, h⟩ := h
      refine wd_irem C g5 dX3_takeBack_39 ?_
      refine wd_putI C f_X3_takeBack_22 fp_X3_1 (sOc hz rfl) dX3_takeBack_40 (fun I6 e => ?_)
      replace h := h I6 e
      refine wz_aload_n C rfl rfl dX3_takeBack_43 ?_
      refine wz_dup C rfl dX3_takeBack_44 ?_
      refine wz_getI C rfl f_X3_takeBack_18 (sOc hz rfl) dX3_takeBack_45 ?_
      refine wz_iconst C dX3_takeBack_48 ?_
      refine wz_isub C dX3_takeBack_49 ?_
      refine wd_putI C f_X3_takeBack_18 fp_X3_2 (sOc hz rfl) dX3_takeBack_50 (fun I7 e => ?_)
      replace h := h I7 e
      refine wz_iconst C dX3_takeBack_53 ?_
      exact wz_zret C (Or.inr rfl) dX3_takeBack_54 ⟨_, rfl, (Or.inr rfl), h⟩
theorem in_X9_readVertex_X10 : ∀ w ∈ wsX100, w ∈ wsX9_readVertex := by decide +kernel
theorem in_X9_readVertex_X2 : ∀ w ∈ wsX20, w ∈ wsX9_readVertex := by decide +kernel
theorem f_X9_readVertex_68 : FLk wsX9_readVertex RX9 68 5 0 := flk 5 0 rfl tyX2_ok nmX2 in_X9_readVertex_X2 (by decide) (by decide +kernel)
theorem f_X9_readVertex_71 : FLk wsX9_readVertex RX9 71 13 6 := flk 13 6 rfl tyX10_ok nmX10 in_X9_readVertex_X10 (by decide) (by decide +kernel)
theorem f_X9_readVertex_83 : FLk wsX9_readVertex RX9 83 13 7 := flk 13 7 rfl tyX10_ok nmX10 in_X9_readVertex_X10 (by decide) (by decide +kernel)
def rm_X9_readVertex : Room := { frames := 4, cells := 0, slots := 0, locals := 85 }
set_option maxHeartbeats 4000000 in
set_option maxRecDepth 100000 in
theorem k_X9_readVertex (G : KG) (hG : KokC G) (k2 : Nat) (I : Ii) (J : Jj) (Q : Int → Ii → Jj → Prop) (h : wp_X9_readVertex k2 I J Q) : Ctr G yX9_readVertex wsX9_readVertex rm_X9_readVertex [.ref (kadr G 103), .ref (kadr G 101), .ref (kadr G k2)] (I, J) (QsB Q) := by
  unfold wp_X9_readVertex at h
  obtain ⟨hk2, h⟩ := h
  refine Ctr.ofZ (cc := cX9_readVertex) (nL := 5) (ret := (some .boolean)) [some (.ref (kadr G 103)), some (.ref (kadr G 101)), some (.ref (kadr G k2)), none, none] hG.1 (by decide +kernel) rfl (Nat.le_of_ble_eq_true rfl) (Nat.le_of_ble_eq_true rfl) (by simp [lvA, lv_args, Value.category]) ?_
  intro X hX C
  have hz := hG.2
  refine wz_aload_n C rfl rfl dX9_readVertex_0 ?_
  refine wz_getI C rfl f_X9_readVertex_68 (sOc hz (soX2_0 hk2)) dX9_readVertex_1 ?_
  refine wz_bipush C (by decide) dX9_readVertex_4 ?_
  obtain ⟨g1, h⟩ := h
  refine wz_icmp_lt C (tgt := 16) g1 (by decide) dX9_readVertex_6 (by decide) (fun c => ?_) (fun c => ?_)
  · replace h := h.1 c
    refine wz_aload_n C rfl rfl dX9_readVertex_16 ?_
    refine wz_iconst C dX9_readVertex_17 ?_
    refine wm_callV C (o := 101) (As := [.int (iZ 1)]) (st := []) (a' := 0) (b' := 0) (shK_c hz rfl) rfl (k_X10_takes G hG 1 I J _ h) 1 gX9_readVertex_X10_takes rfl (by decide +kernel) (by rw [hX]; exact ⟨Nat.le_of_ble_eq_true rfl, Nat.le_of_ble_eq_true rfl⟩) rfl (Nat.le_of_ble_eq_true rfl) rfl rfl rfl dX9_readVertex_18 (kk_sB (fun v2 I2 J2 hb2 h => ?_))
    refine wz_if_ne C (tgt := 26) (rgB hb2) dX9_readVertex_21 (by decide) (fun c => ?_) (fun c => ?_)
    · replace h := h.1 c
      refine wz_aload_n C rfl rfl dX9_readVertex_26 ?_
      refine wz_getJ C rfl f_X9_readVertex_71 (sOc hz rfl) dX9_readVertex_27 ?_
      refine wz_lstore_3 C rfl dX9_readVertex_30 ?_
      refine wz_aload_n C rfl rfl dX9_readVertex_31 ?_
      refine wz_lload_n C rfl rfl dX9_readVertex_32 ?_
      refine wm_callV C (o := k2) (As := [.long (J2 101 6)]) (st := []) (a' := 0) (b' := 0) (shK_c hz (spX2 hk2)) rfl (k_X2_vertexNamed G hG k2 (J2 101 6) I2 J2 _ h) 1 gX9_readVertex_X2_vertexNamed rfl (by decide +kernel) (by rw [hX]; exact ⟨Nat.le_of_ble_eq_true rfl, Nat.le_of_ble_eq_true rfl⟩) rfl (Nat.le_of_ble_eq_true rfl) rfl rfl rfl dX9_readVertex_33 (kk_sI (fun v3 I3 J3 h => ?_))
      refine wz_iconst C dX9_readVertex_36 ?_
      obtain ⟨g4, h⟩ := h
      refine wz_icmp_eq C (tgt := 46) g4 (by decide) dX9_readVertex_37 (by decide) (fun c => ?_) (fun c => ?_)
      · replace h := h.1 c
        refine wz_aload_n C rfl rfl dX9_readVertex_46 ?_
        refine wz_iconst C dX9_readVertex_47 ?_
        refine wz_bipush C (by decide) dX9_readVertex_48 ?_
        refine wm_callV C (o := 101) (As := [.int (iZ 1), .int (iZ 99)]) (st := []) (a' := 0) (b' := 0) (shK_c hz rfl) rfl (k_X10_takesNumber G hG 1 99 I3 J3 _ h) 2 gX9_readVertex_X10_takesNumber rfl (by decide +kernel) (by rw [hX]; exact ⟨Nat.le_of_ble_eq_true rfl, Nat.le_of_ble_eq_true rfl⟩) rfl (Nat.le_of_ble_eq_true rfl) rfl rfl rfl dX9_readVertex_50 (kk_sB (fun v5 I5 J5 hb5 h => ?_))
        refine wz_if_ne C (tgt := 58) (rgB hb5) dX9_readVertex_53 (by decide) (fun c => ?_) (fun c => ?_)
        · replace h := h.1 c
          refine wz_aload_n C rfl rfl dX9_readVertex_58 ?_
          refine wz_lload_n C rfl rfl dX9_readVertex_59 ?_
          refine wz_aload_n C rfl rfl dX9_readVertex_60 ?_
          refine wz_getI C rfl f_X9_readVertex_83 (sOc hz rfl) dX9_readVertex_61 ?_
          refine wm_callV C (o := k2) (As := [.long (J2 101 6), .int (iZ (I5 101 7))]) (st := []) (a' := 0) (b' := 0) (shK_c hz (spX2 hk2)) rfl (k_X2_addVertex G hG k2 (J2 101 6) (I5 101 7) I5 J5 _ h) 2 gX9_readVertex_X2_addVertex rfl (by decide +kernel) (by rw [hX]; exact ⟨Nat.le_of_ble_eq_true rfl, Nat.le_of_ble_eq_true rfl⟩) rfl (Nat.le_of_ble_eq_true rfl) rfl rfl rfl dX9_readVertex_64 (kk_sV (fun I6 J6 h => ?_))
          refine wz_iconst C dX9_readVertex_67 ?_
          exact wz_zret C (Or.inr rfl) dX9_readVertex_68 ⟨_, rfl, (Or.inr rfl), h⟩
        · replace h := h.2 c
          refine wz_iconst C dX9_readVertex_56 ?_
          exact wz_zret C (Or.inl rfl) dX9_readVertex_57 ⟨_, rfl, (Or.inl rfl), h⟩
      · replace h := h.2 c
        refine wz_aload_n C rfl rfl dX9_readVertex_40 ?_
        refine wz_iconst C dX9_readVertex_41 ?_
        refine wm_callV C (o := 101) (As := [.int (iZ 3)]) (st := []) (a' := 0) (b' := 0) (shK_c hz rfl) rfl (k_X10_fail G hG 3 I3 J3 _ h) 1 gX9_readVertex_X10_fail rfl (by decide +kernel) (by rw [hX]; exact ⟨Nat.le_of_ble_eq_true rfl, Nat.le_of_ble_eq_true rfl⟩) rfl (Nat.le_of_ble_eq_true rfl) rfl rfl rfl dX9_readVertex_42 (kk_sB (fun v7 I7 J7 hb7 h => ?_))
        exact wz_zret C h.1 dX9_readVertex_45 ⟨_, rfl, h.1, h.2⟩
    · replace h := h.2 c
      refine wz_iconst C dX9_readVertex_24 ?_
      exact wz_zret C (Or.inl rfl) dX9_readVertex_25 ⟨_, rfl, (Or.inl rfl), h⟩
  · replace h := h.2 c
    refine wz_aload_n C rfl rfl dX9_readVertex_9 ?_
    refine wz_bipush C (by decide) dX9_readVertex_10 ?_
    refine wm_callV C (o := 101) (As := [.int (iZ 6)]) (st := []) (a' := 0) (b' := 0) (shK_c hz rfl) rfl (k_X10_fail G hG 6 I J _ h) 1 gX9_readVertex_X10_fail rfl (by decide +kernel) (by rw [hX]; exact ⟨Nat.le_of_ble_eq_true rfl, Nat.le_of_ble_eq_true rfl⟩) rfl (Nat.le_of_ble_eq_true rfl) rfl rfl rfl dX9_readVertex_12 (kk_sB (fun v8 I8 J8 hb8 h => ?_))
    exact wz_zret C h.1 dX9_readVertex_15 ⟨_, rfl, h.1, h.2⟩
theorem in_X9_readEdge_X10 : ∀ w ∈ wsX100, w ∈ wsX9_readEdge := by decide +kernel
theorem in_X9_readEdge_X2 : ∀ w ∈ wsX20, w ∈ wsX9_readEdge := by decide +kernel
theorem f_X9_readEdge_90 : FLk wsX9_readEdge RX9 90 5 1 := flk 5 1 rfl tyX2_ok nmX2 in_X9_readEdge_X2 (by decide) (by decide +kernel)
theorem f_X9_readEdge_71 : FLk wsX9_readEdge RX9 71 13 6 := flk 13 6 rfl tyX10_ok nmX10 in_X9_readEdge_X10 (by decide) (by decide +kernel)
theorem f_X9_readEdge_83 : FLk wsX9_readEdge RX9 83 13 7 := flk 13 7 rfl tyX10_ok nmX10 in_X9_readEdge_X10 (by decide) (by decide +kernel)
def rm_X9_readEdge : Room := { frames := 4, cells := 0, slots := 0, locals := 85 }
set_option maxHeartbeats 4000000 in
set_option maxRecDepth 100000 in
theorem bk_X9_readEdge_78 (G : KG) (hG : KokC G) (X : KX) (hX : KR X = rm_X9_readEdge) (C : Fr G X cX9_readEdge 5 yX9_readEdge.cls (some .boolean) wsX9_readEdge) (k2 : Nat) (hk2 : gK k2) (Q : Int → Ii → Jj → Prop)  (I : Ii) (J : Jj) (h : B_X9_readEdge_78 k2 Q  I J)   : Wz G X 5 (QsU G X (QsB Q)) 0 0 78 [none, some (.ref (kadr G 101)), none, none, none] [] I J := by
  have hz := hG.2
  unfold B_X9_readEdge_78 at h
  refine wz_aload_n C rfl rfl dX9_readEdge_78 ?_
  refine wz_iconst C dX9_readEdge_79 ?_
  refine wm_callV C (o := 101) (As := [.int (iZ 3)]) (st := []) (a' := 0) (b' := 0) (shK_c hz rfl) rfl (k_X10_fail G hG 3 I J _ h) 1 gX9_readEdge_X10_fail rfl (by decide +kernel) (by rw [hX]; exact ⟨Nat.le_of_ble_eq_true rfl, Nat.le_of_ble_eq_true rfl⟩) rfl (Nat.le_of_ble_eq_true rfl) rfl rfl rfl dX9_readEdge_80 (kk_sB (fun v16 I16 J16 hb16 h => ?_))
  exact wz_zret C h.1 dX9_readEdge_83 ⟨_, rfl, h.1, h.2⟩
set_option maxHeartbeats 4000000 in
set_option maxRecDepth 100000 in
theorem k_X9_readEdge (G : KG) (hG : KokC G) (k2 : Nat) (I : Ii) (J : Jj) (Q : Int → Ii → Jj → Prop) (h : wp_X9_readEdge k2 I J Q) : Ctr G yX9_readEdge wsX9_readEdge rm_X9_readEdge [.ref (kadr G 103), .ref (kadr G 101), .ref (kadr G k2)] (I, J) (QsB Q) := by
  unfold wp_X9_readEdge at h
  obtain ⟨hk2, h⟩ := h
  refine Ctr.ofZ (cc := cX9_readEdge) (nL := 5) (ret := (some .boolean)) [some (.ref (kadr G 103)), some (.ref (kadr G 101)), some (.ref (kadr G k2)), none, none] hG.1 (by decide +kernel) rfl (Nat.le_of_ble_eq_true rfl) (Nat.le_of_ble_eq_true rfl) (by simp [lvA, lv_args, Value.category]) ?_
  intro X hX C
  have hz := hG.2
  refine wz_aload_n C rfl rfl dX9_readEdge_0 ?_
  refine wz_getI C rfl f_X9_readEdge_90 (sOc hz (soX2_1 hk2)) dX9_readEdge_1 ?_
  refine wz_bipush C (by decide) dX9_readEdge_4 ?_
  obtain ⟨g1, h⟩ := h
  refine wz_icmp_lt C (tgt := 16) g1 (by decide) dX9_readEdge_6 (by decide) (fun c => ?_) (fun c => ?_)
  · replace h := h.1 c
    refine wz_aload_n C rfl rfl dX9_readEdge_16 ?_
    refine wz_iconst C dX9_readEdge_17 ?_
    refine wm_callV C (o := 101) (As := [.int (iZ 1)]) (st := []) (a' := 0) (b' := 0) (shK_c hz rfl) rfl (k_X10_takes G hG 1 I J _ h) 1 gX9_readEdge_X10_takes rfl (by decide +kernel) (by rw [hX]; exact ⟨Nat.le_of_ble_eq_true rfl, Nat.le_of_ble_eq_true rfl⟩) rfl (Nat.le_of_ble_eq_true rfl) rfl rfl rfl dX9_readEdge_18 (kk_sB (fun v2 I2 J2 hb2 h => ?_))
    refine wz_if_ne C (tgt := 26) (rgB hb2) dX9_readEdge_21 (by decide) (fun c => ?_) (fun c => ?_)
    · replace h := h.1 c
      refine wz_aload_n C rfl rfl dX9_readEdge_26 ?_
      refine wz_aload_n C rfl rfl dX9_readEdge_27 ?_
      refine wz_getJ C rfl f_X9_readEdge_71 (sOc hz rfl) dX9_readEdge_28 ?_
      refine wm_callV C (o := k2) (As := [.long (J2 101 6)]) (st := []) (a' := 0) (b' := 0) (shK_c hz (spX2 hk2)) rfl (k_X2_vertexNamed G hG k2 (J2 101 6) I2 J2 _ h) 1 gX9_readEdge_X2_vertexNamed rfl (by decide +kernel) (by rw [hX]; exact ⟨Nat.le_of_ble_eq_true rfl, Nat.le_of_ble_eq_true rfl⟩) rfl (Nat.le_of_ble_eq_true rfl) rfl rfl rfl dX9_readEdge_31 (kk_sI (fun v3 I3 J3 h => ?_))
      refine wz_istore_3 C rfl dX9_readEdge_34 ?_
      refine wz_iload_n C rfl rfl dX9_readEdge_35 ?_
      refine wz_iconst C dX9_readEdge_36 ?_
      obtain ⟨g4, h⟩ := h
      refine wz_icmp_ne C (tgt := 46) g4 (by decide) dX9_readEdge_37 (by decide) (fun c => ?_) (fun c => ?_)
      · replace h := h.1 c
        refine wz_aload_n C rfl rfl dX9_readEdge_46 ?_
        refine wz_iconst C dX9_readEdge_47 ?_
        refine wm_callV C (o := 101) (As := [.int (iZ 1)]) (st := []) (a' := 0) (b' := 0) (shK_c hz rfl) rfl (k_X10_takes G hG 1 I3 J3 _ h) 1 gX9_readEdge_X10_takes rfl (by decide +kernel) (by rw [hX]; exact ⟨Nat.le_of_ble_eq_true rfl, Nat.le_of_ble_eq_true rfl⟩) rfl (Nat.le_of_ble_eq_true rfl) rfl rfl rfl dX9_readEdge_48 (kk_sB (fun v5 I5 J5 hb5 h => ?_))
        refine wz_if_ne C (tgt := 56) (rgB hb5) dX9_readEdge_51 (by decide) (fun c => ?_) (fun c => ?_)
        · replace h := h.1 c
          refine wz_aload_n C rfl rfl dX9_readEdge_56 ?_
          refine wz_aload_n C rfl rfl dX9_readEdge_57 ?_
          refine wz_getJ C rfl f_X9_readEdge_71 (sOc hz rfl) dX9_readEdge_58 ?_
          refine wm_callV C (o := k2) (As := [.long (J5 101 6)]) (st := []) (a' := 0) (b' := 0) (shK_c hz (spX2 hk2)) rfl (k_X2_vertexNamed G hG k2 (J5 101 6) I5 J5 _ h) 1 gX9_readEdge_X2_vertexNamed rfl (by decide +kernel) (by rw [hX]; exact ⟨Nat.le_of_ble_eq_true rfl, Nat.le_of_ble_eq_true rfl⟩) rfl (Nat.le_of_ble_eq_true rfl) rfl rfl rfl dX9_readEdge_61 (kk_sI (fun v6 I6 J6 h => ?_))
          refine wz_istore_4 C rfl dX9_readEdge_64 ?_
          refine wz_iload C rfl dX9_readEdge_66 ?_
          refine wz_iconst C dX9_readEdge_68 ?_
          obtain ⟨g7, h⟩ := h
          refine wz_icmp_eq C (tgt := 78) g7 (by decide) dX9_readEdge_69 (by decide) (fun c => ?_) (fun c => ?_)
          · replace h := h.1 c
            exact Wz.drop (bk_X9_readEdge_78 G hG X hX C k2 hk2 Q I6 J6 h) (And.intro rfl trivial)
          · replace h := h.2 c
            refine wz_iload C rfl dX9_readEdge_72 ?_
            refine wz_iload_n C rfl rfl dX9_readEdge_74 ?_
            obtain ⟨g8, h⟩ := h
            refine wz_icmp_ne C (tgt := 84) g7 g8 dX9_readEdge_75 (by decide) (fun c => ?_) (fun c => ?_)
            · replace h := h.1 c
              refine wz_aload_n C rfl rfl dX9_readEdge_84 ?_
              refine wz_iload_n C rfl rfl dX9_readEdge_85 ?_
              refine wz_iload C rfl dX9_readEdge_86 ?_
              refine wm_callV C (o := k2) (As := [.int (iZ v3), .int (iZ v6)]) (st := []) (a' := 0) (b' := 0) (shK_c hz (spX2 hk2)) rfl (k_X2_edgeOf G hG k2 v3 v6 I6 J6 _ h) 2 gX9_readEdge_X2_edgeOf rfl (by decide +kernel) (by rw [hX]; exact ⟨Nat.le_of_ble_eq_true rfl, Nat.le_of_ble_eq_true rfl⟩) rfl (Nat.le_of_ble_eq_true rfl) rfl rfl rfl dX9_readEdge_88 (kk_sI (fun v9 I9 J9 h => ?_))
              refine wz_iconst C dX9_readEdge_91 ?_
              obtain ⟨g10, h⟩ := h
              refine wz_icmp_eq C (tgt := 101) g10 (by decide) dX9_readEdge_92 (by decide) (fun c => ?_) (fun c => ?_)
              · replace h := h.1 c
                refine wz_aload_n C rfl rfl dX9_readEdge_101 ?_
                refine wz_iconst C dX9_readEdge_102 ?_
                refine wz_bipush C (by decide) dX9_readEdge_103 ?_
                refine wm_callV C (o := 101) (As := [.int (iZ 1), .int (iZ 99)]) (st := []) (a' := 0) (b' := 0) (shK_c hz rfl) rfl (k_X10_takesNumber G hG 1 99 I9 J9 _ h) 2 gX9_readEdge_X10_takesNumber rfl (by decide +kernel) (by rw [hX]; exact ⟨Nat.le_of_ble_eq_true rfl, Nat.le_of_ble_eq_true rfl⟩) rfl (Nat.le_of_ble_eq_true rfl) rfl rfl rfl dX9_readEdge_105 (kk_sB (fun v11 I11 J11 hb11 h => ?_))
                refine wz_if_ne C (tgt := 113) (rgB hb11) dX9_readEdge_108 (by decide) (fun c => ?_) (fun c => ?_)
                · replace h := h.1 c
                  refine wz_aload_n C rfl rfl dX9_readEdge_113 ?_
                  refine wz_iload_n C rfl rfl dX9_readEdge_114 ?_
                  refine wz_iload C rfl dX9_readEdge_115 ?_
                  refine wz_aload_n C rfl rfl dX9_readEdge_117 ?_
                  refine wz_getI C rfl f_X9_readEdge_83 (sOc hz rfl) dX9_readEdge_118 ?_
                  refine wm_callV C (o := k2) (As := [.int (iZ v3), .int (iZ v6), .int (iZ (I11 101 7))]) (st := []) (a' := 0) (b' := 0) (shK_c hz (spX2 hk2)) rfl (k_X2_addEdge G hG k2 v3 v6 (I11 101 7) I11 J11 _ h) 3 gX9_readEdge_X2_addEdge rfl (by decide +kernel) (by rw [hX]; exact ⟨Nat.le_of_ble_eq_true rfl, Nat.le_of_ble_eq_true rfl⟩) rfl (Nat.le_of_ble_eq_true rfl) rfl rfl rfl dX9_readEdge_121 (kk_sV (fun I12 J12 h => ?_))
                  refine wz_iconst C dX9_readEdge_124 ?_
                  exact wz_zret C (Or.inr rfl) dX9_readEdge_125 ⟨_, rfl, (Or.inr rfl), h⟩
                · replace h := h.2 c
                  refine wz_iconst C dX9_readEdge_111 ?_
                  exact wz_zret C (Or.inl rfl) dX9_readEdge_112 ⟨_, rfl, (Or.inl rfl), h⟩
              · replace h := h.2 c
                refine wz_aload_n C rfl rfl dX9_readEdge_95 ?_
                refine wz_iconst C dX9_readEdge_96 ?_
                refine wm_callV C (o := 101) (As := [.int (iZ 4)]) (st := []) (a' := 0) (b' := 0) (shK_c hz rfl) rfl (k_X10_fail G hG 4 I9 J9 _ h) 1 gX9_readEdge_X10_fail rfl (by decide +kernel) (by rw [hX]; exact ⟨Nat.le_of_ble_eq_true rfl, Nat.le_of_ble_eq_true rfl⟩) rfl (Nat.le_of_ble_eq_true rfl) rfl rfl rfl dX9_readEdge_97 (kk_sB (fun v13 I13 J13 hb13 h => ?_))
                exact wz_zret C h.1 dX9_readEdge_100 ⟨_, rfl, h.1, h.2⟩
            · replace h := h.2 c
              exact Wz.drop (bk_X9_readEdge_78 G hG X hX C k2 hk2 Q I6 J6 h) (And.intro rfl trivial)
        · replace h := h.2 c
          refine wz_iconst C dX9_readEdge_54 ?_
          exact wz_zret C (Or.inl rfl) dX9_readEdge_55 ⟨_, rfl, (Or.inl rfl), h⟩
      · replace h := h.2 c
        refine wz_aload_n C rfl rfl dX9_readEdge_40 ?_
        refine wz_iconst C dX9_readEdge_41 ?_
        refine wm_callV C (o := 101) (As := [.int (iZ 3)]) (st := []) (a' := 0) (b' := 0) (shK_c hz rfl) rfl (k_X10_fail G hG 3 I3 J3 _ h) 1 gX9_readEdge_X10_fail rfl (by decide +kernel) (by rw [hX]; exact ⟨Nat.le_of_ble_eq_true rfl, Nat.le_of_ble_eq_true rfl⟩) rfl (Nat.le_of_ble_eq_true rfl) rfl rfl rfl dX9_readEdge_42 (kk_sB (fun v14 I14 J14 hb14 h => ?_))
        exact wz_zret C h.1 dX9_readEdge_45 ⟨_, rfl, h.1, h.2⟩
    · replace h := h.2 c
      refine wz_iconst C dX9_readEdge_24 ?_
      exact wz_zret C (Or.inl rfl) dX9_readEdge_25 ⟨_, rfl, (Or.inl rfl), h⟩
  · replace h := h.2 c
    refine wz_aload_n C rfl rfl dX9_readEdge_9 ?_
    refine wz_bipush C (by decide) dX9_readEdge_10 ?_
    refine wm_callV C (o := 101) (As := [.int (iZ 6)]) (st := []) (a' := 0) (b' := 0) (shK_c hz rfl) rfl (k_X10_fail G hG 6 I J _ h) 1 gX9_readEdge_X10_fail rfl (by decide +kernel) (by rw [hX]; exact ⟨Nat.le_of_ble_eq_true rfl, Nat.le_of_ble_eq_true rfl⟩) rfl (Nat.le_of_ble_eq_true rfl) rfl rfl rfl dX9_readEdge_12 (kk_sB (fun v15 I15 J15 hb15 h => ?_))
    exact wz_zret C h.1 dX9_readEdge_15 ⟨_, rfl, h.1, h.2⟩
theorem in_X9_readParts_X10 : ∀ w ∈ wsX100, w ∈ wsX9_readParts := by decide +kernel
theorem in_X9_readParts_X2 : ∀ w ∈ wsX20, w ∈ wsX9_readParts := by decide +kernel
theorem f_X9_readParts_83 : FLk wsX9_readParts RX9 83 13 7 := flk 13 7 rfl tyX10_ok nmX10 in_X9_readParts_X10 (by decide) (by decide +kernel)
theorem f_X9_readParts_105 : FLk wsX9_readParts RX9 105 5 2 := flk 5 2 rfl tyX2_ok nmX2 in_X9_readParts_X2 (by decide) (by decide +kernel)
def rm_X9_readParts : Room := { frames := 4, cells := 0, slots := 0, locals := 85 }
set_option maxHeartbeats 4000000 in
set_option maxRecDepth 100000 in
theorem k_X9_readParts (G : KG) (hG : KokC G) (k2 : Nat) (I : Ii) (J : Jj) (Q : Int → Ii → Jj → Prop) (h : wp_X9_readParts k2 I J Q) : Ctr G yX9_readParts wsX9_readParts rm_X9_readParts [.ref (kadr G 103), .ref (kadr G 101), .ref (kadr G k2)] (I, J) (QsB Q) := by
  unfold wp_X9_readParts at h
  obtain ⟨hk2, h⟩ := h
  refine Ctr.ofZ (cc := cX9_readParts) (nL := 3) (ret := (some .boolean)) [some (.ref (kadr G 103)), some (.ref (kadr G 101)), some (.ref (kadr G k2))] hG.1 (by decide +kernel) rfl (Nat.le_of_ble_eq_true rfl) (Nat.le_of_ble_eq_true rfl) (by simp [lvA, lv_args, Value.category]) ?_
  intro X hX C
  have hz := hG.2
  refine wz_aload_n C rfl rfl dX9_readParts_0 ?_
  refine wz_aload_n C rfl rfl dX9_readParts_1 ?_
  refine wz_iconst C dX9_readParts_2 ?_
  refine wm_callV C (o := 103) (As := [.ref (kadr G 101), .int (iZ 1)]) (st := []) (a' := 0) (b' := 0) (shK_c hz rfl) rfl (k_X9_takesOnce G hG 1 I J _ h) 2 gX9_readParts_X9_takesOnce rfl (by decide +kernel) (by rw [hX]; exact ⟨Nat.le_of_ble_eq_true rfl, Nat.le_of_ble_eq_true rfl⟩) rfl (Nat.le_of_ble_eq_true rfl) rfl rfl rfl dX9_readParts_3 (kk_sB (fun v1 I1 J1 hb1 h => ?_))
  refine wz_if_eq C (tgt := 18) (rgB hb1) dX9_readParts_6 (by decide) (fun c => ?_) (fun c => ?_)
  · replace h := h.1 c
    refine wz_iconst C dX9_readParts_18 ?_
    exact wz_zret C (Or.inl rfl) dX9_readParts_19 ⟨_, rfl, (Or.inl rfl), h⟩
  · replace h := h.2 c
    refine wz_aload_n C rfl rfl dX9_readParts_9 ?_
    refine wz_iconst C dX9_readParts_10 ?_
    refine wz_iconst C dX9_readParts_11 ?_
    refine wm_callV C (o := 101) (As := [.int (iZ 2), .int (iZ 4)]) (st := []) (a' := 0) (b' := 0) (shK_c hz rfl) rfl (k_X10_takesNumber G hG 2 4 I1 J1 _ h) 2 gX9_readParts_X10_takesNumber rfl (by decide +kernel) (by rw [hX]; exact ⟨Nat.le_of_ble_eq_true rfl, Nat.le_of_ble_eq_true rfl⟩) rfl (Nat.le_of_ble_eq_true rfl) rfl rfl rfl dX9_readParts_12 (kk_sB (fun v2 I2 J2 hb2 h => ?_))
    refine wz_if_ne C (tgt := 20) (rgB hb2) dX9_readParts_15 (by decide) (fun c => ?_) (fun c => ?_)
    · replace h := h.1 c
      refine wz_aload_n C rfl rfl dX9_readParts_20 ?_
      refine wz_aload_n C rfl rfl dX9_readParts_21 ?_
      refine wz_getI C rfl f_X9_readParts_83 (sOc hz rfl) dX9_readParts_22 ?_
      refine wd_putI C f_X9_readParts_105 fp_X2_2 (sOc hz (soX2_2 hk2)) dX9_readParts_25 (fun I3 e => ?_)
      replace h := h I3 e
      refine wz_iconst C dX9_readParts_28 ?_
      exact wz_zret C (Or.inr rfl) dX9_readParts_29 ⟨_, rfl, (Or.inr rfl), h⟩
    · replace h := h.2 c
      refine wz_iconst C dX9_readParts_18 ?_
      exact wz_zret C (Or.inl rfl) dX9_readParts_19 ⟨_, rfl, (Or.inl rfl), h⟩
theorem in_X9_readSlack_X10 : ∀ w ∈ wsX100, w ∈ wsX9_readSlack := by decide +kernel
theorem in_X9_readSlack_X2 : ∀ w ∈ wsX20, w ∈ wsX9_readSlack := by decide +kernel
theorem f_X9_readSlack_83 : FLk wsX9_readSlack RX9 83 13 7 := flk 13 7 rfl tyX10_ok nmX10 in_X9_readSlack_X10 (by decide) (by decide +kernel)
theorem f_X9_readSlack_107 : FLk wsX9_readSlack RX9 107 5 3 := flk 5 3 rfl tyX2_ok nmX2 in_X9_readSlack_X2 (by decide) (by decide +kernel)
def rm_X9_readSlack : Room := { frames := 4, cells := 0, slots := 0, locals := 85 }
set_option maxHeartbeats 4000000 in
set_option maxRecDepth 100000 in
theorem k_X9_readSlack (G : KG) (hG : KokC G) (k2 : Nat) (I : Ii) (J : Jj) (Q : Int → Ii → Jj → Prop) (h : wp_X9_readSlack k2 I J Q) : Ctr G yX9_readSlack wsX9_readSlack rm_X9_readSlack [.ref (kadr G 103), .ref (kadr G 101), .ref (kadr G k2)] (I, J) (QsB Q) := by
  unfold wp_X9_readSlack at h
  obtain ⟨hk2, h⟩ := h
  refine Ctr.ofZ (cc := cX9_readSlack) (nL := 3) (ret := (some .boolean)) [some (.ref (kadr G 103)), some (.ref (kadr G 101)), some (.ref (kadr G k2))] hG.1 (by decide +kernel) rfl (Nat.le_of_ble_eq_true rfl) (Nat.le_of_ble_eq_true rfl) (by simp [lvA, lv_args, Value.category]) ?_
  intro X hX C
  have hz := hG.2
  refine wz_aload_n C rfl rfl dX9_readSlack_0 ?_
  refine wz_aload_n C rfl rfl dX9_readSlack_1 ?_
  refine wz_iconst C dX9_readSlack_2 ?_
  refine wm_callV C (o := 103) (As := [.ref (kadr G 101), .int (iZ 2)]) (st := []) (a' := 0) (b' := 0) (shK_c hz rfl) rfl (k_X9_takesOnce G hG 2 I J _ h) 2 gX9_readSlack_X9_takesOnce rfl (by decide +kernel) (by rw [hX]; exact ⟨Nat.le_of_ble_eq_true rfl, Nat.le_of_ble_eq_true rfl⟩) rfl (Nat.le_of_ble_eq_true rfl) rfl rfl rfl dX9_readSlack_3 (kk_sB (fun v1 I1 J1 hb1 h => ?_))
  refine wz_if_eq C (tgt := 19) (rgB hb1) dX9_readSlack_6 (by decide) (fun c => ?_) (fun c => ?_)
  · replace h := h.1 c
    refine wz_iconst C dX9_readSlack_19 ?_
    exact wz_zret C (Or.inl rfl) dX9_readSlack_20 ⟨_, rfl, (Or.inl rfl), h⟩
  · replace h := h.2 c
    refine wz_aload_n C rfl rfl dX9_readSlack_9 ?_
    refine wz_iconst C dX9_readSlack_10 ?_
    refine wz_bipush C (by decide) dX9_readSlack_11 ?_
    refine wm_callV C (o := 101) (As := [.int (iZ 0), .int (iZ 99)]) (st := []) (a' := 0) (b' := 0) (shK_c hz rfl) rfl (k_X10_takesNumber G hG 0 99 I1 J1 _ h) 2 gX9_readSlack_X10_takesNumber rfl (by decide +kernel) (by rw [hX]; exact ⟨Nat.le_of_ble_eq_true rfl, Nat.le_of_ble_eq_true rfl⟩) rfl (Nat.le_of_ble_eq_true rfl) rfl rfl rfl dX9_readSlack_13 (kk_sB (fun v2 I2 J2 hb2 h => ?_))
    refine wz_if_ne C (tgt := 21) (rgB hb2) dX9_readSlack_16 (by decide) (fun c => ?_) (fun c => ?_)
    · replace h := h.1 c
      refine wz_aload_n C rfl rfl dX9_readSlack_21 ?_
      refine wz_aload_n C rfl rfl dX9_readSlack_22 ?_
      refine wz_getI C rfl f_X9_readSlack_83 (sOc hz rfl) dX9_readSlack_23 ?_
      refine wd_putI C f_X9_readSlack_107 fp_X2_3 (sOc hz (soX2_3 hk2)) dX9_readSlack_26 (fun I3 e => ?_)
      replace h := h I3 e
      refine wz_iconst C dX9_readSlack_29 ?_
      exact wz_zret C (Or.inr rfl) dX9_readSlack_30 ⟨_, rfl, (Or.inr rfl), h⟩
    · replace h := h.2 c
      refine wz_iconst C dX9_readSlack_19 ?_
      exact wz_zret C (Or.inl rfl) dX9_readSlack_20 ⟨_, rfl, (Or.inl rfl), h⟩
theorem in_X9_readCredit_X10 : ∀ w ∈ wsX100, w ∈ wsX9_readCredit := by decide +kernel
theorem in_X9_readCredit_X2 : ∀ w ∈ wsX20, w ∈ wsX9_readCredit := by decide +kernel
theorem f_X9_readCredit_83 : FLk wsX9_readCredit RX9 83 13 7 := flk 13 7 rfl tyX10_ok nmX10 in_X9_readCredit_X10 (by decide) (by decide +kernel)
theorem f_X9_readCredit_109 : FLk wsX9_readCredit RX9 109 5 4 := flk 5 4 rfl tyX2_ok nmX2 in_X9_readCredit_X2 (by decide) (by decide +kernel)
def rm_X9_readCredit : Room := { frames := 4, cells := 0, slots := 0, locals := 85 }
set_option maxHeartbeats 4000000 in
set_option maxRecDepth 100000 in
theorem k_X9_readCredit (G : KG) (hG : KokC G) (k2 : Nat) (I : Ii) (J : Jj) (Q : Int → Ii → Jj → Prop) (h : wp_X9_readCredit k2 I J Q) : Ctr G yX9_readCredit wsX9_readCredit rm_X9_readCredit [.ref (kadr G 103), .ref (kadr G 101), .ref (kadr G k2)] (I, J) (QsB Q) := by
  unfold wp_X9_readCredit at h
  obtain ⟨hk2, h⟩ := h
  refine Ctr.ofZ (cc := cX9_readCredit) (nL := 3) (ret := (some .boolean)) [some (.ref (kadr G 103)), some (.ref (kadr G 101)), some (.ref (kadr G k2))] hG.1 (by decide +kernel) rfl (Nat.le_of_ble_eq_true rfl) (Nat.le_of_ble_eq_true rfl) (by simp [lvA, lv_args, Value.category]) ?_
  intro X hX C
  have hz := hG.2
  refine wz_aload_n C rfl rfl dX9_readCredit_0 ?_
  refine wz_aload_n C rfl rfl dX9_readCredit_1 ?_
  refine wz_iconst C dX9_readCredit_2 ?_
  refine wm_callV C (o := 103) (As := [.ref (kadr G 101), .int (iZ 4)]) (st := []) (a' := 0) (b' := 0) (shK_c hz rfl) rfl (k_X9_takesOnce G hG 4 I J _ h) 2 gX9_readCredit_X9_takesOnce rfl (by decide +kernel) (by rw [hX]; exact ⟨Nat.le_of_ble_eq_true rfl, Nat.le_of_ble_eq_true rfl⟩) rfl (Nat.le_of_ble_eq_true rfl) rfl rfl rfl dX9_readCredit_3 (kk_sB (fun v1 I1 J1 hb1 h => ?_))
  refine wz_if_eq C (tgt := 19) (rgB hb1) dX9_readCredit_6 (by decide) (fun c => ?_) (fun c => ?_)
  · replace h := h.1 c
    refine wz_iconst C dX9_readCredit_19 ?_
    exact wz_zret C (Or.inl rfl) dX9_readCredit_20 ⟨_, rfl, (Or.inl rfl), h⟩
  · replace h := h.2 c
    refine wz_aload_n C rfl rfl dX9_readCredit_9 ?_
    refine wz_iconst C dX9_readCredit_10 ?_
    refine wz_bipush C (by decide) dX9_readCredit_11 ?_
    refine wm_callV C (o := 101) (As := [.int (iZ 0), .int (iZ 99)]) (st := []) (a' := 0) (b' := 0) (shK_c hz rfl) rfl (k_X10_takesNumber G hG 0 99 I1 J1 _ h) 2 gX9_readCredit_X10_takesNumber rfl (by decide +kernel) (by rw [hX]; exact ⟨Nat.le_of_ble_eq_true rfl, Nat.le_of_ble_eq_true rfl⟩) rfl (Nat.le_of_ble_eq_true rfl) rfl rfl rfl dX9_readCredit_13 (kk_sB (fun v2 I2 J2 hb2 h => ?_))
    refine wz_if_ne C (tgt := 21) (rgB hb2) dX9_readCredit_16 (by decide) (fun c => ?_) (fun c => ?_)
    · replace h := h.1 c
      refine wz_aload_n C rfl rfl dX9_readCredit_21 ?_
      refine wz_aload_n C rfl rfl dX9_readCredit_22 ?_
      refine wz_getI C rfl f_X9_readCredit_83 (sOc hz rfl) dX9_readCredit_23 ?_
      refine wd_putI C f_X9_readCredit_109 fp_X2_4 (sOc hz (soX2_4 hk2)) dX9_readCredit_26 (fun I3 e => ?_)
      replace h := h I3 e
      refine wz_iconst C dX9_readCredit_29 ?_
      exact wz_zret C (Or.inr rfl) dX9_readCredit_30 ⟨_, rfl, (Or.inr rfl), h⟩
    · replace h := h.2 c
      refine wz_iconst C dX9_readCredit_19 ?_
      exact wz_zret C (Or.inl rfl) dX9_readCredit_20 ⟨_, rfl, (Or.inl rfl), h⟩
theorem in_X11_whyNotShrink_X11 : ∀ w ∈ wsX110, w ∈ wsX11_whyNotShrink := by decide +kernel
theorem in_X11_whyNotShrink_X5 : ∀ w ∈ wsX50, w ∈ wsX11_whyNotShrink := by decide +kernel
theorem in_X11_whyNotShrink_X8 : ∀ w ∈ wsX80, w ∈ wsX11_whyNotShrink := by decide +kernel
theorem f_X11_whyNotShrink_53 : FLk wsX11_whyNotShrink RX11 53 14 7 := flk 14 7 rfl tyX11_ok nmX11 in_X11_whyNotShrink_X11 (by decide) (by decide +kernel)
theorem f_X11_whyNotShrink_192 : FLk wsX11_whyNotShrink RX11 192 11 0 := flk 11 0 rfl tyX8_ok nmX8 in_X11_whyNotShrink_X8 (by decide) (by decide +kernel)
theorem f_X11_whyNotShrink_80 : FLk wsX11_whyNotShrink RX11 80 14 13 := flk 14 13 rfl tyX11_ok nmX11 in_X11_whyNotShrink_X11 (by decide) (by decide +kernel)
theorem f_X11_whyNotShrink_395 : FLk wsX11_whyNotShrink RX11 395 8 4 := flk 8 4 rfl tyX5_ok nmX5 in_X11_whyNotShrink_X5 (by decide) (by decide +kernel)
def rm_X11_whyNotShrink : Room := { frames := 4, cells := 0, slots := 0, locals := 93 }
set_option maxHeartbeats 4000000 in
set_option maxRecDepth 100000 in
theorem k_X11_whyNotShrink (G : KG) (hG : KokC G) (I : Ii) (J : Jj) (Q : Int → Ii → Jj → Prop) (h : wp_X11_whyNotShrink I J Q) : Ctr G yX11_whyNotShrink wsX11_whyNotShrink rm_X11_whyNotShrink [.ref (kadr G 100)] (I, J) (QsI Q) := by
  unfold wp_X11_whyNotShrink at h
  skip
  refine Ctr.ofZ (cc := cX11_whyNotShrink) (nL := 1) (ret := (some .int)) [some (.ref (kadr G 100))] hG.1 (by decide +kernel) rfl (Nat.le_of_ble_eq_true rfl) (Nat.le_of_ble_eq_true rfl) (by simp [lvA, lv_args, Value.category]) ?_
  intro X hX C
  have hz := hG.2
  refine wz_aload_n C rfl rfl dX11_whyNotShrink_0 ?_
  refine wz_getR C (j := 300) f_X11_whyNotShrink_53 (sOc hz rfl) (by decide) dX11_whyNotShrink_1 ?_
  refine wz_getI C rfl f_X11_whyNotShrink_192 (sOc hz rfl) dX11_whyNotShrink_4 ?_
  refine wz_iconst C dX11_whyNotShrink_7 ?_
  obtain ⟨g1, h⟩ := h
  refine wz_icmp_lt C (tgt := 13) g1 (by decide) dX11_whyNotShrink_8 (by decide) (fun c => ?_) (fun c => ?_)
  · replace h := h.1 c
    refine wz_aload_n C rfl rfl dX11_whyNotShrink_13 ?_
    refine wm_callV C (o := 100) (As := []) (st := []) (a' := 0) (b' := 0) (shK_c hz rfl) rfl (k_X11_findPairs G hG I J _ h) 0 gX11_whyNotShrink_X11_findPairs rfl (by decide +kernel) (by rw [hX]; exact ⟨Nat.le_of_ble_eq_true rfl, Nat.le_of_ble_eq_true rfl⟩) rfl (Nat.le_of_ble_eq_true rfl) rfl rfl rfl dX11_whyNotShrink_14 (kk_sV (fun I2 J2 h => ?_))
    refine wz_aload_n C rfl rfl dX11_whyNotShrink_17 ?_
    refine wz_getR C (j := 120) f_X11_whyNotShrink_80 (sOc hz rfl) (by decide) dX11_whyNotShrink_18 ?_
    refine wz_getI C rfl f_X11_whyNotShrink_395 (sOc hz rfl) dX11_whyNotShrink_21 ?_
    obtain ⟨g3, h⟩ := h
    refine wz_if_eq C (tgt := 31) g3 dX11_whyNotShrink_24 (by decide) (fun c => ?_) (fun c => ?_)
    · replace h := h.1 c
      refine wz_iconst C dX11_whyNotShrink_31 ?_
      exact wz_iret C dX11_whyNotShrink_32 ⟨_, rfl, h⟩
    · replace h := h.2 c
      refine wz_iconst C dX11_whyNotShrink_27 ?_
      refine wz_goto C dX11_whyNotShrink_28 (tgt := 32) (by decide) ?_
      exact wz_iret C dX11_whyNotShrink_32 ⟨_, rfl, h⟩
  · replace h := h.2 c
    refine wz_iconst C dX11_whyNotShrink_11 ?_
    exact wz_iret C dX11_whyNotShrink_12 ⟨_, rfl, h⟩
