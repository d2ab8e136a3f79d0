theorem in_X12_restore_X12 : ∀ w ∈ wsX120, w ∈ wsX12_restore := by decide +kernel
theorem f_X12_restore_169 : FLk wsX12_restore RX12 169 12 24 := flk 12 24 rfl tyX12_ok nmX12 in_X12_restore_X12 (by decide) (by decide +kernel)
theorem f_X12_restore_26 : FLk wsX12_restore RX12 26 12 15 := flk 12 15 rfl tyX12_ok nmX12 in_X12_restore_X12 (by decide) (by decide +kernel)
theorem f_X12_restore_29 : FLk wsX12_restore RX12 29 12 16 := flk 12 16 rfl tyX12_ok nmX12 in_X12_restore_X12 (by decide) (by decide +kernel)
theorem f_X12_restore_166 : FLk wsX12_restore RX12 166 12 23 := flk 12 23 rfl tyX12_ok nmX12 in_X12_restore_X12 (by decide) (by decide +kernel)
theorem f_X12_restore_41 : FLk wsX12_restore RX12 41 12 20 := flk 12 20 rfl tyX12_ok nmX12 in_X12_restore_X12 (by decide) (by decide +kernel)
theorem f_X12_restore_45 : FLk wsX12_restore RX12 45 12 21 := flk 12 21 rfl tyX12_ok nmX12 in_X12_restore_X12 (by decide) (by decide +kernel)
def rm_X12_restore : Room := { frames := 2, cells := 0, slots := 0, locals := 43 }
set_option maxHeartbeats 4000000 in
set_option maxRecDepth 100000 in
theorem lk_X12_restore_42 (G : KG) (hG : Kok G) (X : KX) (hX : KR X = rm_X12_restore) (C : Fr G X cX12_restore 2 yX12_restore.cls (some .int) wsX12_restore) (Q : Int → Ii → Jj → Prop) : ∀ (n : Nat) (l1 : Int) (I : Ii) (J : Jj), L_X12_restore_42 Q n l1 I J → Wz G X 2 (QsU G X (QsI Q)) 0 0 42 [some (.ref (kadr G 0)), some (.int (iZ l1))] [] I J := by
  intro n
  induction n with
  | zero => intro l1 I J h; exact False.elim h
  | succ n w42 =>
    intro l1 I J h
    have h : Lb_X12_restore_42 Q (L_X12_restore_42 Q n) l1 I J := h
    unfold Lb_X12_restore_42 at h
    generalize L_X12_restore_42 Q n = r42 at h w42
    refine wz_iload_n C rfl rfl dX12_restore_42 ?_
    refine wz_bipush C (by decide) dX12_restore_43 ?_
    obtain ⟨g6, h⟩ := h
    refine wz_icmp_ge C (tgt := 66) g6 (by decide) dX12_restore_45 (by decide) (fun c => ?_) (fun c => ?_)
    · replace h := h.1 c
      refine wz_aload_n C rfl rfl dX12_restore_66 ?_
      refine wz_iconst C dX12_restore_67 ?_
      refine wd_putI C f_X12_restore_166 fp_X12_23 rfl dX12_restore_68 (fun I7 e => ?_)
      replace h := h I7 e
      refine wz_aload_n C rfl rfl dX12_restore_71 ?_
      refine wm_callV C (o := 0) (As := []) (st := []) (a' := 0) (b' := 0) rfl rfl (k_X12_cutNow G hG I7 J _ h) 0 gX12_restore_X12_cutNow rfl (by decide +kernel) (by rw [hX]; exact ⟨Nat.le_of_ble_eq_true rfl, Nat.le_of_ble_eq_true rfl⟩) rfl (Nat.le_of_ble_eq_true rfl) rfl rfl rfl dX12_restore_72 (kk_sI (fun v8 I8 J8 h => ?_))
      exact wz_iret C dX12_restore_75 ⟨_, rfl, h⟩
    · replace h := h.2 c
      refine wz_aload_n C rfl rfl dX12_restore_48 ?_
      refine wz_getR C (j := 7) f_X12_restore_41 rfl dX12_restore_49 ?_
      refine wz_iload_n C rfl rfl dX12_restore_52 ?_
      refine wz_aload_n C rfl rfl dX12_restore_53 ?_
      refine wz_getR C (j := 8) f_X12_restore_45 rfl dX12_restore_54 ?_
      refine wz_iload_n C rfl rfl dX12_restore_57 ?_
      obtain ⟨g9, h⟩ := h
      refine wz_laload C l1.toNat (n := 14) rfl (zN g9) (zL g9) (by decide) rfl dX12_restore_58 ?_
      obtain ⟨g10, h⟩ := h
      refine wd_lastore C l1.toNat (n := 14) rfl (zN g10) (zL g10) (by decide) dX12_restore_59 (fun J11 e => ?_)
      replace h := h J11 e
      refine wz_iinc_1 C rfl dX12_restore_60 ?_
      refine wz_goto C dX12_restore_63 (tgt := 42) (by decide) ?_
      exact w42 (l1 + 1) I J11 h
set_option maxHeartbeats 4000000 in
set_option maxRecDepth 100000 in
theorem lk_X12_restore_15 (G : KG) (hG : Kok G) (X : KX) (hX : KR X = rm_X12_restore) (C : Fr G X cX12_restore 2 yX12_restore.cls (some .int) wsX12_restore) (Q : Int → Ii → Jj → Prop) : ∀ (n : Nat) (l1 : Int) (I : Ii) (J : Jj), L_X12_restore_15 Q n l1 I J → Wz G X 2 (QsU G X (QsI Q)) 0 0 15 [some (.ref (kadr G 0)), some (.int (iZ l1))] [] I J := by
  intro n
  induction n with
  | zero => intro l1 I J h; exact False.elim h
  | succ n w15 =>
    intro l1 I J h
    have h : Lb_X12_restore_15 Q (L_X12_restore_15 Q n) l1 I J := h
    unfold Lb_X12_restore_15 at h
    generalize L_X12_restore_15 Q n = r15 at h w15
    refine wz_iload_n C rfl rfl dX12_restore_15 ?_
    refine wz_sipush C (by decide) dX12_restore_16 ?_
    obtain ⟨g2, h⟩ := h
    refine wz_icmp_ge C (tgt := 40) g2 (by decide) dX12_restore_19 (by decide) (fun c => ?_) (fun c => ?_)
    · replace h := h.1 c
      refine wz_iconst C dX12_restore_40 ?_
      refine wz_istore_1 C rfl dX12_restore_41 ?_
      obtain ⟨n, h⟩ := h
      exact lk_X12_restore_42 G hG X hX C Q n 0 I J h
    · replace h := h.2 c
      refine wz_aload_n C rfl rfl dX12_restore_22 ?_
      refine wz_getR C (j := 2) f_X12_restore_26 rfl dX12_restore_23 ?_
      refine wz_iload_n C rfl rfl dX12_restore_26 ?_
      refine wz_aload_n C rfl rfl dX12_restore_27 ?_
      refine wz_getR C (j := 3) f_X12_restore_29 rfl dX12_restore_28 ?_
      refine wz_iload_n C rfl rfl dX12_restore_31 ?_
      obtain ⟨g3, h⟩ := h
      refine wz_iaload C l1.toNat (n := 350) rfl (zN g3) (zL g3) (by decide) rfl dX12_restore_32 ?_
      obtain ⟨g4, h⟩ := h
      refine wd_iastore C l1.toNat (n := 350) rfl (zN g4) (zL g4) (by decide) dX12_restore_33 (fun I5 e => ?_)
      replace h := h I5 e
      refine wz_iinc_1 C rfl dX12_restore_34 ?_
      refine wz_goto C dX12_restore_37 (tgt := 15) (by decide) ?_
      exact w15 (l1 + 1) I5 J h
set_option maxHeartbeats 4000000 in
set_option maxRecDepth 100000 in
theorem k_X12_restore (G : KG) (hG : Kok G) (I : Ii) (J : Jj) (Q : Int → Ii → Jj → Prop) (h : wp_X12_restore I J Q) : Ctr G yX12_restore wsX12_restore rm_X12_restore [.ref (kadr G 0)] (I, J) (QsI Q) := by
  unfold wp_X12_restore at h
  skip
  refine Ctr.ofZ (cc := cX12_restore) (nL := 2) (ret := (some .int)) [some (.ref (kadr G 0)), none] hG (by decide +kernel) rfl (Nat.le_of_ble_eq_true rfl) (Nat.le_of_ble_eq_true rfl) (by simp [lvA, lv_args, Value.category]) ?_
  intro X hX C
  refine wz_aload_n C rfl rfl dX12_restore_0 ?_
  refine wz_aload_n C rfl rfl dX12_restore_1 ?_
  refine wz_getI C rfl f_X12_restore_169 rfl dX12_restore_2 ?_
  refine wm_callV C (o := 0) (As := [.int (iZ (I 0 24))]) (st := []) (a' := 0) (b' := 0) rfl rfl (k_X12_goes G hG (I 0 24) I J _ h) 1 gX12_restore_X12_goes rfl (by decide +kernel) (by rw [hX]; exact ⟨Nat.le_of_ble_eq_true rfl, Nat.le_of_ble_eq_true rfl⟩) rfl (Nat.le_of_ble_eq_true rfl) rfl rfl rfl dX12_restore_5 (kk_sB (fun v1 I1 J1 hb1 h => ?_))
  refine wz_if_ne C (tgt := 13) (rgB hb1) dX12_restore_8 (by decide) (fun c => ?_) (fun c => ?_)
  · replace h := h.1 c
    refine wz_iconst C dX12_restore_13 ?_
    refine wz_istore_1 C rfl dX12_restore_14 ?_
    obtain ⟨n, h⟩ := h
    exact lk_X12_restore_15 G hG X hX C Q n 0 I1 J1 h
  · replace h := h.2 c
    refine wz_iconst C dX12_restore_11 ?_
    exact wz_iret C dX12_restore_12 ⟨_, rfl, h⟩
theorem in_X12_searches_X12 : ∀ w ∈ wsX120, w ∈ wsX12_searches := by decide +kernel
theorem f_X12_searches_367 : FLk wsX12_searches RX12 367 12 34 := flk 12 34 rfl tyX12_ok nmX12 in_X12_searches_X12 (by decide) (by decide +kernel)
theorem f_X12_searches_370 : FLk wsX12_searches RX12 370 12 35 := flk 12 35 rfl tyX12_ok nmX12 in_X12_searches_X12 (by decide) (by decide +kernel)
theorem f_X12_searches_26 : FLk wsX12_searches RX12 26 12 15 := flk 12 15 rfl tyX12_ok nmX12 in_X12_searches_X12 (by decide) (by decide +kernel)
theorem f_X12_searches_57 : FLk wsX12_searches RX12 57 12 30 := flk 12 30 rfl tyX12_ok nmX12 in_X12_searches_X12 (by decide) (by decide +kernel)
theorem f_X12_searches_54 : FLk wsX12_searches RX12 54 12 29 := flk 12 29 rfl tyX12_ok nmX12 in_X12_searches_X12 (by decide) (by decide +kernel)
def rm_X12_searches : Room := { frames := 3, cells := 0, slots := 0, locals := 70 }
set_option maxHeartbeats 4000000 in
set_option maxRecDepth 100000 in
theorem lk_X12_searches_37 (G : KG) (hG : Kok G) (X : KX) (hX : KR X = rm_X12_searches) (C : Fr G X cX12_searches 5 yX12_searches.cls none wsX12_searches) (Q : Ii → Jj → Prop) (r9 : Int → Int → Int → Ii → Jj → Prop) (w9 : ∀ (l1 : Int) (l2 : Int) (l3 : Int) (I : Ii) (J : Jj), r9 l1 l2 l3 I J → Wz G X 5 (QsU G X (QsV Q)) 0 0 9 [some (.ref (kadr G 0)), some (.int (iZ l1)), some (.int (iZ l2)), some (.int (iZ l3)), none] [] I J) : ∀ (n : Nat) (l1 : Int) (l2 : Int) (l3 : Int) (l4 : Int) (I : Ii) (J : Jj), L_X12_searches_37 Q r9 n l1 l2 l3 l4 I J → Wz G X 5 (QsU G X (QsV Q)) 0 0 37 [some (.ref (kadr G 0)), some (.int (iZ l1)), some (.int (iZ l2)), some (.int (iZ l3)), some (.int (iZ l4))] [] I J := by
  intro n
  induction n with
  | zero => intro l1 l2 l3 l4 I J h; exact False.elim h
  | succ n w37 =>
    intro l1 l2 l3 l4 I J h
    have h : Lb_X12_searches_37 Q r9 (L_X12_searches_37 Q r9 n) l1 l2 l3 l4 I J := h
    unfold Lb_X12_searches_37 at h
    generalize L_X12_searches_37 Q r9 n = r37 at h w37
    refine wz_iload C rfl dX12_searches_37 ?_
    refine wz_iload_n C rfl rfl dX12_searches_39 ?_
    obtain ⟨g12, h⟩ := h
    obtain ⟨g13, h⟩ := h
    refine wz_icmp_ge C (tgt := 78) g12 g13 dX12_searches_40 (by decide) (fun c => ?_) (fun c => ?_)
    · replace h := h.1 c
      refine wz_iinc_3 C rfl dX12_searches_78 ?_
      refine wz_goto C dX12_searches_81 (tgt := 9) (by decide) ?_
      exact Wz.drop (w9 l1 l2 (l3 + 1) I J h) (And.intro rfl (And.intro rfl (And.intro rfl (And.intro rfl trivial))))
    · replace h := h.2 c
      refine wz_aload_n C rfl rfl dX12_searches_43 ?_
      refine wz_getR C (j := 11) f_X12_searches_54 rfl dX12_searches_44 ?_
      refine wz_bipush C (by decide) dX12_searches_47 ?_
      refine wz_iload_n C rfl rfl dX12_searches_49 ?_
      refine wz_imul C dX12_searches_50 ?_
      refine wz_iload C rfl dX12_searches_51 ?_
      refine wz_iadd C dX12_searches_53 ?_
      refine wz_iload_n C rfl rfl dX12_searches_54 ?_
      refine wz_iload C rfl dX12_searches_55 ?_
      obtain ⟨g14, h⟩ := h
      refine wz_icmp_ne C (tgt := 64) g14 g12 dX12_searches_57 (by decide) (fun c => ?_) (fun c => ?_)
      · replace h := h.1 c
        refine wz_aload_n C rfl rfl dX12_searches_64 ?_
        refine wz_iload_n C rfl rfl dX12_searches_65 ?_
        refine wz_iload C rfl dX12_searches_66 ?_
        refine wm_callV C (o := 0) (As := [.int (iZ l3), .int (iZ l4)]) (st := [.int (iZ ((7 * l3) + l4)), .ref (kadr G 11)]) (a' := 0) (b' := 0) rfl rfl (k_X12_joined G hG l3 l4 I J _ h) 2 gX12_searches_X12_joined rfl (by decide +kernel) (by rw [hX]; exact ⟨Nat.le_of_ble_eq_true rfl, Nat.le_of_ble_eq_true rfl⟩) rfl (Nat.le_of_ble_eq_true rfl) rfl rfl rfl dX12_searches_68 (kk_sI (fun v15 I15 J15 h => ?_))
        obtain ⟨g16, h⟩ := h
        refine wd_iastore C (((7 * l3) + l4).toNat) (n := 49) rfl (zN g16) (zL g16) (by decide) dX12_searches_71 (fun I17 e => ?_)
        replace h := h I17 e
        refine wz_iinc_4 C rfl dX12_searches_72 ?_
        refine wz_goto C dX12_searches_75 (tgt := 37) (by decide) ?_
        exact w37 l1 l2 l3 (l4 + 1) I17 J15 h
      · replace h := h.2 c
        refine wz_iconst C dX12_searches_60 ?_
        refine wz_goto C dX12_searches_61 (tgt := 71) (by decide) ?_
        obtain ⟨g18, h⟩ := h
        refine wd_iastore C (((7 * l3) + l4).toNat) (n := 49) rfl (zN g18) (zL g18) (by decide) dX12_searches_71 (fun I19 e => ?_)
        replace h := h I19 e
        refine wz_iinc_4 C rfl dX12_searches_72 ?_
        refine wz_goto C dX12_searches_75 (tgt := 37) (by decide) ?_
        exact w37 l1 l2 l3 (l4 + 1) I19 J h
set_option maxHeartbeats 4000000 in
set_option maxRecDepth 100000 in
theorem lk_X12_searches_96 (G : KG) (hG : Kok G) (X : KX) (hX : KR X = rm_X12_searches) (C : Fr G X cX12_searches 5 yX12_searches.cls none wsX12_searches) (Q : Ii → Jj → Prop) : ∀ (n : Nat) (l1 : Int) (l2 : Int) (l3 : Int) (I : Ii) (J : Jj), L_X12_searches_96 Q n l1 l2 l3 I J → Wz G X 5 (QsU G X (QsV Q)) 0 0 96 [some (.ref (kadr G 0)), some (.int (iZ l1)), some (.int (iZ l2)), some (.int (iZ l3)), none] [] I J := by
  intro n
  induction n with
  | zero => intro l1 l2 l3 I J h; exact False.elim h
  | succ n w96 =>
    intro l1 l2 l3 I J h
    have h : Lb_X12_searches_96 Q (L_X12_searches_96 Q n) l1 l2 l3 I J := h
    unfold Lb_X12_searches_96 at h
    generalize L_X12_searches_96 Q n = r96 at h w96
    refine wz_iload_n C rfl rfl dX12_searches_96 ?_
    refine wz_iload_n C rfl rfl dX12_searches_97 ?_
    obtain ⟨g9, h⟩ := h
    obtain ⟨g10, h⟩ := h
    refine wz_icmp_ge C (tgt := 113) g9 g10 dX12_searches_98 (by decide) (fun c => ?_) (fun c => ?_)
    · replace h := h.1 c
      exact wz_vret C dX12_searches_113 ⟨rfl, h⟩
    · replace h := h.2 c
      refine wz_aload_n C rfl rfl dX12_searches_101 ?_
      refine wz_iload_n C rfl rfl dX12_searches_102 ?_
      refine wz_iload_n C rfl rfl dX12_searches_103 ?_
      refine wm_callV C (o := 0) (As := [.int (iZ l3), .int (iZ l1)]) (st := []) (a' := 0) (b' := 0) rfl rfl (k_X12_looksAt G hG l3 l1 I J _ h) 2 gX12_searches_X12_looksAt rfl (by decide +kernel) (by rw [hX]; exact ⟨Nat.le_of_ble_eq_true rfl, Nat.le_of_ble_eq_true rfl⟩) rfl (Nat.le_of_ble_eq_true rfl) rfl rfl rfl dX12_searches_104 (kk_sV (fun I11 J11 h => ?_))
      refine wz_iinc_3 C rfl dX12_searches_107 ?_
      refine wz_goto C dX12_searches_110 (tgt := 96) (by decide) ?_
      exact w96 l1 l2 (l3 + 1) I11 J11 h
set_option maxHeartbeats 4000000 in
set_option maxRecDepth 100000 in
theorem lk_X12_searches_9 (G : KG) (hG : Kok G) (X : KX) (hX : KR X = rm_X12_searches) (C : Fr G X cX12_searches 5 yX12_searches.cls none wsX12_searches) (Q : Ii → Jj → Prop) : ∀ (n : Nat) (l1 : Int) (l2 : Int) (l3 : Int) (I : Ii) (J : Jj), L_X12_searches_9 Q n l1 l2 l3 I J → Wz G X 5 (QsU G X (QsV Q)) 0 0 9 [some (.ref (kadr G 0)), some (.int (iZ l1)), some (.int (iZ l2)), some (.int (iZ l3)), none] [] I J := by
  intro n
  induction n with
  | zero => intro l1 l2 l3 I J h; exact False.elim h
  | succ n w9 =>
    intro l1 l2 l3 I J h
    have h : Lb_X12_searches_9 Q (L_X12_searches_9 Q n) l1 l2 l3 I J := h
    unfold Lb_X12_searches_9 at h
    generalize L_X12_searches_9 Q n = r9 at h w9
    refine wz_iload_n C rfl rfl dX12_searches_9 ?_
    refine wz_iload_n C rfl rfl dX12_searches_10 ?_
    obtain ⟨g2, h⟩ := h
    obtain ⟨g3, h⟩ := h
    refine wz_icmp_ge C (tgt := 84) g2 g3 dX12_searches_11 (by decide) (fun c => ?_) (fun c => ?_)
    · replace h := h.1 c
      refine wz_aload_n C rfl rfl dX12_searches_84 ?_
      refine wz_iconst C dX12_searches_85 ?_
      refine wd_putI C f_X12_searches_367 fp_X12_34 rfl dX12_searches_86 (fun I4 e => ?_)
      replace h := h I4 e
      refine wz_aload_n C rfl rfl dX12_searches_89 ?_
      refine wz_iconst C dX12_searches_90 ?_
      refine wd_putI C f_X12_searches_370 fp_X12_35 rfl dX12_searches_91 (fun I5 e => ?_)
      replace h := h I5 e
      refine wz_iconst C dX12_searches_94 ?_
      refine wz_istore_3 C rfl dX12_searches_95 ?_
      obtain ⟨n, h⟩ := h
      exact lk_X12_searches_96 G hG X hX C Q n l1 l2 0 I5 J h
    · replace h := h.2 c
      refine wz_iload_n C rfl rfl dX12_searches_14 ?_
      refine wz_aload_n C rfl rfl dX12_searches_15 ?_
      refine wz_getR C (j := 2) f_X12_searches_26 rfl dX12_searches_16 ?_
      refine wz_iconst C dX12_searches_19 ?_
      refine wz_iaload C 2 (n := 350) rfl rfl (by decide) (by decide) rfl dX12_searches_20 ?_
      refine wz_imul C dX12_searches_21 ?_
      refine wz_istore_2 C rfl dX12_searches_22 ?_
      refine wz_aload_n C rfl rfl dX12_searches_23 ?_
      refine wz_getR C (j := 12) f_X12_searches_57 rfl dX12_searches_24 ?_
      refine wz_iload_n C rfl rfl dX12_searches_27 ?_
      refine wz_aload_n C rfl rfl dX12_searches_28 ?_
      refine wz_iload_n C rfl rfl dX12_searches_29 ?_
      refine wm_callV C (o := 0) (As := [.int (iZ l3)]) (st := [.int (iZ l3), .ref (kadr G 12)]) (a' := 0) (b' := 0) rfl rfl (k_X12_groupWeight G hG l3 I J _ h) 1 gX12_searches_X12_groupWeight rfl (by decide +kernel) (by rw [hX]; exact ⟨Nat.le_of_ble_eq_true rfl, Nat.le_of_ble_eq_true rfl⟩) rfl (Nat.le_of_ble_eq_true rfl) rfl rfl rfl dX12_searches_30 (kk_sI (fun v6 I6 J6 h => ?_))
      obtain ⟨g7, h⟩ := h
      refine wd_iastore C l3.toNat (n := 7) rfl (zN g7) (zL g7) (by decide) dX12_searches_33 (fun I8 e => ?_)
      replace h := h I8 e
      refine wz_iconst C dX12_searches_34 ?_
      refine wz_istore_4 C rfl dX12_searches_35 ?_
      obtain ⟨n, h⟩ := h
      exact lk_X12_searches_37 G hG X hX C Q r9 w9 n l1 (l2 * (I 2 2)) l3 0 I8 J6 h
set_option maxHeartbeats 4000000 in
set_option maxRecDepth 100000 in
theorem k_X12_searches (G : KG) (hG : Kok G) (I : Ii) (J : Jj) (Q : Ii → Jj → Prop) (h : wp_X12_searches I J Q) : Ctr G yX12_searches wsX12_searches rm_X12_searches [.ref (kadr G 0)] (I, J) (QsV Q) := by
  unfold wp_X12_searches at h
  skip
  refine Ctr.ofZ (cc := cX12_searches) (nL := 5) (ret := none) [some (.ref (kadr G 0)), none, none, none, none] hG (by decide +kernel) rfl (Nat.le_of_ble_eq_true rfl) (Nat.le_of_ble_eq_true rfl) (by simp [lvA, lv_args, Value.category]) ?_
  intro X hX C
  refine wz_aload_n C rfl rfl dX12_searches_0 ?_
  refine wm_callV C (o := 0) (As := []) (st := []) (a' := 0) (b' := 0) rfl rfl (k_X12_groups G hG I J _ h) 0 gX12_searches_X12_groups rfl (by decide +kernel) (by rw [hX]; exact ⟨Nat.le_of_ble_eq_true rfl, Nat.le_of_ble_eq_true rfl⟩) rfl (Nat.le_of_ble_eq_true rfl) rfl rfl rfl dX12_searches_1 (kk_sI (fun v1 I1 J1 h => ?_))
  refine wz_istore_1 C rfl dX12_searches_4 ?_
  refine wz_iconst C dX12_searches_5 ?_
  refine wz_istore_2 C rfl dX12_searches_6 ?_
  refine wz_iconst C dX12_searches_7 ?_
  refine wz_istore_3 C rfl dX12_searches_8 ?_
  obtain ⟨n, h⟩ := h
  exact lk_X12_searches_9 G hG X hX C Q n v1 1 0 I1 J1 h
theorem in_X12_bestDebts_X12 : ∀ w ∈ wsX120, w ∈ wsX12_bestDebts := by decide +kernel
theorem f_X12_bestDebts_90 : FLk wsX12_bestDebts RX12 90 12 0 := flk 12 0 rfl tyX12_ok nmX12 in_X12_bestDebts_X12 (by decide) (by decide +kernel)
theorem f_X12_bestDebts_367 : FLk wsX12_bestDebts RX12 367 12 34 := flk 12 34 rfl tyX12_ok nmX12 in_X12_bestDebts_X12 (by decide) (by decide +kernel)
def rm_X12_bestDebts : Room := { frames := 4, cells := 0, slots := 0, locals := 94 }
set_option maxHeartbeats 4000000 in
set_option maxRecDepth 100000 in
theorem k_X12_bestDebts (G : KG) (hG : Kok G) (I : Ii) (J : Jj) (Q : Int → Ii → Jj → Prop) (h : wp_X12_bestDebts I J Q) : Ctr G yX12_bestDebts wsX12_bestDebts rm_X12_bestDebts [.ref (kadr G 0)] (I, J) (QsI Q) := by
  unfold wp_X12_bestDebts at h
  skip
  refine Ctr.ofZ (cc := cX12_bestDebts) (nL := 1) (ret := (some .int)) [some (.ref (kadr G 0))] hG (by decide +kernel) rfl (Nat.le_of_ble_eq_true rfl) (Nat.le_of_ble_eq_true rfl) (by simp [lvA, lv_args, Value.category]) ?_
  intro X hX C
  refine wz_aload_n C rfl rfl dX12_bestDebts_0 ?_
  refine wz_iconst C dX12_bestDebts_1 ?_
  refine wd_putI C f_X12_bestDebts_90 fp_X12_0 rfl dX12_bestDebts_2 (fun I1 e => ?_)
  replace h := h I1 e
  refine wz_aload_n C rfl rfl dX12_bestDebts_5 ?_
  refine wm_callV C (o := 0) (As := []) (st := []) (a' := 0) (b' := 0) rfl rfl (k_X12_groups G hG I1 J _ h) 0 gX12_bestDebts_X12_groups rfl (by decide +kernel) (by rw [hX]; exact ⟨Nat.le_of_ble_eq_true rfl, Nat.le_of_ble_eq_true rfl⟩) rfl (Nat.le_of_ble_eq_true rfl) rfl rfl rfl dX12_bestDebts_6 (kk_sI (fun v2 I2 J2 h => ?_))
  refine wz_bipush C (by decide) dX12_bestDebts_9 ?_
  obtain ⟨g3, h⟩ := h
  refine wz_icmp_le C (tgt := 16) g3 (by decide) dX12_bestDebts_11 (by decide) (fun c => ?_) (fun c => ?_)
  · replace h := h.1 c
    refine wz_aload_n C rfl rfl dX12_bestDebts_16 ?_
    refine wm_callV C (o := 0) (As := []) (st := []) (a' := 0) (b' := 0) rfl rfl (k_X12_searches G hG I2 J2 _ h) 0 gX12_bestDebts_X12_searches rfl (by decide +kernel) (by rw [hX]; exact ⟨Nat.le_of_ble_eq_true rfl, Nat.le_of_ble_eq_true rfl⟩) rfl (Nat.le_of_ble_eq_true rfl) rfl rfl rfl dX12_bestDebts_17 (kk_sV (fun I4 J4 h => ?_))
    refine wz_aload_n C rfl rfl dX12_bestDebts_20 ?_
    refine wz_getI C rfl f_X12_bestDebts_367 rfl dX12_bestDebts_21 ?_
    exact wz_iret C dX12_bestDebts_24 ⟨_, rfl, h⟩
  · replace h := h.2 c
    refine wz_iconst C dX12_bestDebts_14 ?_
    exact wz_iret C dX12_bestDebts_15 ⟨_, rfl, h⟩
theorem in_X12_bestCut_X12 : ∀ w ∈ wsX120, w ∈ wsX12_bestCut := by decide +kernel
theorem f_X12_bestCut_90 : FLk wsX12_bestCut RX12 90 12 0 := flk 12 0 rfl tyX12_ok nmX12 in_X12_bestCut_X12 (by decide) (by decide +kernel)
theorem f_X12_bestCut_370 : FLk wsX12_bestCut RX12 370 12 35 := flk 12 35 rfl tyX12_ok nmX12 in_X12_bestCut_X12 (by decide) (by decide +kernel)
def rm_X12_bestCut : Room := { frames := 4, cells := 0, slots := 0, locals := 94 }
set_option maxHeartbeats 4000000 in
set_option maxRecDepth 100000 in
theorem k_X12_bestCut (G : KG) (hG : Kok G) (I : Ii) (J : Jj) (Q : Int → Ii → Jj → Prop) (h : wp_X12_bestCut I J Q) : Ctr G yX12_bestCut wsX12_bestCut rm_X12_bestCut [.ref (kadr G 0)] (I, J) (QsI Q) := by
  unfold wp_X12_bestCut at h
  skip
  refine Ctr.ofZ (cc := cX12_bestCut) (nL := 1) (ret := (some .int)) [some (.ref (kadr G 0))] hG (by decide +kernel) rfl (Nat.le_of_ble_eq_true rfl) (Nat.le_of_ble_eq_true rfl) (by simp [lvA, lv_args, Value.category]) ?_
  intro X hX C
  refine wz_aload_n C rfl rfl dX12_bestCut_0 ?_
  refine wz_iconst C dX12_bestCut_1 ?_
  refine wd_putI C f_X12_bestCut_90 fp_X12_0 rfl dX12_bestCut_2 (fun I1 e => ?_)
  replace h := h I1 e
  refine wz_aload_n C rfl rfl dX12_bestCut_5 ?_
  refine wm_callV C (o := 0) (As := []) (st := []) (a' := 0) (b' := 0) rfl rfl (k_X12_groups G hG I1 J _ h) 0 gX12_bestCut_X12_groups rfl (by decide +kernel) (by rw [hX]; exact ⟨Nat.le_of_ble_eq_true rfl, Nat.le_of_ble_eq_true rfl⟩) rfl (Nat.le_of_ble_eq_true rfl) rfl rfl rfl dX12_bestCut_6 (kk_sI (fun v2 I2 J2 h => ?_))
  refine wz_bipush C (by decide) dX12_bestCut_9 ?_
  obtain ⟨g3, h⟩ := h
  refine wz_icmp_le C (tgt := 16) g3 (by decide) dX12_bestCut_11 (by decide) (fun c => ?_) (fun c => ?_)
  · replace h := h.1 c
    refine wz_aload_n C rfl rfl dX12_bestCut_16 ?_
    refine wm_callV C (o := 0) (As := []) (st := []) (a' := 0) (b' := 0) rfl rfl (k_X12_searches G hG I2 J2 _ h) 0 gX12_bestCut_X12_searches rfl (by decide +kernel) (by rw [hX]; exact ⟨Nat.le_of_ble_eq_true rfl, Nat.le_of_ble_eq_true rfl⟩) rfl (Nat.le_of_ble_eq_true rfl) rfl rfl rfl dX12_bestCut_17 (kk_sV (fun I4 J4 h => ?_))
    refine wz_aload_n C rfl rfl dX12_bestCut_20 ?_
    refine wz_getI C rfl f_X12_bestCut_370 rfl dX12_bestCut_21 ?_
    exact wz_iret C dX12_bestCut_24 ⟨_, rfl, h⟩
  · replace h := h.2 c
    refine wz_iconst C dX12_bestCut_14 ?_
    exact wz_iret C dX12_bestCut_15 ⟨_, rfl, h⟩
def rm_X12_stepsToEnd : Room := { frames := 8, cells := 0, slots := 0, locals := 180 }
set_option maxHeartbeats 4000000 in
set_option maxRecDepth 100000 in
theorem bk_X12_stepsToEnd_73 (G : KG) (hG : Kok G) (X : KX) (hX : KR X = rm_X12_stepsToEnd) (C : Fr G X cX12_stepsToEnd 5 yX12_stepsToEnd.cls (some .int) wsX12_stepsToEnd) (l1 : Int) (Q : Int → Ii → Jj → Prop) (l2 : Int) (l3 : Int) (I : Ii) (J : Jj) (h : B_X12_stepsToEnd_73 l1 Q l2 l3 I J) : Wz G X 5 (QsU G X (QsI Q)) 0 0 73 [some (.ref (kadr G 0)), none, some (.int (iZ l2)), some (.int (iZ l3)), none] [] I J := by
  unfold B_X12_stepsToEnd_73 at h
  refine wz_aload_n C rfl rfl dX12_stepsToEnd_73 ?_
  refine wm_callV C (o := 0) (As := []) (st := []) (a' := 0) (b' := 0) rfl rfl (k_X12_thinksNoMore G hG I J _ h) 0 gX12_stepsToEnd_X12_thinksNoMore rfl (by decide +kernel) (by rw [hX]; exact ⟨Nat.le_of_ble_eq_true rfl, Nat.le_of_ble_eq_true rfl⟩) rfl (Nat.le_of_ble_eq_true rfl) rfl rfl rfl dX12_stepsToEnd_74 (kk_sV (fun I12 J12 h => ?_))
  refine wz_iload_n C rfl rfl dX12_stepsToEnd_77 ?_
  obtain ⟨g13, h⟩ := h
  refine wz_if_eq C (tgt := 85) g13 dX12_stepsToEnd_78 (by decide) (fun c => ?_) (fun c => ?_)
  · replace h := h.1 c
    refine wz_iload_n C rfl rfl dX12_stepsToEnd_85 ?_
    exact wz_iret C dX12_stepsToEnd_86 ⟨_, rfl, h⟩
  · replace h := h.2 c
    refine wz_iconst C dX12_stepsToEnd_81 ?_
    refine wz_goto C dX12_stepsToEnd_82 (tgt := 86) (by decide) ?_
    exact wz_iret C dX12_stepsToEnd_86 ⟨_, rfl, h⟩
set_option maxHeartbeats 4000000 in
set_option maxRecDepth 100000 in
theorem lk_X12_stepsToEnd_38 (G : KG) (hG : Kok G) (X : KX) (hX : KR X = rm_X12_stepsToEnd) (C : Fr G X cX12_stepsToEnd 5 yX12_stepsToEnd.cls (some .int) wsX12_stepsToEnd) (l1 : Int) (Q : Int → Ii → Jj → Prop) : ∀ (n : Nat) (l2 : Int) (l3 : Int) (I : Ii) (J : Jj), L_X12_stepsToEnd_38 l1 Q n l2 l3 I J → Wz G X 5 (QsU G X (QsI Q)) 0 0 38 [some (.ref (kadr G 0)), some (.int (iZ l1)), some (.int (iZ l2)), some (.int (iZ l3)), none] [] I J := by
  intro n
  induction n with
  | zero => intro l2 l3 I J h; exact False.elim h
  | succ n w38 =>
    intro l2 l3 I J h
    have h : Lb_X12_stepsToEnd_38 l1 Q (L_X12_stepsToEnd_38 l1 Q n) l2 l3 I J := h
    unfold Lb_X12_stepsToEnd_38 at h
    generalize L_X12_stepsToEnd_38 l1 Q n = r38 at h w38
    refine wz_iload_n C rfl rfl dX12_stepsToEnd_38 ?_
    refine wz_iload_n C rfl rfl dX12_stepsToEnd_39 ?_
    obtain ⟨g6, h⟩ := h
    obtain ⟨g7, h⟩ := h
    refine wz_icmp_ge C (tgt := 73) g6 g7 dX12_stepsToEnd_40 (by decide) (fun c => ?_) (fun c => ?_)
    · replace h := h.1 c
      exact Wz.drop (bk_X12_stepsToEnd_73 G hG X hX C l1 Q l2 l3 I J h) (And.intro rfl (And.intro rfl (And.intro rfl trivial)))
    · replace h := h.2 c
      refine wz_iload_n C rfl rfl dX12_stepsToEnd_43 ?_
      obtain ⟨g8, h⟩ := h
      refine wz_if_eq C (tgt := 73) g8 dX12_stepsToEnd_44 (by decide) (fun c => ?_) (fun c => ?_)
      · replace h := h.1 c
        exact Wz.drop (bk_X12_stepsToEnd_73 G hG X hX C l1 Q l2 l3 I J h) (And.intro rfl (And.intro rfl (And.intro rfl trivial)))
      · replace h := h.2 c
        refine wz_aload_n C rfl rfl dX12_stepsToEnd_47 ?_
        refine wm_callV C (o := 0) (As := []) (st := []) (a' := 0) (b' := 0) rfl rfl (k_X12_stepNow G hG I J _ h) 0 gX12_stepsToEnd_X12_stepNow rfl (by decide +kernel) (by rw [hX]; exact ⟨Nat.le_of_ble_eq_true rfl, Nat.le_of_ble_eq_true rfl⟩) rfl (Nat.le_of_ble_eq_true rfl) rfl rfl rfl dX12_stepsToEnd_48 (kk_sI (fun v9 I9 J9 h => ?_))
        refine wz_istore_4 C rfl dX12_stepsToEnd_51 ?_
        refine wz_iinc_2 C rfl dX12_stepsToEnd_53 ?_
        refine wz_aload_n C rfl rfl dX12_stepsToEnd_56 ?_
        refine wm_callV C (o := 0) (As := []) (st := []) (a' := 0) (b' := 0) rfl rfl (k_X12_nextNow G hG I9 J9 _ h) 0 gX12_stepsToEnd_X12_nextNow rfl (by decide +kernel) (by rw [hX]; exact ⟨Nat.le_of_ble_eq_true rfl, Nat.le_of_ble_eq_true rfl⟩) rfl (Nat.le_of_ble_eq_true rfl) rfl rfl rfl dX12_stepsToEnd_57 (kk_sI (fun v10 I10 J10 h => ?_))
        refine wz_iconst C dX12_stepsToEnd_60 ?_
        obtain ⟨g11, h⟩ := h
        refine wz_icmp_eq C (tgt := 68) g11 (by decide) dX12_stepsToEnd_61 (by decide) (fun c => ?_) (fun c => ?_)
        · replace h := h.1 c
          refine wz_iconst C dX12_stepsToEnd_68 ?_
          refine wz_istore_3 C rfl dX12_stepsToEnd_69 ?_
          refine wz_goto C dX12_stepsToEnd_70 (tgt := 38) (by decide) ?_
          exact Wz.drop (w38 (l2 + 1) 0 I10 J10 h) (And.intro rfl (And.intro rfl (And.intro rfl (And.intro rfl trivial))))
        · replace h := h.2 c
          refine wz_iconst C dX12_stepsToEnd_64 ?_
          refine wz_goto C dX12_stepsToEnd_65 (tgt := 69) (by decide) ?_
          refine wz_istore_3 C rfl dX12_stepsToEnd_69 ?_
          refine wz_goto C dX12_stepsToEnd_70 (tgt := 38) (by decide) ?_
          exact Wz.drop (w38 (l2 + 1) 1 I10 J10 h) (And.intro rfl (And.intro rfl (And.intro rfl (And.intro rfl trivial))))
set_option maxHeartbeats 4000000 in
set_option maxRecDepth 100000 in
theorem k_X12_stepsToEnd (G : KG) (hG : Kok G) (l1 : Int) (I : Ii) (J : Jj) (Q : Int → Ii → Jj → Prop) (h : wp_X12_stepsToEnd l1 I J Q) : Ctr G yX12_stepsToEnd wsX12_stepsToEnd rm_X12_stepsToEnd [.ref (kadr G 0), .int (iZ l1)] (I, J) (QsI Q) := by
  unfold wp_X12_stepsToEnd at h
  skip
  refine Ctr.ofZ (cc := cX12_stepsToEnd) (nL := 5) (ret := (some .int)) [some (.ref (kadr G 0)), some (.int (iZ l1)), none, none, none] hG (by decide +kernel) rfl (Nat.le_of_ble_eq_true rfl) (Nat.le_of_ble_eq_true rfl) (by simp [lvA, lv_args, Value.category]) ?_
  intro X hX C
  refine wz_aload_n C rfl rfl dX12_stepsToEnd_0 ?_
  refine wz_iload_n C rfl rfl dX12_stepsToEnd_1 ?_
  refine wd_i2l C dX12_stepsToEnd_2 ?_
  refine wz_lconst C (v := lZ 0) (by decide) dX12_stepsToEnd_3 ?_
  refine wz_ldc2_w C (v := lZ 200) (by decide +kernel) dX12_stepsToEnd_4 ?_
  refine wm_callS C (As := [.long (i2lZ l1), .long (lZ 0), .long (lZ 200)]) (st := [.ref (kadr G 0)]) (a' := 0) (b' := 0) (k_X12_isIn G hG (i2lZ l1) (lZ 0) (lZ 200) I J _ h) 3 gX12_stepsToEnd_X12_isIn rfl (by decide +kernel) (by rw [hX]; exact ⟨Nat.le_of_ble_eq_true rfl, Nat.le_of_ble_eq_true rfl⟩) rfl (Nat.le_of_ble_eq_true rfl) rfl rfl rfl dX12_stepsToEnd_7 (kk_sB (fun v1 I1 J1 hb1 h => ?_))
  refine wm_callV C (o := 0) (As := [.int (iZ v1)]) (st := []) (a' := 0) (b' := 0) rfl rfl (k_X12_goes G hG v1 I1 J1 _ h) 1 gX12_stepsToEnd_X12_goes rfl (by decide +kernel) (by rw [hX]; exact ⟨Nat.le_of_ble_eq_true rfl, Nat.le_of_ble_eq_true rfl⟩) rfl (Nat.le_of_ble_eq_true rfl) rfl rfl rfl dX12_stepsToEnd_10 (kk_sB (fun v2 I2 J2 hb2 h => ?_))
  refine wz_if_ne C (tgt := 18) (rgB hb2) dX12_stepsToEnd_13 (by decide) (fun c => ?_) (fun c => ?_)
  · replace h := h.1 c
    refine wz_aload_n C rfl rfl dX12_stepsToEnd_18 ?_
    refine wm_callV C (o := 0) (As := []) (st := []) (a' := 0) (b' := 0) rfl rfl (k_X12_thinks G hG I2 J2 _ h) 0 gX12_stepsToEnd_X12_thinks rfl (by decide +kernel) (by rw [hX]; exact ⟨Nat.le_of_ble_eq_true rfl, Nat.le_of_ble_eq_true rfl⟩) rfl (Nat.le_of_ble_eq_true rfl) rfl rfl rfl dX12_stepsToEnd_19 (kk_sV (fun I3 J3 h => ?_))
    refine wz_iconst C dX12_stepsToEnd_22 ?_
    refine wz_istore_2 C rfl dX12_stepsToEnd_23 ?_
    refine wz_aload_n C rfl rfl dX12_stepsToEnd_24 ?_
    refine wm_callV C (o := 0) (As := []) (st := []) (a' := 0) (b' := 0) rfl rfl (k_X12_nextNow G hG I3 J3 _ h) 0 gX12_stepsToEnd_X12_nextNow rfl (by decide +kernel) (by rw [hX]; exact ⟨Nat.le_of_ble_eq_true rfl, Nat.le_of_ble_eq_true rfl⟩) rfl (Nat.le_of_ble_eq_true rfl) rfl rfl rfl dX12_stepsToEnd_25 (kk_sI (fun v4 I4 J4 h => ?_))
    refine wz_iconst C dX12_stepsToEnd_28 ?_
    obtain ⟨g5, h⟩ := h
    refine wz_icmp_eq C (tgt := 36) g5 (by decide) dX12_stepsToEnd_29 (by decide) (fun c => ?_) (fun c => ?_)
    · replace h := h.1 c
      refine wz_iconst C dX12_stepsToEnd_36 ?_
      refine wz_istore_3 C rfl dX12_stepsToEnd_37 ?_
      obtain ⟨n, h⟩ := h
      exact lk_X12_stepsToEnd_38 G hG X hX C l1 Q n 0 0 I4 J4 h
    · replace h := h.2 c
      refine wz_iconst C dX12_stepsToEnd_32 ?_
      refine wz_goto C dX12_stepsToEnd_33 (tgt := 37) (by decide) ?_
      refine wz_istore_3 C rfl dX12_stepsToEnd_37 ?_
      obtain ⟨n, h⟩ := h
      exact lk_X12_stepsToEnd_38 G hG X hX C l1 Q n 0 1 I4 J4 h
  · replace h := h.2 c
    refine wz_iconst C dX12_stepsToEnd_16 ?_
    exact wz_iret C dX12_stepsToEnd_17 ⟨_, rfl, h⟩
def rm_X12_cutBehind : Room := { frames := 9, cells := 0, slots := 0, locals := 203 }
set_option maxHeartbeats 4000000 in
set_option maxRecDepth 100000 in
theorem k_X12_cutBehind (G : KG) (hG : Kok G) (l1 : Int) (I : Ii) (J : Jj) (Q : Int → Ii → Jj → Prop) (h : wp_X12_cutBehind l1 I J Q) : Ctr G yX12_cutBehind wsX12_cutBehind rm_X12_cutBehind [.ref (kadr G 0), .int (iZ l1)] (I, J) (QsI Q) := by
  unfold wp_X12_cutBehind at h
  skip
  refine Ctr.ofZ (cc := cX12_cutBehind) (nL := 4) (ret := (some .int)) [some (.ref (kadr G 0)), some (.int (iZ l1)), none, none] hG (by decide +kernel) rfl (Nat.le_of_ble_eq_true rfl) (Nat.le_of_ble_eq_true rfl) (by simp [lvA, lv_args, Value.category]) ?_
  intro X hX C
  refine wz_aload_n C rfl rfl dX12_cutBehind_0 ?_
  refine wz_iload_n C rfl rfl dX12_cutBehind_1 ?_
  refine wd_i2l C dX12_cutBehind_2 ?_
  refine wz_lconst C (v := lZ 0) (by decide) dX12_cutBehind_3 ?_
  refine wz_ldc2_w C (v := lZ 200) (by decide +kernel) dX12_cutBehind_4 ?_
  refine wm_callS C (As := [.long (i2lZ l1), .long (lZ 0), .long (lZ 200)]) (st := [.ref (kadr G 0)]) (a' := 0) (b' := 0) (k_X12_isIn G hG (i2lZ l1) (lZ 0) (lZ 200) I J _ h) 3 gX12_cutBehind_X12_isIn rfl (by decide +kernel) (by rw [hX]; exact ⟨Nat.le_of_ble_eq_true rfl, Nat.le_of_ble_eq_true rfl⟩) rfl (Nat.le_of_ble_eq_true rfl) rfl rfl rfl dX12_cutBehind_7 (kk_sB (fun v1 I1 J1 hb1 h => ?_))
  refine wm_callV C (o := 0) (As := [.int (iZ v1)]) (st := []) (a' := 0) (b' := 0) rfl rfl (k_X12_goes G hG v1 I1 J1 _ h) 1 gX12_cutBehind_X12_goes rfl (by decide +kernel) (by rw [hX]; exact ⟨Nat.le_of_ble_eq_true rfl, Nat.le_of_ble_eq_true rfl⟩) rfl (Nat.le_of_ble_eq_true rfl) rfl rfl rfl dX12_cutBehind_10 (kk_sB (fun v2 I2 J2 hb2 h => ?_))
  refine wz_if_ne C (tgt := 18) (rgB hb2) dX12_cutBehind_13 (by decide) (fun c => ?_) (fun c => ?_)
  · replace h := h.1 c
    refine wz_aload_n C rfl rfl dX12_cutBehind_18 ?_
    refine wm_callV C (o := 0) (As := []) (st := []) (a' := 0) (b' := 0) rfl rfl (k_X12_thinks G hG I2 J2 _ h) 0 gX12_cutBehind_X12_thinks rfl (by decide +kernel) (by rw [hX]; exact ⟨Nat.le_of_ble_eq_true rfl, Nat.le_of_ble_eq_true rfl⟩) rfl (Nat.le_of_ble_eq_true rfl) rfl rfl rfl dX12_cutBehind_19 (kk_sV (fun I3 J3 h => ?_))
    refine wz_aload_n C rfl rfl dX12_cutBehind_22 ?_
    refine wz_iload_n C rfl rfl dX12_cutBehind_23 ?_
    refine wm_callV C (o := 0) (As := [.int (iZ l1)]) (st := []) (a' := 0) (b' := 0) rfl rfl (k_X12_stepsNow G hG l1 I3 J3 _ h) 1 gX12_cutBehind_X12_stepsNow rfl (by decide +kernel) (by rw [hX]; exact ⟨Nat.le_of_ble_eq_true rfl, Nat.le_of_ble_eq_true rfl⟩) rfl (Nat.le_of_ble_eq_true rfl) rfl rfl rfl dX12_cutBehind_24 (kk_sI (fun v4 I4 J4 h => ?_))
    refine wz_istore_2 C rfl dX12_cutBehind_27 ?_
    refine wz_aload_n C rfl rfl dX12_cutBehind_28 ?_
    refine wm_callV C (o := 0) (As := []) (st := []) (a' := 0) (b' := 0) rfl rfl (k_X12_cutNow G hG I4 J4 _ h) 0 gX12_cutBehind_X12_cutNow rfl (by decide +kernel) (by rw [hX]; exact ⟨Nat.le_of_ble_eq_true rfl, Nat.le_of_ble_eq_true rfl⟩) rfl (Nat.le_of_ble_eq_true rfl) rfl rfl rfl dX12_cutBehind_29 (kk_sI (fun v5 I5 J5 h => ?_))
    refine wz_istore_3 C rfl dX12_cutBehind_32 ?_
    refine wz_aload_n C rfl rfl dX12_cutBehind_33 ?_
    refine wm_callV C (o := 0) (As := []) (st := []) (a' := 0) (b' := 0) rfl rfl (k_X12_thinksNoMore G hG I5 J5 _ h) 0 gX12_cutBehind_X12_thinksNoMore rfl (by decide +kernel) (by rw [hX]; exact ⟨Nat.le_of_ble_eq_true rfl, Nat.le_of_ble_eq_true rfl⟩) rfl (Nat.le_of_ble_eq_true rfl) rfl rfl rfl dX12_cutBehind_34 (kk_sV (fun I6 J6 h => ?_))
    refine wz_iload_n C rfl rfl dX12_cutBehind_37 ?_
    exact wz_iret C dX12_cutBehind_38 ⟨_, rfl, h⟩
  · replace h := h.2 c
    refine wz_iconst C dX12_cutBehind_16 ?_
    exact wz_iret C dX12_cutBehind_17 ⟨_, rfl, h⟩
theorem in_X12_placesBest_X12 : ∀ w ∈ wsX120, w ∈ wsX12_placesBest := by decide +kernel
theorem f_X12_placesBest_63 : FLk wsX12_placesBest RX12 63 12 32 := flk 12 32 rfl tyX12_ok nmX12 in_X12_placesBest_X12 (by decide) (by decide +kernel)
def rm_X12_placesBest : Room := { frames := 4, cells := 0, slots := 0, locals := 94 }
set_option maxHeartbeats 4000000 in
set_option maxRecDepth 100000 in
theorem lk_X12_placesBest_8 (G : KG) (hG : Kok G) (X : KX) (hX : KR X = rm_X12_placesBest) (C : Fr G X cX12_placesBest 3 yX12_placesBest.cls (some .int) wsX12_placesBest) (Q : Int → Ii → Jj → Prop) : ∀ (n : Nat) (l1 : Int) (l2 : Int) (I : Ii) (J : Jj), L_X12_placesBest_8 Q n l1 l2 I J → Wz G X 3 (QsU G X (QsI Q)) 0 0 8 [some (.ref (kadr G 0)), some (.int (iZ l1)), some (.int (iZ l2))] [] I J := by
  intro n
  induction n with
  | zero => intro l1 l2 I J h; exact False.elim h
  | succ n w8 =>
    intro l1 l2 I J h
    have h : Lb_X12_placesBest_8 Q (L_X12_placesBest_8 Q n) l1 l2 I J := h
    unfold Lb_X12_placesBest_8 at h
    generalize L_X12_placesBest_8 Q n = r8 at h w8
    refine wz_iload_n C rfl rfl dX12_placesBest_8 ?_
    refine wz_aload_n C rfl rfl dX12_placesBest_9 ?_
    refine wm_callV C (o := 0) (As := []) (st := [.int (iZ l2)]) (a' := 0) (b' := 0) rfl rfl (k_X12_groups G hG I J _ h) 0 gX12_placesBest_X12_groups rfl (by decide +kernel) (by rw [hX]; exact ⟨Nat.le_of_ble_eq_true rfl, Nat.le_of_ble_eq_true rfl⟩) rfl (Nat.le_of_ble_eq_true rfl) rfl rfl rfl dX12_placesBest_10 (kk_sI (fun v2 I2 J2 h => ?_))
    obtain ⟨g3, h⟩ := h
    obtain ⟨g4, h⟩ := h
    refine wz_icmp_ge C (tgt := 39) g3 g4 dX12_placesBest_13 (by decide) (fun c => ?_) (fun c => ?_)
    · replace h := h.1 c
      refine wz_iload_n C rfl rfl dX12_placesBest_39 ?_
      exact wz_iret C dX12_placesBest_40 ⟨_, rfl, h⟩
    · replace h := h.2 c
      refine wz_iload_n C rfl rfl dX12_placesBest_16 ?_
      refine wz_aload_n C rfl rfl dX12_placesBest_17 ?_
      refine wz_iload_n C rfl rfl dX12_placesBest_18 ?_
      refine wz_aload_n C rfl rfl dX12_placesBest_19 ?_
      refine wz_getR C (j := 14) f_X12_placesBest_63 rfl dX12_placesBest_20 ?_
      refine wz_iload_n C rfl rfl dX12_placesBest_23 ?_
      obtain ⟨g5, h⟩ := h
      refine wz_iaload C l2.toNat (n := 7) rfl (zN g5) (zL g5) (by decide) rfl dX12_placesBest_24 ?_
      refine wm_callV C (o := 0) (As := [.int (iZ l2), .int (iZ (I2 14 l2.toNat))]) (st := [.int (iZ l1)]) (a' := 0) (b' := 0) rfl rfl (k_X12_comes G hG l2 (I2 14 l2.toNat) I2 J2 _ h) 2 gX12_placesBest_X12_comes rfl (by decide +kernel) (by rw [hX]; exact ⟨Nat.le_of_ble_eq_true rfl, Nat.le_of_ble_eq_true rfl⟩) rfl (Nat.le_of_ble_eq_true rfl) rfl rfl rfl dX12_placesBest_25 (kk_sB (fun v6 I6 J6 hb6 h => ?_))
      refine wm_callS C (As := [.int (iZ v6)]) (st := [.int (iZ l1)]) (a' := 0) (b' := 0) (k_X12_truth G hG v6 I6 J6 _ h) 1 gX12_placesBest_X12_truth rfl (by decide +kernel) (by rw [hX]; exact ⟨Nat.le_of_ble_eq_true rfl, Nat.le_of_ble_eq_true rfl⟩) rfl (Nat.le_of_ble_eq_true rfl) rfl rfl rfl dX12_placesBest_28 (kk_sI (fun v7 I7 J7 h => ?_))
      refine wz_iadd C dX12_placesBest_31 ?_
      refine wz_istore_1 C rfl dX12_placesBest_32 ?_
      refine wz_iinc_2 C rfl dX12_placesBest_33 ?_
      refine wz_goto C dX12_placesBest_36 (tgt := 8) (by decide) ?_
      exact w8 (l1 + v7) (l2 + 1) I7 J7 h
set_option maxHeartbeats 4000000 in
set_option maxRecDepth 100000 in
theorem k_X12_placesBest (G : KG) (hG : Kok G) (I : Ii) (J : Jj) (Q : Int → Ii → Jj → Prop) (h : wp_X12_placesBest I J Q) : Ctr G yX12_placesBest wsX12_placesBest rm_X12_placesBest [.ref (kadr G 0)] (I, J) (QsI Q) := by
  unfold wp_X12_placesBest at h
  skip
  refine Ctr.ofZ (cc := cX12_placesBest) (nL := 3) (ret := (some .int)) [some (.ref (kadr G 0)), none, none] hG (by decide +kernel) rfl (Nat.le_of_ble_eq_true rfl) (Nat.le_of_ble_eq_true rfl) (by simp [lvA, lv_args, Value.category]) ?_
  intro X hX C
  refine wz_aload_n C rfl rfl dX12_placesBest_0 ?_
  refine wm_callV C (o := 0) (As := []) (st := []) (a' := 0) (b' := 0) rfl rfl (k_X12_searches G hG I J _ h) 0 gX12_placesBest_X12_searches rfl (by decide +kernel) (by rw [hX]; exact ⟨Nat.le_of_ble_eq_true rfl, Nat.le_of_ble_eq_true rfl⟩) rfl (Nat.le_of_ble_eq_true rfl) rfl rfl rfl dX12_placesBest_1 (kk_sV (fun I1 J1 h => ?_))
  refine wz_iconst C dX12_placesBest_4 ?_
  refine wz_istore_1 C rfl dX12_placesBest_5 ?_
  refine wz_iconst C dX12_placesBest_6 ?_
  refine wz_istore_2 C rfl dX12_placesBest_7 ?_
  obtain ⟨n, h⟩ := h
  exact lk_X12_placesBest_8 G hG X hX C Q n 0 0 I1 J1 h
def rm_X12_placeBest : Room := { frames := 5, cells := 0, slots := 0, locals := 116 }
set_option maxHeartbeats 4000000 in
set_option maxRecDepth 100000 in
theorem bk_X12_placeBest_15 (G : KG) (hG : Kok G) (X : KX) (hX : KR X = rm_X12_placeBest) (C : Fr G X cX12_placeBest 1 yX12_placeBest.cls (some .int) wsX12_placeBest) (Q : Int → Ii → Jj → Prop) (t1 : Int) (I : Ii) (J : Jj) (h : B_X12_placeBest_15 Q t1 I J) : Wz G X 1 (QsU G X (QsI Q)) 0 0 15 [some (.ref (kadr G 0))] [.int (iZ t1), .ref (kadr G 0)] I J := by
  unfold B_X12_placeBest_15 at h
  refine wm_callV C (o := 0) (As := [.int (iZ t1)]) (st := []) (a' := 0) (b' := 0) rfl rfl (k_X12_goes G hG t1 I J _ h) 1 gX12_placeBest_X12_goes rfl (by decide +kernel) (by rw [hX]; exact ⟨Nat.le_of_ble_eq_true rfl, Nat.le_of_ble_eq_true rfl⟩) rfl (Nat.le_of_ble_eq_true rfl) rfl rfl rfl dX12_placeBest_15 (kk_sB (fun v3 I3 J3 hb3 h => ?_))
  refine wz_if_ne C (tgt := 23) (rgB hb3) dX12_placeBest_18 (by decide) (fun c => ?_) (fun c => ?_)
  · replace h := h.1 c
    refine wz_aload_n C rfl rfl dX12_placeBest_23 ?_
    refine wm_callV C (o := 0) (As := []) (st := []) (a' := 0) (b' := 0) rfl rfl (k_X12_laysAside G hG I3 J3 _ h) 0 gX12_placeBest_X12_laysAside rfl (by decide +kernel) (by rw [hX]; exact ⟨Nat.le_of_ble_eq_true rfl, Nat.le_of_ble_eq_true rfl⟩) rfl (Nat.le_of_ble_eq_true rfl) rfl rfl rfl dX12_placeBest_24 (kk_sV (fun I4 J4 h => ?_))
    refine wz_aload_n C rfl rfl dX12_placeBest_27 ?_
    refine wz_aload_n C rfl rfl dX12_placeBest_28 ?_
    refine wm_callV C (o := 0) (As := []) (st := [.ref (kadr G 0)]) (a' := 0) (b' := 0) rfl rfl (k_X12_placesBest G hG I4 J4 _ h) 0 gX12_placeBest_X12_placesBest rfl (by decide +kernel) (by rw [hX]; exact ⟨Nat.le_of_ble_eq_true rfl, Nat.le_of_ble_eq_true rfl⟩) rfl (Nat.le_of_ble_eq_true rfl) rfl rfl rfl dX12_placeBest_29 (kk_sI (fun v5 I5 J5 h => ?_))
    refine wm_callV C (o := 0) (As := [.int (iZ v5)]) (st := []) (a' := 0) (b' := 0) rfl rfl (k_X12_kept G hG v5 I5 J5 _ h) 1 gX12_placeBest_X12_kept rfl (by decide +kernel) (by rw [hX]; exact ⟨Nat.le_of_ble_eq_true rfl, Nat.le_of_ble_eq_true rfl⟩) rfl (Nat.le_of_ble_eq_true rfl) rfl rfl rfl dX12_placeBest_32 (kk_sI (fun v6 I6 J6 h => ?_))
    exact wz_iret C dX12_placeBest_35 ⟨_, rfl, h⟩
  · replace h := h.2 c
    refine wz_iconst C dX12_placeBest_21 ?_
    exact wz_iret C dX12_placeBest_22 ⟨_, rfl, h⟩
set_option maxHeartbeats 4000000 in
set_option maxRecDepth 100000 in
theorem k_X12_placeBest (G : KG) (hG : Kok G) (I : Ii) (J : Jj) (Q : Int → Ii → Jj → Prop) (h : wp_X12_placeBest I J Q) : Ctr G yX12_placeBest wsX12_placeBest rm_X12_placeBest [.ref (kadr G 0)] (I, J) (QsI Q) := by
  unfold wp_X12_placeBest at h
  skip
  refine Ctr.ofZ (cc := cX12_placeBest) (nL := 1) (ret := (some .int)) [some (.ref (kadr G 0))] hG (by decide +kernel) rfl (Nat.le_of_ble_eq_true rfl) (Nat.le_of_ble_eq_true rfl) (by simp [lvA, lv_args, Value.category]) ?_
  intro X hX C
  refine wz_aload_n C rfl rfl dX12_placeBest_0 ?_
  refine wz_aload_n C rfl rfl dX12_placeBest_1 ?_
  refine wm_callV C (o := 0) (As := []) (st := [.ref (kadr G 0)]) (a' := 0) (b' := 0) rfl rfl (k_X12_groups G hG I J _ h) 0 gX12_placeBest_X12_groups rfl (by decide +kernel) (by rw [hX]; exact ⟨Nat.le_of_ble_eq_true rfl, Nat.le_of_ble_eq_true rfl⟩) rfl (Nat.le_of_ble_eq_true rfl) rfl rfl rfl dX12_placeBest_2 (kk_sI (fun v1 I1 J1 h => ?_))
  refine wz_bipush C (by decide) dX12_placeBest_5 ?_
  obtain ⟨g2, h⟩ := h
  refine wz_icmp_gt C (tgt := 14) g2 (by decide) dX12_placeBest_7 (by decide) (fun c => ?_) (fun c => ?_)
  · replace h := h.1 c
    refine wz_iconst C dX12_placeBest_14 ?_
    exact bk_X12_placeBest_15 G hG X hX C Q 0 I1 J1 h
  · replace h := h.2 c
    refine wz_iconst C dX12_placeBest_10 ?_
    refine wz_goto C dX12_placeBest_11 (tgt := 15) (by decide) ?_
    exact bk_X12_placeBest_15 G hG X hX C Q 1 I1 J1 h
theorem in_X12_does_X12 : ∀ w ∈ wsX120, w ∈ wsX12_does := by decide +kernel
theorem f_X12_does_456 : FLk wsX12_does RX12 456 12 44 := flk 12 44 rfl tyX12_ok nmX12 in_X12_does_X12 (by decide) (by decide +kernel)
theorem fp_X12_44 : FPk 12 44 .int := fun C9 T9 N9 h => by
  have h : some (RX12, TX12, 48) = some (C9, T9, N9) := h
  cases h
  exact ⟨rfl, by decide +kernel⟩
def rm_X12_does : Room := { frames := 9, cells := 0, slots := 0, locals := 203 }
set_option maxHeartbeats 4000000 in
set_option maxRecDepth 100000 in
theorem bk_X12_does_108 (G : KG) (hG : Kok G) (X : KX) (hX : KR X = rm_X12_does) (C : Fr G X cX12_does 4 yX12_does.cls (some .boolean) wsX12_does) (l1 : Int) (l2 : Int) (l3 : Int) (Q : Int → Ii → Jj → Prop)  (I : Ii) (J : Jj) (h : B_X12_does_108 l1 l2 l3 Q  I J) : Wz G X 4 (QsU G X (QsB Q)) 0 0 108 [some (.ref (kadr G 0)), some (.int (iZ l1)), some (.int (iZ l2)), none] [] I J := by
  unfold B_X12_does_108 at h
  refine wz_iload_n C rfl rfl dX12_does_108 ?_
  refine wz_bipush C (by decide) dX12_does_109 ?_
  obtain ⟨g23, h⟩ := h
  refine wz_icmp_ne C (tgt := 123) g23 (by decide) dX12_does_111 (by decide) (fun c => ?_) (fun c => ?_)
  · replace h := h.1 c
    refine wz_iconst C dX12_does_123 ?_
    exact wz_zret C (Or.inr rfl) dX12_does_124 ⟨_, rfl, (Or.inr rfl), h⟩
  · replace h := h.2 c
    refine wz_aload_n C rfl rfl dX12_does_114 ?_
    refine wz_aload_n C rfl rfl dX12_does_115 ?_
    refine wz_iload_n C rfl rfl dX12_does_116 ?_
    refine wm_callV C (o := 0) (As := [.int (iZ l2)]) (st := [.ref (kadr G 0)]) (a' := 0) (b' := 0) rfl rfl (k_X12_setsCredit G hG l2 I J _ h) 1 gX12_does_X12_setsCredit rfl (by decide +kernel) (by rw [hX]; exact ⟨Nat.le_of_ble_eq_true rfl, Nat.le_of_ble_eq_true rfl⟩) rfl (Nat.le_of_ble_eq_true rfl) rfl rfl rfl dX12_does_117 (kk_sI (fun v24 I24 J24 h => ?_))
    refine wd_putI C f_X12_does_456 fp_X12_44 rfl dX12_does_120 (fun I25 e => ?_)
    replace h := h I25 e
    refine wz_iconst C dX12_does_123 ?_
    exact wz_zret C (Or.inr rfl) dX12_does_124 ⟨_, rfl, (Or.inr rfl), h⟩
set_option maxHeartbeats 4000000 in
set_option maxRecDepth 100000 in
theorem bk_X12_does_92 (G : KG) (hG : Kok G) (X : KX) (hX : KR X = rm_X12_does) (C : Fr G X cX12_does 4 yX12_does.cls (some .boolean) wsX12_does) (l1 : Int) (l2 : Int) (l3 : Int) (Q : Int → Ii → Jj → Prop)  (I : Ii) (J : Jj) (h : B_X12_does_92 l1 l2 l3 Q  I J) : Wz G X 4 (QsU G X (QsB Q)) 0 0 92 [some (.ref (kadr G 0)), some (.int (iZ l1)), some (.int (iZ l2)), some (.int (iZ l3))] [] I J := by
  unfold B_X12_does_92 at h
  refine wz_iload_n C rfl rfl dX12_does_92 ?_
  refine wz_bipush C (by decide) dX12_does_93 ?_
  obtain ⟨g20, h⟩ := h
  refine wz_icmp_ne C (tgt := 108) g20 (by decide) dX12_does_95 (by decide) (fun c => ?_) (fun c => ?_)
  · replace h := h.1 c
    exact Wz.drop (bk_X12_does_108 G hG X hX C l1 l2 l3 Q I J h) (And.intro rfl (And.intro rfl (And.intro rfl trivial)))
  · replace h := h.2 c
    refine wz_aload_n C rfl rfl dX12_does_98 ?_
    refine wz_aload_n C rfl rfl dX12_does_99 ?_
    refine wz_iload_n C rfl rfl dX12_does_100 ?_
    refine wz_iload_n C rfl rfl dX12_does_101 ?_
    refine wm_callV C (o := 0) (As := [.int (iZ l2), .int (iZ l3)]) (st := [.ref (kadr G 0)]) (a' := 0) (b' := 0) rfl rfl (k_X12_placesApart G hG l2 l3 I J _ h) 2 gX12_does_X12_placesApart rfl (by decide +kernel) (by rw [hX]; exact ⟨Nat.le_of_ble_eq_true rfl, Nat.le_of_ble_eq_true rfl⟩) rfl (Nat.le_of_ble_eq_true rfl) rfl rfl rfl dX12_does_102 (kk_sI (fun v21 I21 J21 h => ?_))
    refine wd_putI C f_X12_does_456 fp_X12_44 rfl dX12_does_105 (fun I22 e => ?_)
    replace h := h I22 e
    exact Wz.drop (bk_X12_does_108 G hG X hX C l1 l2 l3 Q I22 J21 h) (And.intro rfl (And.intro rfl (And.intro rfl trivial)))
set_option maxHeartbeats 4000000 in
set_option maxRecDepth 100000 in
theorem bk_X12_does_79 (G : KG) (hG : Kok G) (X : KX) (hX : KR X = rm_X12_does) (C : Fr G X cX12_does 4 yX12_does.cls (some .boolean) wsX12_does) (l1 : Int) (l2 : Int) (l3 : Int) (Q : Int → Ii → Jj → Prop)  (I : Ii) (J : Jj) (h : B_X12_does_79 l1 l2 l3 Q  I J) : Wz G X 4 (QsU G X (QsB Q)) 0 0 79 [some (.ref (kadr G 0)), some (.int (iZ l1)), some (.int (iZ l2)), some (.int (iZ l3))] [] I J := by
  unfold B_X12_does_79 at h
  refine wz_iload_n C rfl rfl dX12_does_79 ?_
  refine wz_iconst C dX12_does_80 ?_
  obtain ⟨g17, h⟩ := h
  refine wz_icmp_ne C (tgt := 92) g17 (by decide) dX12_does_81 (by decide) (fun c => ?_) (fun c => ?_)
  · replace h := h.1 c
    exact bk_X12_does_92 G hG X hX C l1 l2 l3 Q I J h
  · replace h := h.2 c
    refine wz_aload_n C rfl rfl dX12_does_84 ?_
    refine wz_aload_n C rfl rfl dX12_does_85 ?_
    refine wm_callV C (o := 0) (As := []) (st := [.ref (kadr G 0)]) (a' := 0) (b' := 0) rfl rfl (k_X12_placesBest G hG I J _ h) 0 gX12_does_X12_placesBest rfl (by decide +kernel) (by rw [hX]; exact ⟨Nat.le_of_ble_eq_true rfl, Nat.le_of_ble_eq_true rfl⟩) rfl (Nat.le_of_ble_eq_true rfl) rfl rfl rfl dX12_does_86 (kk_sI (fun v18 I18 J18 h => ?_))
    refine wd_putI C f_X12_does_456 fp_X12_44 rfl dX12_does_89 (fun I19 e => ?_)
    replace h := h I19 e
    exact bk_X12_does_92 G hG X hX C l1 l2 l3 Q I19 J18 h
set_option maxHeartbeats 4000000 in
set_option maxRecDepth 100000 in
theorem bk_X12_does_65 (G : KG) (hG : Kok G) (X : KX) (hX : KR X = rm_X12_does) (C : Fr G X cX12_does 4 yX12_does.cls (some .boolean) wsX12_does) (l1 : Int) (l2 : Int) (l3 : Int) (Q : Int → Ii → Jj → Prop)  (I : Ii) (J : Jj) (h : B_X12_does_65 l1 l2 l3 Q  I J) : Wz G X 4 (QsU G X (QsB Q)) 0 0 65 [some (.ref (kadr G 0)), some (.int (iZ l1)), some (.int (iZ l2)), some (.int (iZ l3))] [] I J := by
  unfold B_X12_does_65 at h
  refine wz_iload_n C rfl rfl dX12_does_65 ?_
  refine wz_iconst C dX12_does_66 ?_
  obtain ⟨g14, h⟩ := h
  refine wz_icmp_ne C (tgt := 79) g14 (by decide) dX12_does_67 (by decide) (fun c => ?_) (fun c => ?_)
  · replace h := h.1 c
    exact bk_X12_does_79 G hG X hX C l1 l2 l3 Q I J h
  · replace h := h.2 c
    refine wz_aload_n C rfl rfl dX12_does_70 ?_
    refine wz_aload_n C rfl rfl dX12_does_71 ?_
    refine wz_iload_n C rfl rfl dX12_does_72 ?_
    refine wm_callV C (o := 0) (As := [.int (iZ l2)]) (st := [.ref (kadr G 0)]) (a' := 0) (b' := 0) rfl rfl (k_X12_stepsNow G hG l2 I J _ h) 1 gX12_does_X12_stepsNow rfl (by decide +kernel) (by rw [hX]; exact ⟨Nat.le_of_ble_eq_true rfl, Nat.le_of_ble_eq_true rfl⟩) rfl (Nat.le_of_ble_eq_true rfl) rfl rfl rfl dX12_does_73 (kk_sI (fun v15 I15 J15 h => ?_))
    refine wd_putI C f_X12_does_456 fp_X12_44 rfl dX12_does_76 (fun I16 e => ?_)
    replace h := h I16 e
    exact bk_X12_does_79 G hG X hX C l1 l2 l3 Q I16 J15 h
set_option maxHeartbeats 4000000 in
set_option maxRecDepth 100000 in
theorem bk_X12_does_52 (G : KG) (hG : Kok G) (X : KX) (hX : KR X = rm_X12_does) (C : Fr G X cX12_does 4 yX12_does.cls (some .boolean) wsX12_does) (l1 : Int) (l2 : Int) (l3 : Int) (Q : Int → Ii → Jj → Prop)  (I : Ii) (J : Jj) (h : B_X12_does_52 l1 l2 l3 Q  I J) : Wz G X 4 (QsU G X (QsB Q)) 0 0 52 [some (.ref (kadr G 0)), some (.int (iZ l1)), some (.int (iZ l2)), some (.int (iZ l3))] [] I J := by
  unfold B_X12_does_52 at h
  refine wz_iload_n C rfl rfl dX12_does_52 ?_
  refine wz_iconst C dX12_does_53 ?_
  obtain ⟨g11, h⟩ := h
  refine wz_icmp_ne C (tgt := 65) g11 (by decide) dX12_does_54 (by decide) (fun c => ?_) (fun c => ?_)
  · replace h := h.1 c
    exact bk_X12_does_65 G hG X hX C l1 l2 l3 Q I J h
  · replace h := h.2 c
    refine wz_aload_n C rfl rfl dX12_does_57 ?_
    refine wz_aload_n C rfl rfl dX12_does_58 ?_
    refine wm_callV C (o := 0) (As := []) (st := [.ref (kadr G 0)]) (a' := 0) (b' := 0) rfl rfl (k_X12_stepNow G hG I J _ h) 0 gX12_does_X12_stepNow rfl (by decide +kernel) (by rw [hX]; exact ⟨Nat.le_of_ble_eq_true rfl, Nat.le_of_ble_eq_true rfl⟩) rfl (Nat.le_of_ble_eq_true rfl) rfl rfl rfl dX12_does_59 (kk_sI (fun v12 I12 J12 h => ?_))
    refine wd_putI C f_X12_does_456 fp_X12_44 rfl dX12_does_62 (fun I13 e => ?_)
    replace h := h I13 e
    exact bk_X12_does_65 G hG X hX C l1 l2 l3 Q I13 J12 h
set_option maxHeartbeats 4000000 in
set_option maxRecDepth 100000 in
theorem bk_X12_does_37 (G : KG) (hG : Kok G) (X : KX) (hX : KR X = rm_X12_does) (C : Fr G X cX12_does 4 yX12_does.cls (some .boolean) wsX12_does) (l1 : Int) (l2 : Int) (l3 : Int) (Q : Int → Ii → Jj → Prop)  (I : Ii) (J : Jj) (h : B_X12_does_37 l1 l2 l3 Q  I J) : Wz G X 4 (QsU G X (QsB Q)) 0 0 37 [some (.ref (kadr G 0)), some (.int (iZ l1)), some (.int (iZ l2)), some (.int (iZ l3))] [] I J := by
  unfold B_X12_does_37 at h
  refine wz_iload_n C rfl rfl dX12_does_37 ?_
  refine wz_iconst C dX12_does_38 ?_
  obtain ⟨g8, h⟩ := h
  refine wz_icmp_ne C (tgt := 52) g8 (by decide) dX12_does_39 (by decide) (fun c => ?_) (fun c => ?_)
  · replace h := h.1 c
    exact bk_X12_does_52 G hG X hX C l1 l2 l3 Q I J h
  · replace h := h.2 c
    refine wz_aload_n C rfl rfl dX12_does_42 ?_
    refine wz_aload_n C rfl rfl dX12_does_43 ?_
    refine wz_iload_n C rfl rfl dX12_does_44 ?_
    refine wz_iload_n C rfl rfl dX12_does_45 ?_
    refine wm_callV C (o := 0) (As := [.int (iZ l2), .int (iZ l3)]) (st := [.ref (kadr G 0)]) (a' := 0) (b' := 0) rfl rfl (k_X12_moves G hG l2 l3 I J _ h) 2 gX12_does_X12_moves rfl (by decide +kernel) (by rw [hX]; exact ⟨Nat.le_of_ble_eq_true rfl, Nat.le_of_ble_eq_true rfl⟩) rfl (Nat.le_of_ble_eq_true rfl) rfl rfl rfl dX12_does_46 (kk_sI (fun v9 I9 J9 h => ?_))
    refine wd_putI C f_X12_does_456 fp_X12_44 rfl dX12_does_49 (fun I10 e => ?_)
    replace h := h I10 e
    exact bk_X12_does_52 G hG X hX C l1 l2 l3 Q I10 J9 h
set_option maxHeartbeats 4000000 in
set_option maxRecDepth 100000 in
theorem bk_X12_does_24 (G : KG) (hG : Kok G) (X : KX) (hX : KR X = rm_X12_does) (C : Fr G X cX12_does 4 yX12_does.cls (some .boolean) wsX12_does) (l1 : Int) (l2 : Int) (l3 : Int) (Q : Int → Ii → Jj → Prop)  (I : Ii) (J : Jj) (h : B_X12_does_24 l1 l2 l3 Q  I J) : Wz G X 4 (QsU G X (QsB Q)) 0 0 24 [some (.ref (kadr G 0)), some (.int (iZ l1)), some (.int (iZ l2)), some (.int (iZ l3))] [] I J := by
  unfold B_X12_does_24 at h
  refine wz_iload_n C rfl rfl dX12_does_24 ?_
  refine wz_iconst C dX12_does_25 ?_
  obtain ⟨g5, h⟩ := h
  refine wz_icmp_ne C (tgt := 37) g5 (by decide) dX12_does_26 (by decide) (fun c => ?_) (fun c => ?_)
  · replace h := h.1 c
    exact bk_X12_does_37 G hG X hX C l1 l2 l3 Q I J h
  · replace h := h.2 c
    refine wz_aload_n C rfl rfl dX12_does_29 ?_
    refine wz_aload_n C rfl rfl dX12_does_30 ?_
    refine wm_callV C (o := 0) (As := []) (st := [.ref (kadr G 0)]) (a' := 0) (b' := 0) rfl rfl (k_X12_grows G hG I J _ h) 0 gX12_does_X12_grows rfl (by decide +kernel) (by rw [hX]; exact ⟨Nat.le_of_ble_eq_true rfl, Nat.le_of_ble_eq_true rfl⟩) rfl (Nat.le_of_ble_eq_true rfl) rfl rfl rfl dX12_does_31 (kk_sI (fun v6 I6 J6 h => ?_))
    refine wd_putI C f_X12_does_456 fp_X12_44 rfl dX12_does_34 (fun I7 e => ?_)
    replace h := h I7 e
    exact bk_X12_does_37 G hG X hX C l1 l2 l3 Q I7 J6 h
set_option maxHeartbeats 4000000 in
set_option maxRecDepth 100000 in
theorem k_X12_does (G : KG) (hG : Kok G) (l1 : Int) (l2 : Int) (l3 : Int) (I : Ii) (J : Jj) (Q : Int → Ii → Jj → Prop) (h : wp_X12_does l1 l2 l3 I J Q) : Ctr G yX12_does wsX12_does rm_X12_does [.ref (kadr G 0), .int (iZ l1), .int (iZ l2), .int (iZ l3)] (I, J) (QsB Q) := by
  unfold wp_X12_does at h
  skip
  refine Ctr.ofZ (cc := cX12_does) (nL := 4) (ret := (some .boolean)) [some (.ref (kadr G 0)), some (.int (iZ l1)), some (.int (iZ l2)), some (.int (iZ l3))] hG (by decide +kernel) rfl (Nat.le_of_ble_eq_true rfl) (Nat.le_of_ble_eq_true rfl) (by simp [lvA, lv_args, Value.category]) ?_
  intro X hX C
  refine wz_aload_n C rfl rfl dX12_does_0 ?_
  refine wz_iload_n C rfl rfl dX12_does_1 ?_
  refine wz_iload_n C rfl rfl dX12_does_2 ?_
  refine wz_iload_n C rfl rfl dX12_does_3 ?_
  refine wm_callV C (o := 0) (As := [.int (iZ l1), .int (iZ l2), .int (iZ l3)]) (st := []) (a' := 0) (b' := 0) rfl rfl (k_X12_may G hG l1 l2 l3 I J _ h) 3 gX12_does_X12_may rfl (by decide +kernel) (by rw [hX]; exact ⟨Nat.le_of_ble_eq_true rfl, Nat.le_of_ble_eq_true rfl⟩) rfl (Nat.le_of_ble_eq_true rfl) rfl rfl rfl dX12_does_4 (kk_sB (fun v1 I1 J1 hb1 h => ?_))
  refine wz_if_ne C (tgt := 12) (rgB hb1) dX12_does_7 (by decide) (fun c => ?_) (fun c => ?_)
  · replace h := h.1 c
    refine wz_iload_n C rfl rfl dX12_does_12 ?_
    obtain ⟨g2, h⟩ := h
    refine wz_if_ne C (tgt := 24) g2 dX12_does_13 (by decide) (fun c => ?_) (fun c => ?_)
    · replace h := h.1 c
      exact bk_X12_does_24 G hG X hX C l1 l2 l3 Q I1 J1 h
    · replace h := h.2 c
      refine wz_aload_n C rfl rfl dX12_does_16 ?_
      refine wz_aload_n C rfl rfl dX12_does_17 ?_
      refine wm_callV C (o := 0) (As := []) (st := [.ref (kadr G 0)]) (a' := 0) (b' := 0) rfl rfl (k_X12_shrinks G hG I1 J1 _ h) 0 gX12_does_X12_shrinks rfl (by decide +kernel) (by rw [hX]; exact ⟨Nat.le_of_ble_eq_true rfl, Nat.le_of_ble_eq_true rfl⟩) rfl (Nat.le_of_ble_eq_true rfl) rfl rfl rfl dX12_does_18 (kk_sI (fun v3 I3 J3 h => ?_))
      refine wd_putI C f_X12_does_456 fp_X12_44 rfl dX12_does_21 (fun I4 e => ?_)
      replace h := h I4 e
      exact bk_X12_does_24 G hG X hX C l1 l2 l3 Q I4 J3 h
  · replace h := h.2 c
    refine wz_iconst C dX12_does_10 ?_
    exact wz_zret C (Or.inl rfl) dX12_does_11 ⟨_, rfl, (Or.inl rfl), h⟩
