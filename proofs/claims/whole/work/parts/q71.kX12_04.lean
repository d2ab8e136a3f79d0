theorem in_X12_allEdges_X12 : ∀ w ∈ wsX120, w ∈ wsX12_allEdges := by decide +kernel
theorem f_X12_allEdges_26 : FLk wsX12_allEdges RX12 26 12 15 := flk 12 15 rfl tyX12_ok nmX12 in_X12_allEdges_X12 (by decide) (by decide +kernel)
def rm_X12_allEdges : Room := { frames := 0, cells := 0, slots := 0, locals := 0 }
set_option maxHeartbeats 4000000 in
set_option maxRecDepth 100000 in
theorem lk_X12_allEdges_4 (G : KG) (hG : Kok G) (X : KX) (hX : KR X = rm_X12_allEdges) (C : Fr G X cX12_allEdges 3 yX12_allEdges.cls (some .int) wsX12_allEdges) (Q : Int → Ii → Jj → Prop) : ∀ (n : Nat) (l1 : Int) (l2 : Int) (I : Ii) (J : Jj), L_X12_allEdges_4 Q n l1 l2 I J → Wz G X 3 (QsU G X (QsI Q)) 0 0 4 [some (.ref (kadr G 0)), some (.int (iZ l1)), some (.int (iZ l2))] [] I J := by
  intro n
  induction n with
  | zero => intro l1 l2 I J h; exact False.elim h
  | succ n w4 =>
    intro l1 l2 I J h
    have h : Lb_X12_allEdges_4 Q (L_X12_allEdges_4 Q n) l1 l2 I J := h
    unfold Lb_X12_allEdges_4 at h
    generalize L_X12_allEdges_4 Q n = r4 at h w4
    refine wz_iload_n C rfl rfl dX12_allEdges_4 ?_
    refine wz_aload_n C rfl rfl dX12_allEdges_5 ?_
    refine wz_getR C (j := 2) f_X12_allEdges_26 rfl dX12_allEdges_6 ?_
    refine wz_iconst C dX12_allEdges_9 ?_
    refine wz_iaload C 1 (n := 350) rfl rfl (by decide) (by decide) rfl dX12_allEdges_10 ?_
    obtain ⟨g1, h⟩ := h
    obtain ⟨g2, h⟩ := h
    refine wz_icmp_ge C (tgt := 33) g1 g2 dX12_allEdges_11 (by decide) (fun c => ?_) (fun c => ?_)
    · replace h := h.1 c
      refine wz_iload_n C rfl rfl dX12_allEdges_33 ?_
      exact wz_iret C dX12_allEdges_34 ⟨_, rfl, h⟩
    · replace h := h.2 c
      refine wz_iload_n C rfl rfl dX12_allEdges_14 ?_
      refine wz_aload_n C rfl rfl dX12_allEdges_15 ?_
      refine wz_getR C (j := 2) f_X12_allEdges_26 rfl dX12_allEdges_16 ?_
      refine wz_sipush C (by decide) dX12_allEdges_19 ?_
      refine wz_iload_n C rfl rfl dX12_allEdges_22 ?_
      refine wz_iadd C dX12_allEdges_23 ?_
      obtain ⟨g3, h⟩ := h
      refine wz_iaload C ((190 + l2).toNat) (n := 350) rfl (zN g3) (zL g3) (by decide) rfl dX12_allEdges_24 ?_
      refine wz_iadd C dX12_allEdges_25 ?_
      refine wz_istore_1 C rfl dX12_allEdges_26 ?_
      refine wz_iinc_2 C rfl dX12_allEdges_27 ?_
      refine wz_goto C dX12_allEdges_30 (tgt := 4) (by decide) ?_
      exact w4 (l1 + (I 2 ((190 + l2).toNat))) (l2 + 1) I J h
set_option maxHeartbeats 4000000 in
set_option maxRecDepth 100000 in
theorem k_X12_allEdges (G : KG) (hG : Kok G) (I : Ii) (J : Jj) (Q : Int → Ii → Jj → Prop) (h : wp_X12_allEdges I J Q) : Ctr G yX12_allEdges wsX12_allEdges rm_X12_allEdges [.ref (kadr G 0)] (I, J) (QsI Q) := by
  unfold wp_X12_allEdges at h
  skip
  refine Ctr.ofZ (cc := cX12_allEdges) (nL := 3) (ret := (some .int)) [some (.ref (kadr G 0)), none, none] hG (by decide +kernel) rfl (Nat.le_of_ble_eq_true rfl) (Nat.le_of_ble_eq_true rfl) (by simp [lvA, lv_args, Value.category]) ?_
  intro X hX C
  refine wz_iconst C dX12_allEdges_0 ?_
  refine wz_istore_1 C rfl dX12_allEdges_1 ?_
  refine wz_iconst C dX12_allEdges_2 ?_
  refine wz_istore_2 C rfl dX12_allEdges_3 ?_
  obtain ⟨n, h⟩ := h
  exact lk_X12_allEdges_4 G hG X hX C Q n 0 0 I J h
theorem in_X12_limit_X12 : ∀ w ∈ wsX120, w ∈ wsX12_limit := by decide +kernel
theorem f_X12_limit_26 : FLk wsX12_limit RX12 26 12 15 := flk 12 15 rfl tyX12_ok nmX12 in_X12_limit_X12 (by decide) (by decide +kernel)
def rm_X12_limit : Room := { frames := 1, cells := 0, slots := 0, locals := 22 }
set_option maxHeartbeats 4000000 in
set_option maxRecDepth 100000 in
theorem k_X12_limit (G : KG) (hG : Kok G) (I : Ii) (J : Jj) (Q : Int → Ii → Jj → Prop) (h : wp_X12_limit I J Q) : Ctr G yX12_limit wsX12_limit rm_X12_limit [.ref (kadr G 0)] (I, J) (QsI Q) := by
  unfold wp_X12_limit at h
  skip
  refine Ctr.ofZ (cc := cX12_limit) (nL := 1) (ret := (some .int)) [some (.ref (kadr G 0))] hG (by decide +kernel) rfl (Nat.le_of_ble_eq_true rfl) (Nat.le_of_ble_eq_true rfl) (by simp [lvA, lv_args, Value.category]) ?_
  intro X hX C
  refine wz_aload_n C rfl rfl dX12_limit_0 ?_
  refine wm_callV C (o := 0) (As := []) (st := []) (a' := 0) (b' := 0) rfl rfl (k_X12_allWeight G hG I J _ h) 0 gX12_limit_X12_allWeight rfl (by decide +kernel) (by rw [hX]; exact ⟨Nat.le_of_ble_eq_true rfl, Nat.le_of_ble_eq_true rfl⟩) rfl (Nat.le_of_ble_eq_true rfl) rfl rfl rfl dX12_limit_1 (kk_sI (fun v1 I1 J1 h => ?_))
  refine wz_aload_n C rfl rfl dX12_limit_4 ?_
  refine wz_getR C (j := 2) f_X12_limit_26 rfl dX12_limit_5 ?_
  refine wz_iconst C dX12_limit_8 ?_
  refine wz_iaload C 2 (n := 350) rfl rfl (by decide) (by decide) rfl dX12_limit_9 ?_
  refine wz_iadd C dX12_limit_10 ?_
  refine wz_iconst C dX12_limit_11 ?_
  refine wz_isub C dX12_limit_12 ?_
  refine wz_aload_n C rfl rfl dX12_limit_13 ?_
  refine wz_getR C (j := 2) f_X12_limit_26 rfl dX12_limit_14 ?_
  refine wz_iconst C dX12_limit_17 ?_
  refine wz_iaload C 2 (n := 350) rfl rfl (by decide) (by decide) rfl dX12_limit_18 ?_
  obtain ⟨g2, h⟩ := h
  refine wd_idiv C g2 dX12_limit_19 ?_
  refine wz_aload_n C rfl rfl dX12_limit_20 ?_
  refine wz_getR C (j := 2) f_X12_limit_26 rfl dX12_limit_21 ?_
  refine wz_iconst C dX12_limit_24 ?_
  refine wz_iaload C 3 (n := 350) rfl rfl (by decide) (by decide) rfl dX12_limit_25 ?_
  refine wz_iadd C dX12_limit_26 ?_
  exact wz_iret C dX12_limit_27 ⟨_, rfl, h⟩
theorem in_X12_together_X12 : ∀ w ∈ wsX120, w ∈ wsX12_together := by decide +kernel
theorem f_X12_together_26 : FLk wsX12_together RX12 26 12 15 := flk 12 15 rfl tyX12_ok nmX12 in_X12_together_X12 (by decide) (by decide +kernel)
def rm_X12_together : Room := { frames := 1, cells := 0, slots := 0, locals := 21 }
set_option maxHeartbeats 4000000 in
set_option maxRecDepth 100000 in
theorem bk_X12_together_94 (G : KG) (hG : Kok G) (X : KX) (hX : KR X = rm_X12_together) (C : Fr G X cX12_together 8 yX12_together.cls (some .int) wsX12_together) (l1 : Int) (l2 : Int) (Q : Int → Ii → Jj → Prop) (r7 : Int → Int → Ii → Jj → Prop) (w7 : ∀ (l3 : Int) (l4 : Int) (I : Ii) (J : Jj), r7 l3 l4 I J → Wz G X 8 (QsU G X (QsI Q)) 0 0 7 [some (.ref (kadr G 0)), none, some (.int (iZ l2)), some (.int (iZ l3)), some (.int (iZ l4)), none, none, none] [] I J) (r21 : Int → Int → Int → Ii → Jj → Prop) (w21 : ∀ (l3 : Int) (l4 : Int) (l5 : Int) (I : Ii) (J : Jj), r21 l3 l4 l5 I J → Wz G X 8 (QsU G X (QsI Q)) 0 0 21 [some (.ref (kadr G 0)), none, some (.int (iZ l2)), some (.int (iZ l3)), some (.int (iZ l4)), some (.int (iZ l5)), none, none] [] I J) (l3 : Int) (l4 : Int) (l5 : Int) (l6 : Int) (l7 : Int) (I : Ii) (J : Jj) (h : B_X12_together_94 l1 l2 Q r7 r21 l3 l4 l5 l6 l7 I J) : Wz G X 8 (QsU G X (QsI Q)) 0 0 94 [some (.ref (kadr G 0)), none, some (.int (iZ l2)), some (.int (iZ l3)), some (.int (iZ l4)), some (.int (iZ l5)), some (.int (iZ l6)), some (.int (iZ l7))] [] I J := by
  unfold B_X12_together_94 at h
  refine wz_iload_n C rfl rfl dX12_together_94 ?_
  refine wz_iload C rfl dX12_together_95 ?_
  refine wm_callS C (As := [.int (iZ l3), .int (iZ l7)]) (st := []) (a' := 0) (b' := 0) (k_X12_hasBit G hG l3 l7 I J _ h) 2 gX12_together_X12_hasBit rfl (by decide +kernel) (by rw [hX]; exact ⟨Nat.le_of_ble_eq_true rfl, Nat.le_of_ble_eq_true rfl⟩) rfl (Nat.le_of_ble_eq_true rfl) rfl rfl rfl dX12_together_97 (kk_sB (fun v10 I10 J10 hb10 h => ?_))
  refine wz_if_eq C (tgt := 110) (rgB hb10) dX12_together_100 (by decide) (fun c => ?_) (fun c => ?_)
  · replace h := h.1 c
    refine wz_iinc_5 C rfl dX12_together_110 ?_
    refine wz_goto C dX12_together_113 (tgt := 21) (by decide) ?_
    exact Wz.drop (w21 l3 l4 (l5 + 1) I10 J10 h) (And.intro rfl (And.intro rfl (And.intro rfl (And.intro rfl (And.intro rfl trivial)))))
  · replace h := h.2 c
    refine wz_iload_n C rfl rfl dX12_together_103 ?_
    refine wz_iconst C dX12_together_104 ?_
    refine wz_iload C rfl dX12_together_105 ?_
    refine wd_ishl C dX12_together_107 ?_
    refine wd_ior C dX12_together_108 ?_
    refine wz_istore_3 C rfl dX12_together_109 ?_
    refine wz_iinc_5 C rfl dX12_together_110 ?_
    refine wz_goto C dX12_together_113 (tgt := 21) (by decide) ?_
    exact Wz.drop (w21 (orZ l3 (shlZ 1 l6)) l4 (l5 + 1) I10 J10 h) (And.intro rfl (And.intro rfl (And.intro rfl (And.intro rfl (And.intro rfl trivial)))))
set_option maxHeartbeats 4000000 in
set_option maxRecDepth 100000 in
theorem lk_X12_together_21 (G : KG) (hG : Kok G) (X : KX) (hX : KR X = rm_X12_together) (C : Fr G X cX12_together 8 yX12_together.cls (some .int) wsX12_together) (l1 : Int) (l2 : Int) (Q : Int → Ii → Jj → Prop) (r7 : Int → Int → Ii → Jj → Prop) (w7 : ∀ (l3 : Int) (l4 : Int) (I : Ii) (J : Jj), r7 l3 l4 I J → Wz G X 8 (QsU G X (QsI Q)) 0 0 7 [some (.ref (kadr G 0)), none, some (.int (iZ l2)), some (.int (iZ l3)), some (.int (iZ l4)), none, none, none] [] I J) : ∀ (n : Nat) (l3 : Int) (l4 : Int) (l5 : Int) (I : Ii) (J : Jj), L_X12_together_21 l1 l2 Q r7 n l3 l4 l5 I J → Wz G X 8 (QsU G X (QsI Q)) 0 0 21 [some (.ref (kadr G 0)), none, some (.int (iZ l2)), some (.int (iZ l3)), some (.int (iZ l4)), some (.int (iZ l5)), none, none] [] I J := by
  intro n
  induction n with
  | zero => intro l3 l4 l5 I J h; exact False.elim h
  | succ n w21 =>
    intro l3 l4 l5 I J h
    have h : Lb_X12_together_21 l1 l2 Q r7 (L_X12_together_21 l1 l2 Q r7 n) l3 l4 l5 I J := h
    unfold Lb_X12_together_21 at h
    generalize L_X12_together_21 l1 l2 Q r7 n = r21 at h w21
    refine wz_iload C rfl dX12_together_21 ?_
    refine wz_aload_n C rfl rfl dX12_together_23 ?_
    refine wz_getR C (j := 2) f_X12_together_26 rfl dX12_together_24 ?_
    refine wz_iconst C dX12_together_27 ?_
    refine wz_iaload C 1 (n := 350) rfl rfl (by decide) (by decide) rfl dX12_together_28 ?_
    obtain ⟨g3, h⟩ := h
    obtain ⟨g4, h⟩ := h
    refine wz_icmp_ge C (tgt := 116) g3 g4 dX12_together_29 (by decide) (fun c => ?_) (fun c => ?_)
    · replace h := h.1 c
      refine wz_iinc_4 C rfl dX12_together_116 ?_
      refine wz_goto C dX12_together_119 (tgt := 7) (by decide) ?_
      exact Wz.drop (w7 l3 (l4 + 1) I J h) (And.intro rfl (And.intro rfl (And.intro rfl (And.intro rfl trivial))))
    · replace h := h.2 c
      refine wz_aload_n C rfl rfl dX12_together_32 ?_
      refine wz_getR C (j := 2) f_X12_together_26 rfl dX12_together_33 ?_
      refine wz_bipush C (by decide) dX12_together_36 ?_
      refine wz_iload C rfl dX12_together_38 ?_
      refine wz_iadd C dX12_together_40 ?_
      obtain ⟨g5, h⟩ := h
      refine wz_iaload C ((110 + l5).toNat) (n := 350) rfl (zN g5) (zL g5) (by decide) rfl dX12_together_41 ?_
      refine wz_istore_6 C rfl dX12_together_42 ?_
      refine wz_aload_n C rfl rfl dX12_together_44 ?_
      refine wz_getR C (j := 2) f_X12_together_26 rfl dX12_together_45 ?_
      refine wz_sipush C (by decide) dX12_together_48 ?_
      refine wz_iload C rfl dX12_together_51 ?_
      refine wz_iadd C dX12_together_53 ?_
      obtain ⟨g6, h⟩ := h
      refine wz_iaload C ((150 + l5).toNat) (n := 350) rfl (zN g6) (zL g6) (by decide) rfl dX12_together_54 ?_
      refine wz_istore_7 C rfl dX12_together_55 ?_
      refine wz_iload_n C rfl rfl dX12_together_57 ?_
      refine wz_iload C rfl dX12_together_58 ?_
      refine wm_callS C (As := [.int (iZ l2), .int (iZ (I 2 ((110 + l5).toNat)))]) (st := []) (a' := 0) (b' := 0) (k_X12_hasBit G hG l2 (I 2 ((110 + l5).toNat)) I J _ h) 2 gX12_together_X12_hasBit rfl (by decide +kernel) (by rw [hX]; exact ⟨Nat.le_of_ble_eq_true rfl, Nat.le_of_ble_eq_true rfl⟩) rfl (Nat.le_of_ble_eq_true rfl) rfl rfl rfl dX12_together_60 (kk_sB (fun v7 I7 J7 hb7 h => ?_))
      refine wz_if_eq C (tgt := 110) (rgB hb7) dX12_together_63 (by decide) (fun c => ?_) (fun c => ?_)
      · replace h := h.1 c
        refine wz_iinc_5 C rfl dX12_together_110 ?_
        refine wz_goto C dX12_together_113 (tgt := 21) (by decide) ?_
        exact Wz.drop (w21 l3 l4 (l5 + 1) I7 J7 h) (And.intro rfl (And.intro rfl (And.intro rfl (And.intro rfl (And.intro rfl trivial)))))
      · replace h := h.2 c
        refine wz_iload_n C rfl rfl dX12_together_66 ?_
        refine wz_iload C rfl dX12_together_67 ?_
        refine wm_callS C (As := [.int (iZ l2), .int (iZ (I 2 ((150 + l5).toNat)))]) (st := []) (a' := 0) (b' := 0) (k_X12_hasBit G hG l2 (I 2 ((150 + l5).toNat)) I7 J7 _ h) 2 gX12_together_X12_hasBit rfl (by decide +kernel) (by rw [hX]; exact ⟨Nat.le_of_ble_eq_true rfl, Nat.le_of_ble_eq_true rfl⟩) rfl (Nat.le_of_ble_eq_true rfl) rfl rfl rfl dX12_together_69 (kk_sB (fun v8 I8 J8 hb8 h => ?_))
        refine wz_if_ne C (tgt := 78) (rgB hb8) dX12_together_72 (by decide) (fun c => ?_) (fun c => ?_)
        · replace h := h.1 c
          refine wz_iload_n C rfl rfl dX12_together_78 ?_
          refine wz_iload C rfl dX12_together_79 ?_
          refine wm_callS C (As := [.int (iZ l3), .int (iZ (I 2 ((110 + l5).toNat)))]) (st := []) (a' := 0) (b' := 0) (k_X12_hasBit G hG l3 (I 2 ((110 + l5).toNat)) I8 J8 _ h) 2 gX12_together_X12_hasBit rfl (by decide +kernel) (by rw [hX]; exact ⟨Nat.le_of_ble_eq_true rfl, Nat.le_of_ble_eq_true rfl⟩) rfl (Nat.le_of_ble_eq_true rfl) rfl rfl rfl dX12_together_81 (kk_sB (fun v9 I9 J9 hb9 h => ?_))
          refine wz_if_eq C (tgt := 94) (rgB hb9) dX12_together_84 (by decide) (fun c => ?_) (fun c => ?_)
          · replace h := h.1 c
            exact bk_X12_together_94 G hG X hX C l1 l2 Q r7 w7 r21 w21 l3 l4 l5 (I 2 ((110 + l5).toNat)) (I 2 ((150 + l5).toNat)) I9 J9 h
          · replace h := h.2 c
            refine wz_iload_n C rfl rfl dX12_together_87 ?_
            refine wz_iconst C dX12_together_88 ?_
            refine wz_iload C rfl dX12_together_89 ?_
            refine wd_ishl C dX12_together_91 ?_
            refine wd_ior C dX12_together_92 ?_
            refine wz_istore_3 C rfl dX12_together_93 ?_
            exact bk_X12_together_94 G hG X hX C l1 l2 Q r7 w7 r21 w21 (orZ l3 (shlZ 1 (I 2 ((150 + l5).toNat)))) l4 l5 (I 2 ((110 + l5).toNat)) (I 2 ((150 + l5).toNat)) I9 J9 h
        · replace h := h.2 c
          refine wz_goto C dX12_together_75 (tgt := 110) (by decide) ?_
          refine wz_iinc_5 C rfl dX12_together_110 ?_
          refine wz_goto C dX12_together_113 (tgt := 21) (by decide) ?_
          exact Wz.drop (w21 l3 l4 (l5 + 1) I8 J8 h) (And.intro rfl (And.intro rfl (And.intro rfl (And.intro rfl (And.intro rfl trivial)))))
set_option maxHeartbeats 4000000 in
set_option maxRecDepth 100000 in
theorem lk_X12_together_7 (G : KG) (hG : Kok G) (X : KX) (hX : KR X = rm_X12_together) (C : Fr G X cX12_together 8 yX12_together.cls (some .int) wsX12_together) (l1 : Int) (l2 : Int) (Q : Int → Ii → Jj → Prop) : ∀ (n : Nat) (l3 : Int) (l4 : Int) (I : Ii) (J : Jj), L_X12_together_7 l1 l2 Q n l3 l4 I J → Wz G X 8 (QsU G X (QsI Q)) 0 0 7 [some (.ref (kadr G 0)), none, some (.int (iZ l2)), some (.int (iZ l3)), some (.int (iZ l4)), none, none, none] [] I J := by
  intro n
  induction n with
  | zero => intro l3 l4 I J h; exact False.elim h
  | succ n w7 =>
    intro l3 l4 I J h
    have h : Lb_X12_together_7 l1 l2 Q (L_X12_together_7 l1 l2 Q n) l3 l4 I J := h
    unfold Lb_X12_together_7 at h
    generalize L_X12_together_7 l1 l2 Q n = r7 at h w7
    refine wz_iload C rfl dX12_together_7 ?_
    refine wz_aload_n C rfl rfl dX12_together_9 ?_
    refine wz_getR C (j := 2) f_X12_together_26 rfl dX12_together_10 ?_
    refine wz_iconst C dX12_together_13 ?_
    refine wz_iaload C 0 (n := 350) rfl rfl (by decide) (by decide) rfl dX12_together_14 ?_
    obtain ⟨g1, h⟩ := h
    obtain ⟨g2, h⟩ := h
    refine wz_icmp_ge C (tgt := 122) g1 g2 dX12_together_15 (by decide) (fun c => ?_) (fun c => ?_)
    · replace h := h.1 c
      refine wz_iload_n C rfl rfl dX12_together_122 ?_
      exact wz_iret C dX12_together_123 ⟨_, rfl, h⟩
    · replace h := h.2 c
      refine wz_iconst C dX12_together_18 ?_
      refine wz_istore_5 C rfl dX12_together_19 ?_
      obtain ⟨n, h⟩ := h
      exact lk_X12_together_21 G hG X hX C l1 l2 Q r7 w7 n l3 l4 0 I J h
set_option maxHeartbeats 4000000 in
set_option maxRecDepth 100000 in
theorem k_X12_together (G : KG) (hG : Kok G) (l1 : Int) (l2 : Int) (I : Ii) (J : Jj) (Q : Int → Ii → Jj → Prop) (h : wp_X12_together l1 l2 I J Q) : Ctr G yX12_together wsX12_together rm_X12_together [.ref (kadr G 0), .int (iZ l1), .int (iZ l2)] (I, J) (QsI Q) := by
  unfold wp_X12_together at h
  skip
  refine Ctr.ofZ (cc := cX12_together) (nL := 8) (ret := (some .int)) [some (.ref (kadr G 0)), some (.int (iZ l1)), some (.int (iZ l2)), none, none, none, none, none] hG (by decide +kernel) rfl (Nat.le_of_ble_eq_true rfl) (Nat.le_of_ble_eq_true rfl) (by simp [lvA, lv_args, Value.category]) ?_
  intro X hX C
  refine wz_iconst C dX12_together_0 ?_
  refine wz_iload_n C rfl rfl dX12_together_1 ?_
  refine wd_ishl C dX12_together_2 ?_
  refine wz_istore_3 C rfl dX12_together_3 ?_
  refine wz_iconst C dX12_together_4 ?_
  refine wz_istore_4 C rfl dX12_together_5 ?_
  obtain ⟨n, h⟩ := h
  exact Wz.drop (lk_X12_together_7 G hG X hX C l1 l2 Q n (shlZ 1 l1) 0 I J h) (And.intro rfl (And.intro rfl (And.intro rfl (And.intro rfl trivial))))
def rm_X12_ones : Room := { frames := 0, cells := 0, slots := 0, locals := 0 }
set_option maxHeartbeats 4000000 in
set_option maxRecDepth 100000 in
theorem lk_X12_ones_4 (G : KG) (hG : Kok G) (X : KX) (hX : KR X = rm_X12_ones) (C : Fr G X cX12_ones 3 yX12_ones.cls (some .int) wsX12_ones) (l0 : Int) (Q : Int → Ii → Jj → Prop) : ∀ (n : Nat) (l1 : Int) (l2 : Int) (I : Ii) (J : Jj), L_X12_ones_4 l0 Q n l1 l2 I J → Wz G X 3 (QsU G X (QsI Q)) 0 0 4 [some (.int (iZ l0)), some (.int (iZ l1)), some (.int (iZ l2))] [] I J := by
  intro n
  induction n with
  | zero => intro l1 l2 I J h; exact False.elim h
  | succ n w4 =>
    intro l1 l2 I J h
    have h : Lb_X12_ones_4 l0 Q (L_X12_ones_4 l0 Q n) l1 l2 I J := h
    unfold Lb_X12_ones_4 at h
    generalize L_X12_ones_4 l0 Q n = r4 at h w4
    refine wz_iload_n C rfl rfl dX12_ones_4 ?_
    refine wz_bipush C (by decide) dX12_ones_5 ?_
    obtain ⟨g1, h⟩ := h
    refine wz_icmp_ge C (tgt := 24) g1 (by decide) dX12_ones_7 (by decide) (fun c => ?_) (fun c => ?_)
    · replace h := h.1 c
      refine wz_iload_n C rfl rfl dX12_ones_24 ?_
      exact wz_iret C dX12_ones_25 ⟨_, rfl, h⟩
    · replace h := h.2 c
      refine wz_iload_n C rfl rfl dX12_ones_10 ?_
      refine wz_iload_n C rfl rfl dX12_ones_11 ?_
      refine wz_iload_n C rfl rfl dX12_ones_12 ?_
      refine wd_ishr C dX12_ones_13 ?_
      refine wz_iconst C dX12_ones_14 ?_
      refine wd_iand C dX12_ones_15 ?_
      refine wz_iadd C dX12_ones_16 ?_
      refine wz_istore_1 C rfl dX12_ones_17 ?_
      refine wz_iinc_2 C rfl dX12_ones_18 ?_
      refine wz_goto C dX12_ones_21 (tgt := 4) (by decide) ?_
      exact w4 (l1 + (andZ (shrZ l0 l2) 1)) (l2 + 1) I J h
set_option maxHeartbeats 4000000 in
set_option maxRecDepth 100000 in
theorem k_X12_ones (G : KG) (hG : Kok G) (l0 : Int) (I : Ii) (J : Jj) (Q : Int → Ii → Jj → Prop) (h : wp_X12_ones l0 I J Q) : Ctr G yX12_ones wsX12_ones rm_X12_ones [.int (iZ l0)] (I, J) (QsI Q) := by
  unfold wp_X12_ones at h
  skip
  refine Ctr.ofZ (cc := cX12_ones) (nL := 3) (ret := (some .int)) [some (.int (iZ l0)), none, none] hG (by decide +kernel) rfl (Nat.le_of_ble_eq_true rfl) (Nat.le_of_ble_eq_true rfl) (by simp [lvA, lv_args, Value.category]) ?_
  intro X hX C
  refine wz_iconst C dX12_ones_0 ?_
  refine wz_istore_1 C rfl dX12_ones_1 ?_
  refine wz_iconst C dX12_ones_2 ?_
  refine wz_istore_2 C rfl dX12_ones_3 ?_
  obtain ⟨n, h⟩ := h
  exact lk_X12_ones_4 G hG X hX C l0 Q n 0 0 I J h
theorem in_X12_everything_X12 : ∀ w ∈ wsX120, w ∈ wsX12_everything := by decide +kernel
theorem f_X12_everything_26 : FLk wsX12_everything RX12 26 12 15 := flk 12 15 rfl tyX12_ok nmX12 in_X12_everything_X12 (by decide) (by decide +kernel)
def rm_X12_everything : Room := { frames := 0, cells := 0, slots := 0, locals := 0 }
set_option maxHeartbeats 4000000 in
set_option maxRecDepth 100000 in
theorem k_X12_everything (G : KG) (hG : Kok G) (I : Ii) (J : Jj) (Q : Int → Ii → Jj → Prop) (h : wp_X12_everything I J Q) : Ctr G yX12_everything wsX12_everything rm_X12_everything [.ref (kadr G 0)] (I, J) (QsI Q) := by
  unfold wp_X12_everything at h
  skip
  refine Ctr.ofZ (cc := cX12_everything) (nL := 1) (ret := (some .int)) [some (.ref (kadr G 0))] hG (by decide +kernel) rfl (Nat.le_of_ble_eq_true rfl) (Nat.le_of_ble_eq_true rfl) (by simp [lvA, lv_args, Value.category]) ?_
  intro X hX C
  refine wz_iconst C dX12_everything_0 ?_
  refine wz_aload_n C rfl rfl dX12_everything_1 ?_
  refine wz_getR C (j := 2) f_X12_everything_26 rfl dX12_everything_2 ?_
  refine wz_iconst C dX12_everything_5 ?_
  refine wz_iaload C 0 (n := 350) rfl rfl (by decide) (by decide) rfl dX12_everything_6 ?_
  refine wd_ishl C dX12_everything_7 ?_
  refine wz_iconst C dX12_everything_8 ?_
  refine wz_isub C dX12_everything_9 ?_
  exact wz_iret C dX12_everything_10 ⟨_, rfl, h⟩
theorem in_X12_largest_X12 : ∀ w ∈ wsX120, w ∈ wsX12_largest := by decide +kernel
theorem f_X12_largest_26 : FLk wsX12_largest RX12 26 12 15 := flk 12 15 rfl tyX12_ok nmX12 in_X12_largest_X12 (by decide) (by decide +kernel)
def rm_X12_largest : Room := { frames := 2, cells := 0, slots := 0, locals := 48 }
set_option maxHeartbeats 4000000 in
set_option maxRecDepth 100000 in
theorem lk_X12_largest_4 (G : KG) (hG : Kok G) (X : KX) (hX : KR X = rm_X12_largest) (C : Fr G X cX12_largest 4 yX12_largest.cls (some .int) wsX12_largest) (Q : Int → Ii → Jj → Prop) : ∀ (n : Nat) (l1 : Int) (l2 : Int) (I : Ii) (J : Jj), L_X12_largest_4 Q n l1 l2 I J → Wz G X 4 (QsU G X (QsI Q)) 0 0 4 [some (.ref (kadr G 0)), some (.int (iZ l1)), some (.int (iZ l2)), none] [] I J := by
  intro n
  induction n with
  | zero => intro l1 l2 I J h; exact False.elim h
  | succ n w4 =>
    intro l1 l2 I J h
    have h : Lb_X12_largest_4 Q (L_X12_largest_4 Q n) l1 l2 I J := h
    unfold Lb_X12_largest_4 at h
    generalize L_X12_largest_4 Q n = r4 at h w4
    refine wz_iload_n C rfl rfl dX12_largest_4 ?_
    refine wz_aload_n C rfl rfl dX12_largest_5 ?_
    refine wz_getR C (j := 2) f_X12_largest_26 rfl dX12_largest_6 ?_
    refine wz_iconst C dX12_largest_9 ?_
    refine wz_iaload C 0 (n := 350) rfl rfl (by decide) (by decide) rfl dX12_largest_10 ?_
    obtain ⟨g1, h⟩ := h
    obtain ⟨g2, h⟩ := h
    refine wz_icmp_ge C (tgt := 44) g1 g2 dX12_largest_11 (by decide) (fun c => ?_) (fun c => ?_)
    · replace h := h.1 c
      refine wz_iload_n C rfl rfl dX12_largest_44 ?_
      exact wz_iret C dX12_largest_45 ⟨_, rfl, h⟩
    · replace h := h.2 c
      refine wz_aload_n C rfl rfl dX12_largest_14 ?_
      refine wz_iload_n C rfl rfl dX12_largest_15 ?_
      refine wz_aload_n C rfl rfl dX12_largest_16 ?_
      refine wm_callV C (o := 0) (As := []) (st := [.int (iZ l2), .ref (kadr G 0)]) (a' := 0) (b' := 0) rfl rfl (k_X12_everything G hG I J _ h) 0 gX12_largest_X12_everything rfl (by decide +kernel) (by rw [hX]; exact ⟨Nat.le_of_ble_eq_true rfl, Nat.le_of_ble_eq_true rfl⟩) rfl (Nat.le_of_ble_eq_true rfl) rfl rfl rfl dX12_largest_17 (kk_sI (fun v3 I3 J3 h => ?_))
      refine wm_callV C (o := 0) (As := [.int (iZ l2), .int (iZ v3)]) (st := []) (a' := 0) (b' := 0) rfl rfl (k_X12_together G hG l2 v3 I3 J3 _ h) 2 gX12_largest_X12_together rfl (by decide +kernel) (by rw [hX]; exact ⟨Nat.le_of_ble_eq_true rfl, Nat.le_of_ble_eq_true rfl⟩) rfl (Nat.le_of_ble_eq_true rfl) rfl rfl rfl dX12_largest_20 (kk_sI (fun v4 I4 J4 h => ?_))
      refine wm_callS C (As := [.int (iZ v4)]) (st := []) (a' := 0) (b' := 0) (k_X12_ones G hG v4 I4 J4 _ h) 1 gX12_largest_X12_ones rfl (by decide +kernel) (by rw [hX]; exact ⟨Nat.le_of_ble_eq_true rfl, Nat.le_of_ble_eq_true rfl⟩) rfl (Nat.le_of_ble_eq_true rfl) rfl rfl rfl dX12_largest_23 (kk_sI (fun v5 I5 J5 h => ?_))
      refine wz_istore_3 C rfl dX12_largest_26 ?_
      refine wz_iload_n C rfl rfl dX12_largest_27 ?_
      refine wz_iload_n C rfl rfl dX12_largest_28 ?_
      obtain ⟨g6, h⟩ := h
      obtain ⟨g7, h⟩ := h
      refine wz_icmp_le C (tgt := 36) g6 g7 dX12_largest_29 (by decide) (fun c => ?_) (fun c => ?_)
      · replace h := h.1 c
        refine wz_iload_n C rfl rfl dX12_largest_36 ?_
        refine wz_istore_1 C rfl dX12_largest_37 ?_
        refine wz_iinc_2 C rfl dX12_largest_38 ?_
        refine wz_goto C dX12_largest_41 (tgt := 4) (by decide) ?_
        exact Wz.drop (w4 l1 (l2 + 1) I5 J5 h) (And.intro rfl (And.intro rfl (And.intro rfl trivial)))
      · replace h := h.2 c
        refine wz_iload_n C rfl rfl dX12_largest_32 ?_
        refine wz_goto C dX12_largest_33 (tgt := 37) (by decide) ?_
        refine wz_istore_1 C rfl dX12_largest_37 ?_
        refine wz_iinc_2 C rfl dX12_largest_38 ?_
        refine wz_goto C dX12_largest_41 (tgt := 4) (by decide) ?_
        exact Wz.drop (w4 v5 (l2 + 1) I5 J5 h) (And.intro rfl (And.intro rfl (And.intro rfl trivial)))
set_option maxHeartbeats 4000000 in
set_option maxRecDepth 100000 in
theorem k_X12_largest (G : KG) (hG : Kok G) (I : Ii) (J : Jj) (Q : Int → Ii → Jj → Prop) (h : wp_X12_largest I J Q) : Ctr G yX12_largest wsX12_largest rm_X12_largest [.ref (kadr G 0)] (I, J) (QsI Q) := by
  unfold wp_X12_largest at h
  skip
  refine Ctr.ofZ (cc := cX12_largest) (nL := 4) (ret := (some .int)) [some (.ref (kadr G 0)), none, none, none] hG (by decide +kernel) rfl (Nat.le_of_ble_eq_true rfl) (Nat.le_of_ble_eq_true rfl) (by simp [lvA, lv_args, Value.category]) ?_
  intro X hX C
  refine wz_iconst C dX12_largest_0 ?_
  refine wz_istore_1 C rfl dX12_largest_1 ?_
  refine wz_iconst C dX12_largest_2 ?_
  refine wz_istore_2 C rfl dX12_largest_3 ?_
  obtain ⟨n, h⟩ := h
  exact lk_X12_largest_4 G hG X hX C Q n 0 0 I J h
theorem in_X12_setting_X12 : ∀ w ∈ wsX120, w ∈ wsX12_setting := by decide +kernel
theorem f_X12_setting_26 : FLk wsX12_setting RX12 26 12 15 := flk 12 15 rfl tyX12_ok nmX12 in_X12_setting_X12 (by decide) (by decide +kernel)
theorem f_X12_setting_166 : FLk wsX12_setting RX12 166 12 23 := flk 12 23 rfl tyX12_ok nmX12 in_X12_setting_X12 (by decide) (by decide +kernel)
def rm_X12_setting : Room := { frames := 3, cells := 0, slots := 0, locals := 71 }
set_option maxHeartbeats 4000000 in
set_option maxRecDepth 100000 in
theorem k_X12_setting (G : KG) (hG : Kok G) (l1 : Int) (I : Ii) (J : Jj) (Q : Int → Ii → Jj → Prop) (h : wp_X12_setting l1 I J Q) : Ctr G yX12_setting wsX12_setting rm_X12_setting [.ref (kadr G 0), .int (iZ l1)] (I, J) (QsI Q) := by
  unfold wp_X12_setting at h
  skip
  refine Ctr.ofZ (cc := cX12_setting) (nL := 2) (ret := (some .int)) [some (.ref (kadr G 0)), some (.int (iZ l1))] hG (by decide +kernel) rfl (Nat.le_of_ble_eq_true rfl) (Nat.le_of_ble_eq_true rfl) (by simp [lvA, lv_args, Value.category]) ?_
  intro X hX C
  refine wz_aload_n C rfl rfl dX12_setting_0 ?_
  refine wz_iload_n C rfl rfl dX12_setting_1 ?_
  refine wd_i2l C dX12_setting_2 ?_
  refine wz_lconst C (v := lZ 0) (by decide) dX12_setting_3 ?_
  refine wz_ldc2_w C (v := lZ 11) (by decide +kernel) dX12_setting_4 ?_
  refine wm_callS C (As := [.long (i2lZ l1), .long (lZ 0), .long (lZ 11)]) (st := [.ref (kadr G 0)]) (a' := 0) (b' := 0) (k_X12_isIn G hG (i2lZ l1) (lZ 0) (lZ 11) I J _ h) 3 gX12_setting_X12_isIn rfl (by decide +kernel) (by rw [hX]; exact ⟨Nat.le_of_ble_eq_true rfl, Nat.le_of_ble_eq_true rfl⟩) rfl (Nat.le_of_ble_eq_true rfl) rfl rfl rfl dX12_setting_7 (kk_sB (fun v1 I1 J1 hb1 h => ?_))
  refine wm_callV C (o := 0) (As := [.int (iZ v1)]) (st := []) (a' := 0) (b' := 0) rfl rfl (k_X12_goes G hG v1 I1 J1 _ h) 1 gX12_setting_X12_goes rfl (by decide +kernel) (by rw [hX]; exact ⟨Nat.le_of_ble_eq_true rfl, Nat.le_of_ble_eq_true rfl⟩) rfl (Nat.le_of_ble_eq_true rfl) rfl rfl rfl dX12_setting_10 (kk_sB (fun v2 I2 J2 hb2 h => ?_))
  refine wz_if_ne C (tgt := 18) (rgB hb2) dX12_setting_13 (by decide) (fun c => ?_) (fun c => ?_)
  · replace h := h.1 c
    refine wz_iload_n C rfl rfl dX12_setting_18 ?_
    obtain ⟨g3, h⟩ := h
    have c : (l1 < 5 ∨ 11 < l1) ∨ l1 = 5 ∨ l1 = 6 ∨ l1 = 7 ∨ l1 = 8 ∨ l1 = 9 ∨ l1 = 10 ∨ l1 = 11 := by omega
    rcases c with c | c | c | c | c | c | c | c
    · replace h := h.1 c
      refine wz_tableOut C (tgt := 97) g3 dX12_setting_19 c (by decide) ?_
      refine wz_aload_n C rfl rfl dX12_setting_97 ?_
      refine wz_getR C (j := 2) f_X12_setting_26 rfl dX12_setting_98 ?_
      refine wz_iload_n C rfl rfl dX12_setting_101 ?_
      obtain ⟨g4, h⟩ := h
      refine wz_iaload C l1.toNat (n := 350) rfl (zN g4) (zL g4) (by decide) rfl dX12_setting_102 ?_
      exact wz_iret C dX12_setting_103 ⟨_, rfl, h⟩
    · replace h := h.2.1 c
      refine wz_tableIn C (v := 5) (tgt := 60) c dX12_setting_19 (by decide) rfl (by decide) ?_
      refine wz_aload_n C rfl rfl dX12_setting_60 ?_
      refine wm_callV C (o := 0) (As := []) (st := []) (a' := 0) (b' := 0) rfl rfl (k_X12_limit G hG I2 J2 _ h) 0 gX12_setting_X12_limit rfl (by decide +kernel) (by rw [hX]; exact ⟨Nat.le_of_ble_eq_true rfl, Nat.le_of_ble_eq_true rfl⟩) rfl (Nat.le_of_ble_eq_true rfl) rfl rfl rfl dX12_setting_61 (kk_sI (fun v5 I5 J5 h => ?_))
      exact wz_iret C dX12_setting_64 ⟨_, rfl, h⟩
    · replace h := h.2.2.1 c
      refine wz_tableIn C (v := 6) (tgt := 65) c dX12_setting_19 (by decide) rfl (by decide) ?_
      refine wz_aload_n C rfl rfl dX12_setting_65 ?_
      refine wm_callV C (o := 0) (As := []) (st := []) (a' := 0) (b' := 0) rfl rfl (k_X12_allWeight G hG I2 J2 _ h) 0 gX12_setting_X12_allWeight rfl (by decide +kernel) (by rw [hX]; exact ⟨Nat.le_of_ble_eq_true rfl, Nat.le_of_ble_eq_true rfl⟩) rfl (Nat.le_of_ble_eq_true rfl) rfl rfl rfl dX12_setting_66 (kk_sI (fun v6 I6 J6 h => ?_))
      exact wz_iret C dX12_setting_69 ⟨_, rfl, h⟩
    · replace h := h.2.2.2.1 c
      refine wz_tableIn C (v := 7) (tgt := 70) c dX12_setting_19 (by decide) rfl (by decide) ?_
      refine wz_aload_n C rfl rfl dX12_setting_70 ?_
      refine wm_callV C (o := 0) (As := []) (st := []) (a' := 0) (b' := 0) rfl rfl (k_X12_allEdges G hG I2 J2 _ h) 0 gX12_setting_X12_allEdges rfl (by decide +kernel) (by rw [hX]; exact ⟨Nat.le_of_ble_eq_true rfl, Nat.le_of_ble_eq_true rfl⟩) rfl (Nat.le_of_ble_eq_true rfl) rfl rfl rfl dX12_setting_71 (kk_sI (fun v7 I7 J7 h => ?_))
      exact wz_iret C dX12_setting_74 ⟨_, rfl, h⟩
    · replace h := h.2.2.2.2.1 c
      refine wz_tableIn C (v := 8) (tgt := 75) c dX12_setting_19 (by decide) rfl (by decide) ?_
      refine wz_aload_n C rfl rfl dX12_setting_75 ?_
      refine wz_getR C (j := 2) f_X12_setting_26 rfl dX12_setting_76 ?_
      refine wz_iconst C dX12_setting_79 ?_
      refine wz_iaload C 5 (n := 350) rfl rfl (by decide) (by decide) rfl dX12_setting_80 ?_
      exact wz_iret C dX12_setting_81 ⟨_, rfl, h⟩
    · replace h := h.2.2.2.2.2.1 c
      refine wz_tableIn C (v := 9) (tgt := 82) c dX12_setting_19 (by decide) rfl (by decide) ?_
      refine wz_aload_n C rfl rfl dX12_setting_82 ?_
      refine wm_callV C (o := 0) (As := []) (st := []) (a' := 0) (b' := 0) rfl rfl (k_X12_groups G hG I2 J2 _ h) 0 gX12_setting_X12_groups rfl (by decide +kernel) (by rw [hX]; exact ⟨Nat.le_of_ble_eq_true rfl, Nat.le_of_ble_eq_true rfl⟩) rfl (Nat.le_of_ble_eq_true rfl) rfl rfl rfl dX12_setting_83 (kk_sI (fun v8 I8 J8 h => ?_))
      exact wz_iret C dX12_setting_86 ⟨_, rfl, h⟩
    · replace h := h.2.2.2.2.2.2.1 c
      refine wz_tableIn C (v := 10) (tgt := 87) c dX12_setting_19 (by decide) rfl (by decide) ?_
      refine wz_aload_n C rfl rfl dX12_setting_87 ?_
      refine wz_getI C rfl f_X12_setting_166 rfl dX12_setting_88 ?_
      exact wz_iret C dX12_setting_91 ⟨_, rfl, h⟩
    · replace h := h.2.2.2.2.2.2.2 c
      refine wz_tableIn C (v := 11) (tgt := 92) c dX12_setting_19 (by decide) rfl (by decide) ?_
      refine wz_aload_n C rfl rfl dX12_setting_92 ?_
      refine wm_callV C (o := 0) (As := []) (st := []) (a' := 0) (b' := 0) rfl rfl (k_X12_largest G hG I2 J2 _ h) 0 gX12_setting_X12_largest rfl (by decide +kernel) (by rw [hX]; exact ⟨Nat.le_of_ble_eq_true rfl, Nat.le_of_ble_eq_true rfl⟩) rfl (Nat.le_of_ble_eq_true rfl) rfl rfl rfl dX12_setting_93 (kk_sI (fun v9 I9 J9 h => ?_))
      exact wz_iret C dX12_setting_96 ⟨_, rfl, h⟩
  · replace h := h.2 c
    refine wz_iconst C dX12_setting_16 ?_
    exact wz_iret C dX12_setting_17 ⟨_, rfl, h⟩
theorem in_X12_weight_X12 : ∀ w ∈ wsX120, w ∈ wsX12_weight := by decide +kernel
theorem f_X12_weight_26 : FLk wsX12_weight RX12 26 12 15 := flk 12 15 rfl tyX12_ok nmX12 in_X12_weight_X12 (by decide) (by decide +kernel)
def rm_X12_weight : Room := { frames := 2, cells := 0, slots := 0, locals := 46 }
set_option maxHeartbeats 4000000 in
set_option maxRecDepth 100000 in
theorem k_X12_weight (G : KG) (hG : Kok G) (l1 : Int) (I : Ii) (J : Jj) (Q : Int → Ii → Jj → Prop) (h : wp_X12_weight l1 I J Q) : Ctr G yX12_weight wsX12_weight rm_X12_weight [.ref (kadr G 0), .int (iZ l1)] (I, J) (QsI Q) := by
  unfold wp_X12_weight at h
  skip
  refine Ctr.ofZ (cc := cX12_weight) (nL := 2) (ret := (some .int)) [some (.ref (kadr G 0)), some (.int (iZ l1))] hG (by decide +kernel) rfl (Nat.le_of_ble_eq_true rfl) (Nat.le_of_ble_eq_true rfl) (by simp [lvA, lv_args, Value.category]) ?_
  intro X hX C
  refine wz_aload_n C rfl rfl dX12_weight_0 ?_
  refine wz_aload_n C rfl rfl dX12_weight_1 ?_
  refine wz_iload_n C rfl rfl dX12_weight_2 ?_
  refine wm_callV C (o := 0) (As := [.int (iZ l1)]) (st := [.ref (kadr G 0)]) (a' := 0) (b' := 0) rfl rfl (k_X12_isVertex G hG l1 I J _ h) 1 gX12_weight_X12_isVertex rfl (by decide +kernel) (by rw [hX]; exact ⟨Nat.le_of_ble_eq_true rfl, Nat.le_of_ble_eq_true rfl⟩) rfl (Nat.le_of_ble_eq_true rfl) rfl rfl rfl dX12_weight_3 (kk_sB (fun v1 I1 J1 hb1 h => ?_))
  refine wm_callV C (o := 0) (As := [.int (iZ v1)]) (st := []) (a' := 0) (b' := 0) rfl rfl (k_X12_goes G hG v1 I1 J1 _ h) 1 gX12_weight_X12_goes rfl (by decide +kernel) (by rw [hX]; exact ⟨Nat.le_of_ble_eq_true rfl, Nat.le_of_ble_eq_true rfl⟩) rfl (Nat.le_of_ble_eq_true rfl) rfl rfl rfl dX12_weight_6 (kk_sB (fun v2 I2 J2 hb2 h => ?_))
  refine wz_if_eq C (tgt := 24) (rgB hb2) dX12_weight_9 (by decide) (fun c => ?_) (fun c => ?_)
  · replace h := h.1 c
    refine wz_iconst C dX12_weight_24 ?_
    exact wz_iret C dX12_weight_25 ⟨_, rfl, h⟩
  · replace h := h.2 c
    refine wz_aload_n C rfl rfl dX12_weight_12 ?_
    refine wz_getR C (j := 2) f_X12_weight_26 rfl dX12_weight_13 ?_
    refine wz_bipush C (by decide) dX12_weight_16 ?_
    refine wz_iload_n C rfl rfl dX12_weight_18 ?_
    refine wz_iadd C dX12_weight_19 ?_
    obtain ⟨g3, h⟩ := h
    refine wz_iaload C ((7 + l1).toNat) (n := 350) rfl (zN g3) (zL g3) (by decide) rfl dX12_weight_20 ?_
    refine wz_goto C dX12_weight_21 (tgt := 25) (by decide) ?_
    exact wz_iret C dX12_weight_25 ⟨_, rfl, h⟩
theorem in_X12_isCut_X12 : ∀ w ∈ wsX120, w ∈ wsX12_isCut := by decide +kernel
theorem f_X12_isCut_26 : FLk wsX12_isCut RX12 26 12 15 := flk 12 15 rfl tyX12_ok nmX12 in_X12_isCut_X12 (by decide) (by decide +kernel)
def rm_X12_isCut : Room := { frames := 0, cells := 0, slots := 0, locals := 0 }
set_option maxHeartbeats 4000000 in
set_option maxRecDepth 100000 in
theorem k_X12_isCut (G : KG) (hG : Kok G) (l1 : Int) (I : Ii) (J : Jj) (Q : Int → Ii → Jj → Prop) (h : wp_X12_isCut l1 I J Q) : Ctr G yX12_isCut wsX12_isCut rm_X12_isCut [.ref (kadr G 0), .int (iZ l1)] (I, J) (QsB Q) := by
  unfold wp_X12_isCut at h
  skip
  refine Ctr.ofZ (cc := cX12_isCut) (nL := 2) (ret := (some .boolean)) [some (.ref (kadr G 0)), some (.int (iZ l1))] hG (by decide +kernel) rfl (Nat.le_of_ble_eq_true rfl) (Nat.le_of_ble_eq_true rfl) (by simp [lvA, lv_args, Value.category]) ?_
  intro X hX C
  refine wz_aload_n C rfl rfl dX12_isCut_0 ?_
  refine wz_getR C (j := 2) f_X12_isCut_26 rfl dX12_isCut_1 ?_
  refine wz_bipush C (by decide) dX12_isCut_4 ?_
  refine wz_aload_n C rfl rfl dX12_isCut_6 ?_
  refine wz_getR C (j := 2) f_X12_isCut_26 rfl dX12_isCut_7 ?_
  refine wz_bipush C (by decide) dX12_isCut_10 ?_
  refine wz_iload_n C rfl rfl dX12_isCut_12 ?_
  refine wz_iadd C dX12_isCut_13 ?_
  obtain ⟨g1, h⟩ := h
  refine wz_iaload C ((110 + l1).toNat) (n := 350) rfl (zN g1) (zL g1) (by decide) rfl dX12_isCut_14 ?_
  refine wz_iadd C dX12_isCut_15 ?_
  obtain ⟨g2, h⟩ := h
  refine wz_iaload C ((21 + (I 2 ((110 + l1).toNat))).toNat) (n := 350) rfl (zN g2) (zL g2) (by decide) rfl dX12_isCut_16 ?_
  refine wz_aload_n C rfl rfl dX12_isCut_17 ?_
  refine wz_getR C (j := 2) f_X12_isCut_26 rfl dX12_isCut_18 ?_
  refine wz_bipush C (by decide) dX12_isCut_21 ?_
  refine wz_aload_n C rfl rfl dX12_isCut_23 ?_
  refine wz_getR C (j := 2) f_X12_isCut_26 rfl dX12_isCut_24 ?_
  refine wz_sipush C (by decide) dX12_isCut_27 ?_
  refine wz_iload_n C rfl rfl dX12_isCut_30 ?_
  refine wz_iadd C dX12_isCut_31 ?_
  obtain ⟨g3, h⟩ := h
  refine wz_iaload C ((150 + l1).toNat) (n := 350) rfl (zN g3) (zL g3) (by decide) rfl dX12_isCut_32 ?_
  refine wz_iadd C dX12_isCut_33 ?_
  obtain ⟨g4, h⟩ := h
  refine wz_iaload C ((21 + (I 2 ((150 + l1).toNat))).toNat) (n := 350) rfl (zN g4) (zL g4) (by decide) rfl dX12_isCut_34 ?_
  obtain ⟨g5, h⟩ := h
  obtain ⟨g6, h⟩ := h
  refine wz_icmp_eq C (tgt := 42) g5 g6 dX12_isCut_35 (by decide) (fun c => ?_) (fun c => ?_)
  · replace h := h.1 c
    refine wz_iconst C dX12_isCut_42 ?_
    exact wz_zret C (Or.inl rfl) dX12_isCut_43 ⟨_, rfl, (Or.inl rfl), h⟩
  · replace h := h.2 c
    refine wz_iconst C dX12_isCut_38 ?_
    refine wz_goto C dX12_isCut_39 (tgt := 43) (by decide) ?_
    exact wz_zret C (Or.inr rfl) dX12_isCut_43 ⟨_, rfl, (Or.inr rfl), h⟩
theorem in_X12_edge_X12 : ∀ w ∈ wsX120, w ∈ wsX12_edge := by decide +kernel
theorem f_X12_edge_26 : FLk wsX12_edge RX12 26 12 15 := flk 12 15 rfl tyX12_ok nmX12 in_X12_edge_X12 (by decide) (by decide +kernel)
def rm_X12_edge : Room := { frames := 2, cells := 0, slots := 0, locals := 46 }
set_option maxHeartbeats 4000000 in
set_option maxRecDepth 100000 in
theorem k_X12_edge (G : KG) (hG : Kok G) (l1 : Int) (l2 : Int) (I : Ii) (J : Jj) (Q : Int → Ii → Jj → Prop) (h : wp_X12_edge l1 l2 I J Q) : Ctr G yX12_edge wsX12_edge rm_X12_edge [.ref (kadr G 0), .int (iZ l1), .int (iZ l2)] (I, J) (QsI Q) := by
  unfold wp_X12_edge at h
  skip
  refine Ctr.ofZ (cc := cX12_edge) (nL := 3) (ret := (some .int)) [some (.ref (kadr G 0)), some (.int (iZ l1)), some (.int (iZ l2))] hG (by decide +kernel) rfl (Nat.le_of_ble_eq_true rfl) (Nat.le_of_ble_eq_true rfl) (by simp [lvA, lv_args, Value.category]) ?_
  intro X hX C
  refine wz_aload_n C rfl rfl dX12_edge_0 ?_
  refine wz_aload_n C rfl rfl dX12_edge_1 ?_
  refine wz_iload_n C rfl rfl dX12_edge_2 ?_
  refine wm_callV C (o := 0) (As := [.int (iZ l1)]) (st := [.ref (kadr G 0)]) (a' := 0) (b' := 0) rfl rfl (k_X12_isEdge G hG l1 I J _ h) 1 gX12_edge_X12_isEdge rfl (by decide +kernel) (by rw [hX]; exact ⟨Nat.le_of_ble_eq_true rfl, Nat.le_of_ble_eq_true rfl⟩) rfl (Nat.le_of_ble_eq_true rfl) rfl rfl rfl dX12_edge_3 (kk_sB (fun v1 I1 J1 hb1 h => ?_))
  refine wz_iload_n C rfl rfl dX12_edge_6 ?_
  refine wd_i2l C dX12_edge_7 ?_
  refine wz_lconst C (v := lZ 0) (by decide) dX12_edge_8 ?_
  refine wz_ldc2_w C (v := lZ 3) (by decide +kernel) dX12_edge_9 ?_
  refine wm_callS C (As := [.long (i2lZ l2), .long (lZ 0), .long (lZ 3)]) (st := [.int (iZ v1), .ref (kadr G 0)]) (a' := 0) (b' := 0) (k_X12_isIn G hG (i2lZ l2) (lZ 0) (lZ 3) I1 J1 _ h) 3 gX12_edge_X12_isIn rfl (by decide +kernel) (by rw [hX]; exact ⟨Nat.le_of_ble_eq_true rfl, Nat.le_of_ble_eq_true rfl⟩) rfl (Nat.le_of_ble_eq_true rfl) rfl rfl rfl dX12_edge_12 (kk_sB (fun v2 I2 J2 hb2 h => ?_))
  refine wm_callV C (o := 0) (As := [.int (iZ v1), .int (iZ v2)]) (st := []) (a' := 0) (b' := 0) rfl rfl (k_X12_goesBoth G hG v1 v2 I2 J2 _ h) 2 gX12_edge_X12_goesBoth rfl (by decide +kernel) (by rw [hX]; exact ⟨Nat.le_of_ble_eq_true rfl, Nat.le_of_ble_eq_true rfl⟩) rfl (Nat.le_of_ble_eq_true rfl) rfl rfl rfl dX12_edge_15 (kk_sB (fun v3 I3 J3 hb3 h => ?_))
  refine wz_if_ne C (tgt := 23) (rgB hb3) dX12_edge_18 (by decide) (fun c => ?_) (fun c => ?_)
  · replace h := h.1 c
    refine wz_iload_n C rfl rfl dX12_edge_23 ?_
    obtain ⟨g4, h⟩ := h
    have c : (l2 < 0 ∨ 2 < l2) ∨ l2 = 0 ∨ l2 = 1 ∨ l2 = 2 := by omega
    rcases c with c | c | c | c
    · replace h := h.1 c
      refine wz_tableOut C (tgt := 84) g4 dX12_edge_24 c (by decide) ?_
      refine wz_aload_n C rfl rfl dX12_edge_84 ?_
      refine wz_iload_n C rfl rfl dX12_edge_85 ?_
      refine wm_callV C (o := 0) (As := [.int (iZ l1)]) (st := []) (a' := 0) (b' := 0) rfl rfl (k_X12_isCut G hG l1 I3 J3 _ h) 1 gX12_edge_X12_isCut rfl (by decide +kernel) (by rw [hX]; exact ⟨Nat.le_of_ble_eq_true rfl, Nat.le_of_ble_eq_true rfl⟩) rfl (Nat.le_of_ble_eq_true rfl) rfl rfl rfl dX12_edge_86 (kk_sB (fun v5 I5 J5 hb5 h => ?_))
      refine wm_callS C (As := [.int (iZ v5)]) (st := []) (a' := 0) (b' := 0) (k_X12_truth G hG v5 I5 J5 _ h) 1 gX12_edge_X12_truth rfl (by decide +kernel) (by rw [hX]; exact ⟨Nat.le_of_ble_eq_true rfl, Nat.le_of_ble_eq_true rfl⟩) rfl (Nat.le_of_ble_eq_true rfl) rfl rfl rfl dX12_edge_89 (kk_sI (fun v6 I6 J6 h => ?_))
      exact wz_iret C dX12_edge_92 ⟨_, rfl, h⟩
    · replace h := h.2.1 c
      refine wz_tableIn C (v := 0) (tgt := 52) c dX12_edge_24 (by decide) rfl (by decide) ?_
      refine wz_aload_n C rfl rfl dX12_edge_52 ?_
      refine wz_getR C (j := 2) f_X12_edge_26 rfl dX12_edge_53 ?_
      refine wz_bipush C (by decide) dX12_edge_56 ?_
      refine wz_iload_n C rfl rfl dX12_edge_58 ?_
      refine wz_iadd C dX12_edge_59 ?_
      obtain ⟨g7, h⟩ := h
      refine wz_iaload C ((110 + l1).toNat) (n := 350) rfl (zN g7) (zL g7) (by decide) rfl dX12_edge_60 ?_
      exact wz_iret C dX12_edge_61 ⟨_, rfl, h⟩
    · replace h := h.2.2.1 c
      refine wz_tableIn C (v := 1) (tgt := 62) c dX12_edge_24 (by decide) rfl (by decide) ?_
      refine wz_aload_n C rfl rfl dX12_edge_62 ?_
      refine wz_getR C (j := 2) f_X12_edge_26 rfl dX12_edge_63 ?_
      refine wz_sipush C (by decide) dX12_edge_66 ?_
      refine wz_iload_n C rfl rfl dX12_edge_69 ?_
      refine wz_iadd C dX12_edge_70 ?_
      obtain ⟨g8, h⟩ := h
      refine wz_iaload C ((150 + l1).toNat) (n := 350) rfl (zN g8) (zL g8) (by decide) rfl dX12_edge_71 ?_
      exact wz_iret C dX12_edge_72 ⟨_, rfl, h⟩
    · replace h := h.2.2.2 c
      refine wz_tableIn C (v := 2) (tgt := 73) c dX12_edge_24 (by decide) rfl (by decide) ?_
      refine wz_aload_n C rfl rfl dX12_edge_73 ?_
      refine wz_getR C (j := 2) f_X12_edge_26 rfl dX12_edge_74 ?_
      refine wz_sipush C (by decide) dX12_edge_77 ?_
      refine wz_iload_n C rfl rfl dX12_edge_80 ?_
      refine wz_iadd C dX12_edge_81 ?_
      obtain ⟨g9, h⟩ := h
      refine wz_iaload C ((190 + l1).toNat) (n := 350) rfl (zN g9) (zL g9) (by decide) rfl dX12_edge_82 ?_
      exact wz_iret C dX12_edge_83 ⟨_, rfl, h⟩
  · replace h := h.2 c
    refine wz_iconst C dX12_edge_21 ?_
    exact wz_iret C dX12_edge_22 ⟨_, rfl, h⟩
def rm_X12_areVertices : Room := { frames := 2, cells := 0, slots := 0, locals := 46 }
set_option maxHeartbeats 4000000 in
set_option maxRecDepth 100000 in
theorem k_X12_areVertices (G : KG) (hG : Kok G) (l1 : Int) (l2 : Int) (I : Ii) (J : Jj) (Q : Int → Ii → Jj → Prop) (h : wp_X12_areVertices l1 l2 I J Q) : Ctr G yX12_areVertices wsX12_areVertices rm_X12_areVertices [.ref (kadr G 0), .int (iZ l1), .int (iZ l2)] (I, J) (QsB Q) := by
  unfold wp_X12_areVertices at h
  skip
  refine Ctr.ofZ (cc := cX12_areVertices) (nL := 3) (ret := (some .boolean)) [some (.ref (kadr G 0)), some (.int (iZ l1)), some (.int (iZ l2))] hG (by decide +kernel) rfl (Nat.le_of_ble_eq_true rfl) (Nat.le_of_ble_eq_true rfl) (by simp [lvA, lv_args, Value.category]) ?_
  intro X hX C
  refine wz_aload_n C rfl rfl dX12_areVertices_0 ?_
  refine wz_iload_n C rfl rfl dX12_areVertices_1 ?_
  refine wm_callV C (o := 0) (As := [.int (iZ l1)]) (st := []) (a' := 0) (b' := 0) rfl rfl (k_X12_isVertex G hG l1 I J _ h) 1 gX12_areVertices_X12_isVertex rfl (by decide +kernel) (by rw [hX]; exact ⟨Nat.le_of_ble_eq_true rfl, Nat.le_of_ble_eq_true rfl⟩) rfl (Nat.le_of_ble_eq_true rfl) rfl rfl rfl dX12_areVertices_2 (kk_sB (fun v1 I1 J1 hb1 h => ?_))
  refine wz_if_eq C (tgt := 20) (rgB hb1) dX12_areVertices_5 (by decide) (fun c => ?_) (fun c => ?_)
  · replace h := h.1 c
    refine wz_iconst C dX12_areVertices_20 ?_
    exact wz_zret C (Or.inl rfl) dX12_areVertices_21 ⟨_, rfl, (Or.inl rfl), h⟩
  · replace h := h.2 c
    refine wz_aload_n C rfl rfl dX12_areVertices_8 ?_
    refine wz_iload_n C rfl rfl dX12_areVertices_9 ?_
    refine wm_callV C (o := 0) (As := [.int (iZ l2)]) (st := []) (a' := 0) (b' := 0) rfl rfl (k_X12_isVertex G hG l2 I1 J1 _ h) 1 gX12_areVertices_X12_isVertex rfl (by decide +kernel) (by rw [hX]; exact ⟨Nat.le_of_ble_eq_true rfl, Nat.le_of_ble_eq_true rfl⟩) rfl (Nat.le_of_ble_eq_true rfl) rfl rfl rfl dX12_areVertices_10 (kk_sB (fun v2 I2 J2 hb2 h => ?_))
    refine wz_if_eq C (tgt := 20) (rgB hb2) dX12_areVertices_13 (by decide) (fun c => ?_) (fun c => ?_)
    · replace h := h.1 c
      refine wz_iconst C dX12_areVertices_20 ?_
      exact wz_zret C (Or.inl rfl) dX12_areVertices_21 ⟨_, rfl, (Or.inl rfl), h⟩
    · replace h := h.2 c
      refine wz_iconst C dX12_areVertices_16 ?_
      refine wz_goto C dX12_areVertices_17 (tgt := 21) (by decide) ?_
      exact wz_zret C (Or.inr rfl) dX12_areVertices_21 ⟨_, rfl, (Or.inr rfl), h⟩
theorem in_X12_between_X12 : ∀ w ∈ wsX120, w ∈ wsX12_between := by decide +kernel
theorem f_X12_between_26 : FLk wsX12_between RX12 26 12 15 := flk 12 15 rfl tyX12_ok nmX12 in_X12_between_X12 (by decide) (by decide +kernel)
def rm_X12_between : Room := { frames := 3, cells := 0, slots := 0, locals := 68 }
set_option maxHeartbeats 4000000 in
set_option maxRecDepth 100000 in
theorem k_X12_between (G : KG) (hG : Kok G) (l1 : Int) (l2 : Int) (I : Ii) (J : Jj) (Q : Int → Ii → Jj → Prop) (h : wp_X12_between l1 l2 I J Q) : Ctr G yX12_between wsX12_between rm_X12_between [.ref (kadr G 0), .int (iZ l1), .int (iZ l2)] (I, J) (QsI Q) := by
  unfold wp_X12_between at h
  skip
  refine Ctr.ofZ (cc := cX12_between) (nL := 4) (ret := (some .int)) [some (.ref (kadr G 0)), some (.int (iZ l1)), some (.int (iZ l2)), none] hG (by decide +kernel) rfl (Nat.le_of_ble_eq_true rfl) (Nat.le_of_ble_eq_true rfl) (by simp [lvA, lv_args, Value.category]) ?_
  intro X hX C
  refine wz_aload_n C rfl rfl dX12_between_0 ?_
  refine wz_aload_n C rfl rfl dX12_between_1 ?_
  refine wz_iload_n C rfl rfl dX12_between_2 ?_
  refine wz_iload_n C rfl rfl dX12_between_3 ?_
  refine wm_callV C (o := 0) (As := [.int (iZ l1), .int (iZ l2)]) (st := [.ref (kadr G 0)]) (a' := 0) (b' := 0) rfl rfl (k_X12_areVertices G hG l1 l2 I J _ h) 2 gX12_between_X12_areVertices rfl (by decide +kernel) (by rw [hX]; exact ⟨Nat.le_of_ble_eq_true rfl, Nat.le_of_ble_eq_true rfl⟩) rfl (Nat.le_of_ble_eq_true rfl) rfl rfl rfl dX12_between_4 (kk_sB (fun v1 I1 J1 hb1 h => ?_))
  refine wm_callV C (o := 0) (As := [.int (iZ v1)]) (st := []) (a' := 0) (b' := 0) rfl rfl (k_X12_goes G hG v1 I1 J1 _ h) 1 gX12_between_X12_goes rfl (by decide +kernel) (by rw [hX]; exact ⟨Nat.le_of_ble_eq_true rfl, Nat.le_of_ble_eq_true rfl⟩) rfl (Nat.le_of_ble_eq_true rfl) rfl rfl rfl dX12_between_7 (kk_sB (fun v2 I2 J2 hb2 h => ?_))
  refine wz_if_ne C (tgt := 15) (rgB hb2) dX12_between_10 (by decide) (fun c => ?_) (fun c => ?_)
  · replace h := h.1 c
    refine wz_aload_n C rfl rfl dX12_between_15 ?_
    refine wz_iload_n C rfl rfl dX12_between_16 ?_
    refine wz_iload_n C rfl rfl dX12_between_17 ?_
    refine wm_callV C (o := 0) (As := [.int (iZ l1), .int (iZ l2)]) (st := []) (a' := 0) (b' := 0) rfl rfl (k_X12_edgeOf G hG l1 l2 I2 J2 _ h) 2 gX12_between_X12_edgeOf rfl (by decide +kernel) (by rw [hX]; exact ⟨Nat.le_of_ble_eq_true rfl, Nat.le_of_ble_eq_true rfl⟩) rfl (Nat.le_of_ble_eq_true rfl) rfl rfl rfl dX12_between_18 (kk_sI (fun v3 I3 J3 h => ?_))
    refine wz_istore_3 C rfl dX12_between_21 ?_
    refine wz_iload_n C rfl rfl dX12_between_22 ?_
    refine wz_iconst C dX12_between_23 ?_
    obtain ⟨g4, h⟩ := h
    refine wz_icmp_ne C (tgt := 31) g4 (by decide) dX12_between_24 (by decide) (fun c => ?_) (fun c => ?_)
    · replace h := h.1 c
      refine wz_aload_n C rfl rfl dX12_between_31 ?_
      refine wz_getR C (j := 2) f_X12_between_26 rfl dX12_between_32 ?_
      refine wz_sipush C (by decide) dX12_between_35 ?_
      refine wz_iload_n C rfl rfl dX12_between_38 ?_
      refine wz_iadd C dX12_between_39 ?_
      obtain ⟨g5, h⟩ := h
      refine wz_iaload C ((190 + v3).toNat) (n := 350) rfl (zN g5) (zL g5) (by decide) rfl dX12_between_40 ?_
      exact wz_iret C dX12_between_41 ⟨_, rfl, h⟩
    · replace h := h.2 c
      refine wz_iconst C dX12_between_27 ?_
      refine wz_goto C dX12_between_28 (tgt := 41) (by decide) ?_
      exact wz_iret C dX12_between_41 ⟨_, rfl, h⟩
  · replace h := h.2 c
    refine wz_iconst C dX12_between_13 ?_
    exact wz_iret C dX12_between_14 ⟨_, rfl, h⟩
