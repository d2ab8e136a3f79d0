theorem in_X12_edgeOf_X12 : ∀ w ∈ wsX120, w ∈ wsX12_edgeOf := by decide +kernel
theorem f_X12_edgeOf_26 : FLk wsX12_edgeOf RX12 26 12 15 := flk 12 15 rfl tyX12_ok nmX12 in_X12_edgeOf_X12 (by decide) (by decide +kernel)
def rm_X12_edgeOf : Room := { frames := 0, cells := 0, slots := 0, locals := 0 }
set_option maxHeartbeats 4000000 in
set_option maxRecDepth 100000 in
theorem bk_X12_edgeOf_45 (G : KG) (hG : Kok G) (X : KX) (hX : KR X = rm_X12_edgeOf) (C : Fr G X cX12_edgeOf 5 yX12_edgeOf.cls (some .int) wsX12_edgeOf) (l1 : Int) (l2 : Int) (Q : Int → Ii → Jj → Prop) (r5 : Int → Int → Ii → Jj → Prop) (w5 : ∀ (l3 : Int) (l4 : Int) (I : Ii) (J : Jj), r5 l3 l4 I J → Wz G X 5 (QsU G X (QsI Q)) 0 0 5 [some (.ref (kadr G 0)), some (.int (iZ l1)), some (.int (iZ l2)), some (.int (iZ l3)), some (.int (iZ l4))] [] I J) (l3 : Int) (l4 : Int) (I : Ii) (J : Jj) (h : B_X12_edgeOf_45 l1 l2 Q r5 l3 l4 I J) : Wz G X 5 (QsU G X (QsI Q)) 0 0 45 [some (.ref (kadr G 0)), some (.int (iZ l1)), some (.int (iZ l2)), some (.int (iZ l3)), some (.int (iZ l4))] [] I J := by
  unfold B_X12_edgeOf_45 at h
  refine wz_aload_n C rfl rfl dX12_edgeOf_45 ?_
  refine wz_getR C (j := 2) f_X12_edgeOf_26 rfl dX12_edgeOf_46 ?_
  refine wz_bipush C (by decide) dX12_edgeOf_49 ?_
  refine wz_iload C rfl dX12_edgeOf_51 ?_
  refine wz_iadd C dX12_edgeOf_53 ?_
  obtain ⟨g9, h⟩ := h
  refine wz_iaload C ((110 + l4).toNat) (n := 350) rfl (zN g9) (zL g9) (by decide) rfl dX12_edgeOf_54 ?_
  refine wz_iload_n C rfl rfl dX12_edgeOf_55 ?_
  obtain ⟨g10, h⟩ := h
  obtain ⟨g11, h⟩ := h
  refine wz_icmp_ne C (tgt := 79) g10 g11 dX12_edgeOf_56 (by decide) (fun c => ?_) (fun c => ?_)
  · replace h := h.1 c
    refine wz_iload_n C rfl rfl dX12_edgeOf_79 ?_
    refine wz_istore_3 C rfl dX12_edgeOf_80 ?_
    refine wz_iinc_4 C rfl dX12_edgeOf_81 ?_
    refine wz_goto C dX12_edgeOf_84 (tgt := 5) (by decide) ?_
    exact w5 l3 (l4 + 1) I J h
  · replace h := h.2 c
    refine wz_aload_n C rfl rfl dX12_edgeOf_59 ?_
    refine wz_getR C (j := 2) f_X12_edgeOf_26 rfl dX12_edgeOf_60 ?_
    refine wz_sipush C (by decide) dX12_edgeOf_63 ?_
    refine wz_iload C rfl dX12_edgeOf_66 ?_
    refine wz_iadd C dX12_edgeOf_68 ?_
    obtain ⟨g12, h⟩ := h
    refine wz_iaload C ((150 + l4).toNat) (n := 350) rfl (zN g12) (zL g12) (by decide) rfl dX12_edgeOf_69 ?_
    refine wz_iload_n C rfl rfl dX12_edgeOf_70 ?_
    obtain ⟨g13, h⟩ := h
    obtain ⟨g14, h⟩ := h
    refine wz_icmp_ne C (tgt := 79) g13 g14 dX12_edgeOf_71 (by decide) (fun c => ?_) (fun c => ?_)
    · replace h := h.1 c
      refine wz_iload_n C rfl rfl dX12_edgeOf_79 ?_
      refine wz_istore_3 C rfl dX12_edgeOf_80 ?_
      refine wz_iinc_4 C rfl dX12_edgeOf_81 ?_
      refine wz_goto C dX12_edgeOf_84 (tgt := 5) (by decide) ?_
      exact w5 l3 (l4 + 1) I J h
    · replace h := h.2 c
      refine wz_iload C rfl dX12_edgeOf_74 ?_
      refine wz_goto C dX12_edgeOf_76 (tgt := 80) (by decide) ?_
      refine wz_istore_3 C rfl dX12_edgeOf_80 ?_
      refine wz_iinc_4 C rfl dX12_edgeOf_81 ?_
      refine wz_goto C dX12_edgeOf_84 (tgt := 5) (by decide) ?_
      exact w5 l4 (l4 + 1) I J h
set_option maxHeartbeats 4000000 in
set_option maxRecDepth 100000 in
theorem lk_X12_edgeOf_5 (G : KG) (hG : Kok G) (X : KX) (hX : KR X = rm_X12_edgeOf) (C : Fr G X cX12_edgeOf 5 yX12_edgeOf.cls (some .int) wsX12_edgeOf) (l1 : Int) (l2 : Int) (Q : Int → Ii → Jj → Prop) : ∀ (n : Nat) (l3 : Int) (l4 : Int) (I : Ii) (J : Jj), L_X12_edgeOf_5 l1 l2 Q n l3 l4 I J → Wz G X 5 (QsU G X (QsI Q)) 0 0 5 [some (.ref (kadr G 0)), some (.int (iZ l1)), some (.int (iZ l2)), some (.int (iZ l3)), some (.int (iZ l4))] [] I J := by
  intro n
  induction n with
  | zero => intro l3 l4 I J h; exact False.elim h
  | succ n w5 =>
    intro l3 l4 I J h
    have h : Lb_X12_edgeOf_5 l1 l2 Q (L_X12_edgeOf_5 l1 l2 Q n) l3 l4 I J := h
    unfold Lb_X12_edgeOf_5 at h
    generalize L_X12_edgeOf_5 l1 l2 Q n = r5 at h w5
    refine wz_iload C rfl dX12_edgeOf_5 ?_
    refine wz_aload_n C rfl rfl dX12_edgeOf_7 ?_
    refine wz_getR C (j := 2) f_X12_edgeOf_26 rfl dX12_edgeOf_8 ?_
    refine wz_iconst C dX12_edgeOf_11 ?_
    refine wz_iaload C 1 (n := 350) rfl rfl (by decide) (by decide) rfl dX12_edgeOf_12 ?_
    obtain ⟨g1, h⟩ := h
    obtain ⟨g2, h⟩ := h
    refine wz_icmp_ge C (tgt := 87) g1 g2 dX12_edgeOf_13 (by decide) (fun c => ?_) (fun c => ?_)
    · replace h := h.1 c
      refine wz_iload_n C rfl rfl dX12_edgeOf_87 ?_
      exact wz_iret C dX12_edgeOf_88 ⟨_, rfl, h⟩
    · replace h := h.2 c
      refine wz_aload_n C rfl rfl dX12_edgeOf_16 ?_
      refine wz_getR C (j := 2) f_X12_edgeOf_26 rfl dX12_edgeOf_17 ?_
      refine wz_bipush C (by decide) dX12_edgeOf_20 ?_
      refine wz_iload C rfl dX12_edgeOf_22 ?_
      refine wz_iadd C dX12_edgeOf_24 ?_
      obtain ⟨g3, h⟩ := h
      refine wz_iaload C ((110 + l4).toNat) (n := 350) rfl (zN g3) (zL g3) (by decide) rfl dX12_edgeOf_25 ?_
      refine wz_iload_n C rfl rfl dX12_edgeOf_26 ?_
      obtain ⟨g4, h⟩ := h
      obtain ⟨g5, h⟩ := h
      refine wz_icmp_ne C (tgt := 45) g4 g5 dX12_edgeOf_27 (by decide) (fun c => ?_) (fun c => ?_)
      · replace h := h.1 c
        exact bk_X12_edgeOf_45 G hG X hX C l1 l2 Q r5 w5 l3 l4 I J h
      · replace h := h.2 c
        refine wz_aload_n C rfl rfl dX12_edgeOf_30 ?_
        refine wz_getR C (j := 2) f_X12_edgeOf_26 rfl dX12_edgeOf_31 ?_
        refine wz_sipush C (by decide) dX12_edgeOf_34 ?_
        refine wz_iload C rfl dX12_edgeOf_37 ?_
        refine wz_iadd C dX12_edgeOf_39 ?_
        obtain ⟨g6, h⟩ := h
        refine wz_iaload C ((150 + l4).toNat) (n := 350) rfl (zN g6) (zL g6) (by decide) rfl dX12_edgeOf_40 ?_
        refine wz_iload_n C rfl rfl dX12_edgeOf_41 ?_
        obtain ⟨g7, h⟩ := h
        obtain ⟨g8, h⟩ := h
        refine wz_icmp_eq C (tgt := 74) g7 g8 dX12_edgeOf_42 (by decide) (fun c => ?_) (fun c => ?_)
        · replace h := h.1 c
          refine wz_iload C rfl dX12_edgeOf_74 ?_
          refine wz_goto C dX12_edgeOf_76 (tgt := 80) (by decide) ?_
          refine wz_istore_3 C rfl dX12_edgeOf_80 ?_
          refine wz_iinc_4 C rfl dX12_edgeOf_81 ?_
          refine wz_goto C dX12_edgeOf_84 (tgt := 5) (by decide) ?_
          exact w5 l4 (l4 + 1) I J h
        · replace h := h.2 c
          exact bk_X12_edgeOf_45 G hG X hX C l1 l2 Q r5 w5 l3 l4 I J h
set_option maxHeartbeats 4000000 in
set_option maxRecDepth 100000 in
theorem k_X12_edgeOf (G : KG) (hG : Kok G) (l1 : Int) (l2 : Int) (I : Ii) (J : Jj) (Q : Int → Ii → Jj → Prop) (h : wp_X12_edgeOf l1 l2 I J Q) : Ctr G yX12_edgeOf wsX12_edgeOf rm_X12_edgeOf [.ref (kadr G 0), .int (iZ l1), .int (iZ l2)] (I, J) (QsI Q) := by
  unfold wp_X12_edgeOf at h
  skip
  refine Ctr.ofZ (cc := cX12_edgeOf) (nL := 5) (ret := (some .int)) [some (.ref (kadr G 0)), some (.int (iZ l1)), some (.int (iZ l2)), none, none] hG (by decide +kernel) rfl (Nat.le_of_ble_eq_true rfl) (Nat.le_of_ble_eq_true rfl) (by simp [lvA, lv_args, Value.category]) ?_
  intro X hX C
  refine wz_iconst C dX12_edgeOf_0 ?_
  refine wz_istore_3 C rfl dX12_edgeOf_1 ?_
  refine wz_iconst C dX12_edgeOf_2 ?_
  refine wz_istore_4 C rfl dX12_edgeOf_3 ?_
  obtain ⟨n, h⟩ := h
  exact lk_X12_edgeOf_5 G hG X hX C l1 l2 Q n (-1) 0 I J h
theorem in_X12_readsEdge_X12 : ∀ w ∈ wsX120, w ∈ wsX12_readsEdge := by decide +kernel
theorem f_X12_readsEdge_26 : FLk wsX12_readsEdge RX12 26 12 15 := flk 12 15 rfl tyX12_ok nmX12 in_X12_readsEdge_X12 (by decide) (by decide +kernel)
def rm_X12_readsEdge : Room := { frames := 3, cells := 0, slots := 0, locals := 66 }
set_option maxHeartbeats 4000000 in
set_option maxRecDepth 100000 in
theorem bk_X12_readsEdge_90 (G : KG) (hG : Kok G) (X : KX) (hX : KR X = rm_X12_readsEdge) (C : Fr G X cX12_readsEdge 5 yX12_readsEdge.cls none wsX12_readsEdge) (Q : Ii → Jj → Prop) (l1 : Int) (l2 : Int) (l3 : Int) (I : Ii) (J : Jj) (h : B_X12_readsEdge_90 Q l1 l2 l3 I J) : Wz G X 5 (QsU G X (QsV Q)) 0 0 90 [some (.ref (kadr G 0)), some (.int (iZ l1)), some (.int (iZ l2)), some (.int (iZ l3)), none] [] I J := by
  unfold B_X12_readsEdge_90 at h
  refine wz_aload_n C rfl rfl dX12_readsEdge_90 ?_
  refine wz_iconst C dX12_readsEdge_91 ?_
  refine wz_bipush C (by decide) dX12_readsEdge_92 ?_
  refine wm_callV C (o := 0) (As := [.int (iZ 1), .int (iZ 99)]) (st := []) (a' := 0) (b' := 0) rfl rfl (k_X12_number G hG 1 99 I J _ h) 2 gX12_readsEdge_X12_number rfl (by decide +kernel) (by rw [hX]; exact ⟨Nat.le_of_ble_eq_true rfl, Nat.le_of_ble_eq_true rfl⟩) rfl (Nat.le_of_ble_eq_true rfl) rfl rfl rfl dX12_readsEdge_94 (kk_sI (fun v17 I17 J17 h => ?_))
  refine wz_istore_4 C rfl dX12_readsEdge_97 ?_
  refine wz_aload_n C rfl rfl dX12_readsEdge_99 ?_
  refine wm_callV C (o := 0) (As := []) (st := []) (a' := 0) (b' := 0) rfl rfl (k_X12_isGood G hG I17 J17 _ h) 0 gX12_readsEdge_X12_isGood rfl (by decide +kernel) (by rw [hX]; exact ⟨Nat.le_of_ble_eq_true rfl, Nat.le_of_ble_eq_true rfl⟩) rfl (Nat.le_of_ble_eq_true rfl) rfl rfl rfl dX12_readsEdge_100 (kk_sB (fun v18 I18 J18 hb18 h => ?_))
  refine wz_if_ne C (tgt := 107) (rgB hb18) dX12_readsEdge_103 (by decide) (fun c => ?_) (fun c => ?_)
  · replace h := h.1 c
    refine wz_aload_n C rfl rfl dX12_readsEdge_107 ?_
    refine wz_getR C (j := 2) f_X12_readsEdge_26 rfl dX12_readsEdge_108 ?_
    refine wz_bipush C (by decide) dX12_readsEdge_111 ?_
    refine wz_iload_n C rfl rfl dX12_readsEdge_113 ?_
    refine wz_iadd C dX12_readsEdge_114 ?_
    refine wz_iload_n C rfl rfl dX12_readsEdge_115 ?_
    obtain ⟨g19, h⟩ := h
    refine wd_iastore C ((110 + l1).toNat) (n := 350) rfl (zN g19) (zL g19) (by decide) dX12_readsEdge_116 (fun I20 e => ?_)
    replace h := h I20 e
    refine wz_aload_n C rfl rfl dX12_readsEdge_117 ?_
    refine wz_getR C (j := 2) f_X12_readsEdge_26 rfl dX12_readsEdge_118 ?_
    refine wz_sipush C (by decide) dX12_readsEdge_121 ?_
    refine wz_iload_n C rfl rfl dX12_readsEdge_124 ?_
    refine wz_iadd C dX12_readsEdge_125 ?_
    refine wz_iload_n C rfl rfl dX12_readsEdge_126 ?_
    obtain ⟨g21, h⟩ := h
    refine wd_iastore C ((150 + l1).toNat) (n := 350) rfl (zN g21) (zL g21) (by decide) dX12_readsEdge_127 (fun I22 e => ?_)
    replace h := h I22 e
    refine wz_aload_n C rfl rfl dX12_readsEdge_128 ?_
    refine wz_getR C (j := 2) f_X12_readsEdge_26 rfl dX12_readsEdge_129 ?_
    refine wz_sipush C (by decide) dX12_readsEdge_132 ?_
    refine wz_iload_n C rfl rfl dX12_readsEdge_135 ?_
    refine wz_iadd C dX12_readsEdge_136 ?_
    refine wz_iload C rfl dX12_readsEdge_137 ?_
    obtain ⟨g23, h⟩ := h
    refine wd_iastore C ((190 + l1).toNat) (n := 350) rfl (zN g23) (zL g23) (by decide) dX12_readsEdge_139 (fun I24 e => ?_)
    replace h := h I24 e
    refine wz_aload_n C rfl rfl dX12_readsEdge_140 ?_
    refine wz_getR C (j := 2) f_X12_readsEdge_26 rfl dX12_readsEdge_141 ?_
    refine wz_iconst C dX12_readsEdge_144 ?_
    refine wz_dup2 C rfl rfl dX12_readsEdge_145 ?_
    refine wz_iaload C 1 (n := 350) rfl rfl (by decide) (by decide) rfl dX12_readsEdge_146 ?_
    refine wz_iconst C dX12_readsEdge_147 ?_
    refine wz_iadd C dX12_readsEdge_148 ?_
    refine wd_iastore C 1 (n := 350) rfl rfl (by decide) (by decide) dX12_readsEdge_149 (fun I25 e => ?_)
    replace h := h I25 e
    exact wz_vret C dX12_readsEdge_150 ⟨rfl, h⟩
  · replace h := h.2 c
    exact wz_vret C dX12_readsEdge_106 ⟨rfl, h⟩
set_option maxHeartbeats 4000000 in
set_option maxRecDepth 100000 in
theorem bk_X12_readsEdge_79 (G : KG) (hG : Kok G) (X : KX) (hX : KR X = rm_X12_readsEdge) (C : Fr G X cX12_readsEdge 5 yX12_readsEdge.cls none wsX12_readsEdge) (Q : Ii → Jj → Prop) (l1 : Int) (l2 : Int) (l3 : Int) (I : Ii) (J : Jj) (h : B_X12_readsEdge_79 Q l1 l2 l3 I J) : Wz G X 5 (QsU G X (QsV Q)) 0 0 79 [some (.ref (kadr G 0)), some (.int (iZ l1)), some (.int (iZ l2)), some (.int (iZ l3)), none] [] I J := by
  unfold B_X12_readsEdge_79 at h
  refine wz_aload_n C rfl rfl dX12_readsEdge_79 ?_
  refine wm_callV C (o := 0) (As := []) (st := []) (a' := 0) (b' := 0) rfl rfl (k_X12_isGood G hG I J _ h) 0 gX12_readsEdge_X12_isGood rfl (by decide +kernel) (by rw [hX]; exact ⟨Nat.le_of_ble_eq_true rfl, Nat.le_of_ble_eq_true rfl⟩) rfl (Nat.le_of_ble_eq_true rfl) rfl rfl rfl dX12_readsEdge_80 (kk_sB (fun v15 I15 J15 hb15 h => ?_))
  refine wz_if_eq C (tgt := 90) (rgB hb15) dX12_readsEdge_83 (by decide) (fun c => ?_) (fun c => ?_)
  · replace h := h.1 c
    exact bk_X12_readsEdge_90 G hG X hX C Q l1 l2 l3 I15 J15 h
  · replace h := h.2 c
    refine wz_aload_n C rfl rfl dX12_readsEdge_86 ?_
    refine wm_callV C (o := 0) (As := []) (st := []) (a' := 0) (b' := 0) rfl rfl (k_X12_goOn G hG I15 J15 _ h) 0 gX12_readsEdge_X12_goOn rfl (by decide +kernel) (by rw [hX]; exact ⟨Nat.le_of_ble_eq_true rfl, Nat.le_of_ble_eq_true rfl⟩) rfl (Nat.le_of_ble_eq_true rfl) rfl rfl rfl dX12_readsEdge_87 (kk_sV (fun I16 J16 h => ?_))
    exact bk_X12_readsEdge_90 G hG X hX C Q l1 l2 l3 I16 J16 h
set_option maxHeartbeats 4000000 in
set_option maxRecDepth 100000 in
theorem bk_X12_readsEdge_57 (G : KG) (hG : Kok G) (X : KX) (hX : KR X = rm_X12_readsEdge) (C : Fr G X cX12_readsEdge 5 yX12_readsEdge.cls none wsX12_readsEdge) (Q : Ii → Jj → Prop) (l1 : Int) (l2 : Int) (l3 : Int) (I : Ii) (J : Jj) (h : B_X12_readsEdge_57 Q l1 l2 l3 I J) : Wz G X 5 (QsU G X (QsV Q)) 0 0 57 [some (.ref (kadr G 0)), some (.int (iZ l1)), some (.int (iZ l2)), some (.int (iZ l3)), none] [] I J := by
  unfold B_X12_readsEdge_57 at h
  refine wz_aload_n C rfl rfl dX12_readsEdge_57 ?_
  refine wm_callV C (o := 0) (As := []) (st := []) (a' := 0) (b' := 0) rfl rfl (k_X12_isGood G hG I J _ h) 0 gX12_readsEdge_X12_isGood rfl (by decide +kernel) (by rw [hX]; exact ⟨Nat.le_of_ble_eq_true rfl, Nat.le_of_ble_eq_true rfl⟩) rfl (Nat.le_of_ble_eq_true rfl) rfl rfl rfl dX12_readsEdge_58 (kk_sB (fun v11 I11 J11 hb11 h => ?_))
  refine wz_if_eq C (tgt := 79) (rgB hb11) dX12_readsEdge_61 (by decide) (fun c => ?_) (fun c => ?_)
  · replace h := h.1 c
    exact bk_X12_readsEdge_79 G hG X hX C Q l1 l2 l3 I11 J11 h
  · replace h := h.2 c
    refine wz_aload_n C rfl rfl dX12_readsEdge_64 ?_
    refine wz_iload_n C rfl rfl dX12_readsEdge_65 ?_
    refine wz_iload_n C rfl rfl dX12_readsEdge_66 ?_
    refine wm_callV C (o := 0) (As := [.int (iZ l2), .int (iZ l3)]) (st := []) (a' := 0) (b' := 0) rfl rfl (k_X12_edgeOf G hG l2 l3 I11 J11 _ h) 2 gX12_readsEdge_X12_edgeOf rfl (by decide +kernel) (by rw [hX]; exact ⟨Nat.le_of_ble_eq_true rfl, Nat.le_of_ble_eq_true rfl⟩) rfl (Nat.le_of_ble_eq_true rfl) rfl rfl rfl dX12_readsEdge_67 (kk_sI (fun v12 I12 J12 h => ?_))
    refine wz_iconst C dX12_readsEdge_70 ?_
    obtain ⟨g13, h⟩ := h
    refine wz_icmp_eq C (tgt := 79) g13 (by decide) dX12_readsEdge_71 (by decide) (fun c => ?_) (fun c => ?_)
    · replace h := h.1 c
      exact bk_X12_readsEdge_79 G hG X hX C Q l1 l2 l3 I12 J12 h
    · replace h := h.2 c
      refine wz_aload_n C rfl rfl dX12_readsEdge_74 ?_
      refine wz_iconst C dX12_readsEdge_75 ?_
      refine wm_callV C (o := 0) (As := [.int (iZ 4)]) (st := []) (a' := 0) (b' := 0) rfl rfl (k_X12_wrong G hG 4 I12 J12 _ h) 1 gX12_readsEdge_X12_wrong rfl (by decide +kernel) (by rw [hX]; exact ⟨Nat.le_of_ble_eq_true rfl, Nat.le_of_ble_eq_true rfl⟩) rfl (Nat.le_of_ble_eq_true rfl) rfl rfl rfl dX12_readsEdge_76 (kk_sV (fun I14 J14 h => ?_))
      exact bk_X12_readsEdge_79 G hG X hX C Q l1 l2 l3 I14 J14 h
set_option maxHeartbeats 4000000 in
set_option maxRecDepth 100000 in
theorem bk_X12_readsEdge_30 (G : KG) (hG : Kok G) (X : KX) (hX : KR X = rm_X12_readsEdge) (C : Fr G X cX12_readsEdge 5 yX12_readsEdge.cls none wsX12_readsEdge) (Q : Ii → Jj → Prop) (l1 : Int) (I : Ii) (J : Jj) (h : B_X12_readsEdge_30 Q l1 I J) : Wz G X 5 (QsU G X (QsV Q)) 0 0 30 [some (.ref (kadr G 0)), some (.int (iZ l1)), none, none, none] [] I J := by
  unfold B_X12_readsEdge_30 at h
  refine wz_aload_n C rfl rfl dX12_readsEdge_30 ?_
  refine wm_callV C (o := 0) (As := []) (st := []) (a' := 0) (b' := 0) rfl rfl (k_X12_toldVertex G hG I J _ h) 0 gX12_readsEdge_X12_toldVertex rfl (by decide +kernel) (by rw [hX]; exact ⟨Nat.le_of_ble_eq_true rfl, Nat.le_of_ble_eq_true rfl⟩) rfl (Nat.le_of_ble_eq_true rfl) rfl rfl rfl dX12_readsEdge_31 (kk_sI (fun v5 I5 J5 h => ?_))
  refine wz_istore_2 C rfl dX12_readsEdge_34 ?_
  refine wz_aload_n C rfl rfl dX12_readsEdge_35 ?_
  refine wm_callV C (o := 0) (As := []) (st := []) (a' := 0) (b' := 0) rfl rfl (k_X12_seenVertex G hG I5 J5 _ h) 0 gX12_readsEdge_X12_seenVertex rfl (by decide +kernel) (by rw [hX]; exact ⟨Nat.le_of_ble_eq_true rfl, Nat.le_of_ble_eq_true rfl⟩) rfl (Nat.le_of_ble_eq_true rfl) rfl rfl rfl dX12_readsEdge_36 (kk_sI (fun v6 I6 J6 h => ?_))
  refine wz_istore_3 C rfl dX12_readsEdge_39 ?_
  refine wz_aload_n C rfl rfl dX12_readsEdge_40 ?_
  refine wm_callV C (o := 0) (As := []) (st := []) (a' := 0) (b' := 0) rfl rfl (k_X12_isGood G hG I6 J6 _ h) 0 gX12_readsEdge_X12_isGood rfl (by decide +kernel) (by rw [hX]; exact ⟨Nat.le_of_ble_eq_true rfl, Nat.le_of_ble_eq_true rfl⟩) rfl (Nat.le_of_ble_eq_true rfl) rfl rfl rfl dX12_readsEdge_41 (kk_sB (fun v7 I7 J7 hb7 h => ?_))
  refine wz_if_eq C (tgt := 57) (rgB hb7) dX12_readsEdge_44 (by decide) (fun c => ?_) (fun c => ?_)
  · replace h := h.1 c
    exact bk_X12_readsEdge_57 G hG X hX C Q l1 v5 v6 I7 J7 h
  · replace h := h.2 c
    refine wz_iload_n C rfl rfl dX12_readsEdge_47 ?_
    refine wz_iload_n C rfl rfl dX12_readsEdge_48 ?_
    obtain ⟨g8, h⟩ := h
    obtain ⟨g9, h⟩ := h
    refine wz_icmp_ne C (tgt := 57) g8 g9 dX12_readsEdge_49 (by decide) (fun c => ?_) (fun c => ?_)
    · replace h := h.1 c
      exact bk_X12_readsEdge_57 G hG X hX C Q l1 v5 v6 I7 J7 h
    · replace h := h.2 c
      refine wz_aload_n C rfl rfl dX12_readsEdge_52 ?_
      refine wz_iconst C dX12_readsEdge_53 ?_
      refine wm_callV C (o := 0) (As := [.int (iZ 3)]) (st := []) (a' := 0) (b' := 0) rfl rfl (k_X12_wrong G hG 3 I7 J7 _ h) 1 gX12_readsEdge_X12_wrong rfl (by decide +kernel) (by rw [hX]; exact ⟨Nat.le_of_ble_eq_true rfl, Nat.le_of_ble_eq_true rfl⟩) rfl (Nat.le_of_ble_eq_true rfl) rfl rfl rfl dX12_readsEdge_54 (kk_sV (fun I10 J10 h => ?_))
      exact bk_X12_readsEdge_57 G hG X hX C Q l1 v5 v6 I10 J10 h
set_option maxHeartbeats 4000000 in
set_option maxRecDepth 100000 in
theorem bk_X12_readsEdge_19 (G : KG) (hG : Kok G) (X : KX) (hX : KR X = rm_X12_readsEdge) (C : Fr G X cX12_readsEdge 5 yX12_readsEdge.cls none wsX12_readsEdge) (Q : Ii → Jj → Prop) (l1 : Int) (I : Ii) (J : Jj) (h : B_X12_readsEdge_19 Q l1 I J) : Wz G X 5 (QsU G X (QsV Q)) 0 0 19 [some (.ref (kadr G 0)), some (.int (iZ l1)), none, none, none] [] I J := by
  unfold B_X12_readsEdge_19 at h
  refine wz_aload_n C rfl rfl dX12_readsEdge_19 ?_
  refine wm_callV C (o := 0) (As := []) (st := []) (a' := 0) (b' := 0) rfl rfl (k_X12_isGood G hG I J _ h) 0 gX12_readsEdge_X12_isGood rfl (by decide +kernel) (by rw [hX]; exact ⟨Nat.le_of_ble_eq_true rfl, Nat.le_of_ble_eq_true rfl⟩) rfl (Nat.le_of_ble_eq_true rfl) rfl rfl rfl dX12_readsEdge_20 (kk_sB (fun v3 I3 J3 hb3 h => ?_))
  refine wz_if_eq C (tgt := 30) (rgB hb3) dX12_readsEdge_23 (by decide) (fun c => ?_) (fun c => ?_)
  · replace h := h.1 c
    exact bk_X12_readsEdge_30 G hG X hX C Q l1 I3 J3 h
  · replace h := h.2 c
    refine wz_aload_n C rfl rfl dX12_readsEdge_26 ?_
    refine wm_callV C (o := 0) (As := []) (st := []) (a' := 0) (b' := 0) rfl rfl (k_X12_goOn G hG I3 J3 _ h) 0 gX12_readsEdge_X12_goOn rfl (by decide +kernel) (by rw [hX]; exact ⟨Nat.le_of_ble_eq_true rfl, Nat.le_of_ble_eq_true rfl⟩) rfl (Nat.le_of_ble_eq_true rfl) rfl rfl rfl dX12_readsEdge_27 (kk_sV (fun I4 J4 h => ?_))
    exact bk_X12_readsEdge_30 G hG X hX C Q l1 I4 J4 h
set_option maxHeartbeats 4000000 in
set_option maxRecDepth 100000 in
theorem k_X12_readsEdge (G : KG) (hG : Kok G) (I : Ii) (J : Jj) (Q : Ii → Jj → Prop) (h : wp_X12_readsEdge I J Q) : Ctr G yX12_readsEdge wsX12_readsEdge rm_X12_readsEdge [.ref (kadr G 0)] (I, J) (QsV Q) := by
  unfold wp_X12_readsEdge at h
  skip
  refine Ctr.ofZ (cc := cX12_readsEdge) (nL := 5) (ret := none) [some (.ref (kadr G 0)), none, none, none, none] hG (by decide +kernel) rfl (Nat.le_of_ble_eq_true rfl) (Nat.le_of_ble_eq_true rfl) (by simp [lvA, lv_args, Value.category]) ?_
  intro X hX C
  refine wz_aload_n C rfl rfl dX12_readsEdge_0 ?_
  refine wz_getR C (j := 2) f_X12_readsEdge_26 rfl dX12_readsEdge_1 ?_
  refine wz_iconst C dX12_readsEdge_4 ?_
  refine wz_iaload C 1 (n := 350) rfl rfl (by decide) (by decide) rfl dX12_readsEdge_5 ?_
  refine wz_istore_1 C rfl dX12_readsEdge_6 ?_
  refine wz_iload_n C rfl rfl dX12_readsEdge_7 ?_
  refine wz_bipush C (by decide) dX12_readsEdge_8 ?_
  obtain ⟨g1, h⟩ := h
  refine wz_icmp_ne C (tgt := 19) g1 (by decide) dX12_readsEdge_10 (by decide) (fun c => ?_) (fun c => ?_)
  · replace h := h.1 c
    exact bk_X12_readsEdge_19 G hG X hX C Q (I 2 1) I J h
  · replace h := h.2 c
    refine wz_aload_n C rfl rfl dX12_readsEdge_13 ?_
    refine wz_bipush C (by decide) dX12_readsEdge_14 ?_
    refine wm_callV C (o := 0) (As := [.int (iZ 6)]) (st := []) (a' := 0) (b' := 0) rfl rfl (k_X12_wrong G hG 6 I J _ h) 1 gX12_readsEdge_X12_wrong rfl (by decide +kernel) (by rw [hX]; exact ⟨Nat.le_of_ble_eq_true rfl, Nat.le_of_ble_eq_true rfl⟩) rfl (Nat.le_of_ble_eq_true rfl) rfl rfl rfl dX12_readsEdge_16 (kk_sV (fun I2 J2 h => ?_))
    exact bk_X12_readsEdge_19 G hG X hX C Q (I 2 1) I2 J2 h
theorem in_X12_readsOnce_X12 : ∀ w ∈ wsX120, w ∈ wsX12_readsOnce := by decide +kernel
theorem f_X12_readsOnce_196 : FLk wsX12_readsOnce RX12 196 12 25 := flk 12 25 rfl tyX12_ok nmX12 in_X12_readsOnce_X12 (by decide) (by decide +kernel)
theorem fp_X12_25 : FPk 12 25 .int := fun C9 T9 N9 h => by
  have h : some (RX12, TX12, 48) = some (C9, T9, N9) := h
  cases h
  exact ⟨rfl, by decide +kernel⟩
theorem f_X12_readsOnce_26 : FLk wsX12_readsOnce RX12 26 12 15 := flk 12 15 rfl tyX12_ok nmX12 in_X12_readsOnce_X12 (by decide) (by decide +kernel)
def rm_X12_readsOnce : Room := { frames := 3, cells := 0, slots := 0, locals := 66 }
set_option maxHeartbeats 4000000 in
set_option maxRecDepth 100000 in
theorem bk_X12_readsOnce_39 (G : KG) (hG : Kok G) (X : KX) (hX : KR X = rm_X12_readsOnce) (C : Fr G X cX12_readsOnce 5 yX12_readsOnce.cls none wsX12_readsOnce) (l1 : Int) (l2 : Int) (l3 : Int) (Q : Ii → Jj → Prop)  (I : Ii) (J : Jj) (h : B_X12_readsOnce_39 l1 l2 l3 Q  I J) : Wz G X 5 (QsU G X (QsV Q)) 0 0 39 [some (.ref (kadr G 0)), some (.int (iZ l1)), some (.int (iZ l2)), some (.int (iZ l3)), none] [] I J := by
  unfold B_X12_readsOnce_39 at h
  refine wz_aload_n C rfl rfl dX12_readsOnce_39 ?_
  refine wz_iload_n C rfl rfl dX12_readsOnce_40 ?_
  refine wz_iload_n C rfl rfl dX12_readsOnce_41 ?_
  refine wm_callV C (o := 0) (As := [.int (iZ l2), .int (iZ l3)]) (st := []) (a' := 0) (b' := 0) rfl rfl (k_X12_number G hG l2 l3 I J _ h) 2 gX12_readsOnce_X12_number rfl (by decide +kernel) (by rw [hX]; exact ⟨Nat.le_of_ble_eq_true rfl, Nat.le_of_ble_eq_true rfl⟩) rfl (Nat.le_of_ble_eq_true rfl) rfl rfl rfl dX12_readsOnce_42 (kk_sI (fun v6 I6 J6 h => ?_))
  refine wz_istore_4 C rfl dX12_readsOnce_45 ?_
  refine wz_aload_n C rfl rfl dX12_readsOnce_47 ?_
  refine wm_callV C (o := 0) (As := []) (st := []) (a' := 0) (b' := 0) rfl rfl (k_X12_isGood G hG I6 J6 _ h) 0 gX12_readsOnce_X12_isGood rfl (by decide +kernel) (by rw [hX]; exact ⟨Nat.le_of_ble_eq_true rfl, Nat.le_of_ble_eq_true rfl⟩) rfl (Nat.le_of_ble_eq_true rfl) rfl rfl rfl dX12_readsOnce_48 (kk_sB (fun v7 I7 J7 hb7 h => ?_))
  refine wz_if_eq C (tgt := 62) (rgB hb7) dX12_readsOnce_51 (by decide) (fun c => ?_) (fun c => ?_)
  · replace h := h.1 c
    exact wz_vret C dX12_readsOnce_62 ⟨rfl, h⟩
  · replace h := h.2 c
    refine wz_aload_n C rfl rfl dX12_readsOnce_54 ?_
    refine wz_getR C (j := 2) f_X12_readsOnce_26 rfl dX12_readsOnce_55 ?_
    refine wz_iload_n C rfl rfl dX12_readsOnce_58 ?_
    refine wz_iload C rfl dX12_readsOnce_59 ?_
    obtain ⟨g8, h⟩ := h
    refine wd_iastore C l1.toNat (n := 350) rfl (zN g8) (zL g8) (by decide) dX12_readsOnce_61 (fun I9 e => ?_)
    replace h := h I9 e
    exact wz_vret C dX12_readsOnce_62 ⟨rfl, h⟩
set_option maxHeartbeats 4000000 in
set_option maxRecDepth 100000 in
theorem bk_X12_readsOnce_16 (G : KG) (hG : Kok G) (X : KX) (hX : KR X = rm_X12_readsOnce) (C : Fr G X cX12_readsOnce 5 yX12_readsOnce.cls none wsX12_readsOnce) (l1 : Int) (l2 : Int) (l3 : Int) (Q : Ii → Jj → Prop)  (I : Ii) (J : Jj) (h : B_X12_readsOnce_16 l1 l2 l3 Q  I J) : Wz G X 5 (QsU G X (QsV Q)) 0 0 16 [some (.ref (kadr G 0)), some (.int (iZ l1)), some (.int (iZ l2)), some (.int (iZ l3)), none] [] I J := by
  unfold B_X12_readsOnce_16 at h
  refine wz_aload_n C rfl rfl dX12_readsOnce_16 ?_
  refine wz_dup C rfl dX12_readsOnce_17 ?_
  refine wz_getI C rfl f_X12_readsOnce_196 rfl dX12_readsOnce_18 ?_
  refine wz_iconst C dX12_readsOnce_21 ?_
  refine wz_iload_n C rfl rfl dX12_readsOnce_22 ?_
  refine wd_ishl C dX12_readsOnce_23 ?_
  refine wd_ior C dX12_readsOnce_24 ?_
  refine wd_putI C f_X12_readsOnce_196 fp_X12_25 rfl dX12_readsOnce_25 (fun I3 e => ?_)
  replace h := h I3 e
  refine wz_aload_n C rfl rfl dX12_readsOnce_28 ?_
  refine wm_callV C (o := 0) (As := []) (st := []) (a' := 0) (b' := 0) rfl rfl (k_X12_isGood G hG I3 J _ h) 0 gX12_readsOnce_X12_isGood rfl (by decide +kernel) (by rw [hX]; exact ⟨Nat.le_of_ble_eq_true rfl, Nat.le_of_ble_eq_true rfl⟩) rfl (Nat.le_of_ble_eq_true rfl) rfl rfl rfl dX12_readsOnce_29 (kk_sB (fun v4 I4 J4 hb4 h => ?_))
  refine wz_if_eq C (tgt := 39) (rgB hb4) dX12_readsOnce_32 (by decide) (fun c => ?_) (fun c => ?_)
  · replace h := h.1 c
    exact bk_X12_readsOnce_39 G hG X hX C l1 l2 l3 Q I4 J4 h
  · replace h := h.2 c
    refine wz_aload_n C rfl rfl dX12_readsOnce_35 ?_
    refine wm_callV C (o := 0) (As := []) (st := []) (a' := 0) (b' := 0) rfl rfl (k_X12_goOn G hG I4 J4 _ h) 0 gX12_readsOnce_X12_goOn rfl (by decide +kernel) (by rw [hX]; exact ⟨Nat.le_of_ble_eq_true rfl, Nat.le_of_ble_eq_true rfl⟩) rfl (Nat.le_of_ble_eq_true rfl) rfl rfl rfl dX12_readsOnce_36 (kk_sV (fun I5 J5 h => ?_))
    exact bk_X12_readsOnce_39 G hG X hX C l1 l2 l3 Q I5 J5 h
set_option maxHeartbeats 4000000 in
set_option maxRecDepth 100000 in
theorem k_X12_readsOnce (G : KG) (hG : Kok G) (l1 : Int) (l2 : Int) (l3 : Int) (I : Ii) (J : Jj) (Q : Ii → Jj → Prop) (h : wp_X12_readsOnce l1 l2 l3 I J Q) : Ctr G yX12_readsOnce wsX12_readsOnce rm_X12_readsOnce [.ref (kadr G 0), .int (iZ l1), .int (iZ l2), .int (iZ l3)] (I, J) (QsV Q) := by
  unfold wp_X12_readsOnce at h
  skip
  refine Ctr.ofZ (cc := cX12_readsOnce) (nL := 5) (ret := none) [some (.ref (kadr G 0)), some (.int (iZ l1)), some (.int (iZ l2)), some (.int (iZ l3)), none] hG (by decide +kernel) rfl (Nat.le_of_ble_eq_true rfl) (Nat.le_of_ble_eq_true rfl) (by simp [lvA, lv_args, Value.category]) ?_
  intro X hX C
  refine wz_aload_n C rfl rfl dX12_readsOnce_0 ?_
  refine wz_getI C rfl f_X12_readsOnce_196 rfl dX12_readsOnce_1 ?_
  refine wz_iload_n C rfl rfl dX12_readsOnce_4 ?_
  refine wm_callS C (As := [.int (iZ (I 0 25)), .int (iZ l1)]) (st := []) (a' := 0) (b' := 0) (k_X12_hasBit G hG (I 0 25) l1 I J _ h) 2 gX12_readsOnce_X12_hasBit rfl (by decide +kernel) (by rw [hX]; exact ⟨Nat.le_of_ble_eq_true rfl, Nat.le_of_ble_eq_true rfl⟩) rfl (Nat.le_of_ble_eq_true rfl) rfl rfl rfl dX12_readsOnce_5 (kk_sB (fun v1 I1 J1 hb1 h => ?_))
  refine wz_if_eq C (tgt := 16) (rgB hb1) dX12_readsOnce_8 (by decide) (fun c => ?_) (fun c => ?_)
  · replace h := h.1 c
    exact bk_X12_readsOnce_16 G hG X hX C l1 l2 l3 Q I1 J1 h
  · replace h := h.2 c
    refine wz_aload_n C rfl rfl dX12_readsOnce_11 ?_
    refine wz_iconst C dX12_readsOnce_12 ?_
    refine wm_callV C (o := 0) (As := [.int (iZ 4)]) (st := []) (a' := 0) (b' := 0) rfl rfl (k_X12_wrong G hG 4 I1 J1 _ h) 1 gX12_readsOnce_X12_wrong rfl (by decide +kernel) (by rw [hX]; exact ⟨Nat.le_of_ble_eq_true rfl, Nat.le_of_ble_eq_true rfl⟩) rfl (Nat.le_of_ble_eq_true rfl) rfl rfl rfl dX12_readsOnce_13 (kk_sV (fun I2 J2 h => ?_))
    exact bk_X12_readsOnce_16 G hG X hX C l1 l2 l3 Q I2 J2 h
def rm_X12_statement : Room := { frames := 4, cells := 0, slots := 0, locals := 90 }
set_option maxHeartbeats 4000000 in
set_option maxRecDepth 100000 in
theorem bk_X12_statement_101 (G : KG) (hG : Kok G) (X : KX) (hX : KR X = rm_X12_statement) (C : Fr G X cX12_statement 1 yX12_statement.cls none wsX12_statement) (Q : Ii → Jj → Prop)  (I : Ii) (J : Jj) (h : B_X12_statement_101 Q  I J) : Wz G X 1 (QsU G X (QsV Q)) 0 0 101 [some (.ref (kadr G 0))] [] I J := by
  unfold B_X12_statement_101 at h
  refine wz_aload_n C rfl rfl dX12_statement_101 ?_
  refine wz_bipush C (by decide) dX12_statement_102 ?_
  refine wm_callV C (o := 0) (As := [.int (iZ 59)]) (st := []) (a' := 0) (b' := 0) rfl rfl (k_X12_mustSign G hG 59 I J _ h) 1 gX12_statement_X12_mustSign rfl (by decide +kernel) (by rw [hX]; exact ⟨Nat.le_of_ble_eq_true rfl, Nat.le_of_ble_eq_true rfl⟩) rfl (Nat.le_of_ble_eq_true rfl) rfl rfl rfl dX12_statement_104 (kk_sV (fun I12 J12 h => ?_))
  exact wz_vret C dX12_statement_107 ⟨rfl, h⟩
set_option maxHeartbeats 4000000 in
set_option maxRecDepth 100000 in
theorem k_X12_statement (G : KG) (hG : Kok G) (I : Ii) (J : Jj) (Q : Ii → Jj → Prop) (h : wp_X12_statement I J Q) : Ctr G yX12_statement wsX12_statement rm_X12_statement [.ref (kadr G 0)] (I, J) (QsV Q) := by
  unfold wp_X12_statement at h
  skip
  refine Ctr.ofZ (cc := cX12_statement) (nL := 1) (ret := none) [some (.ref (kadr G 0))] hG (by decide +kernel) rfl (Nat.le_of_ble_eq_true rfl) (Nat.le_of_ble_eq_true rfl) (by simp [lvA, lv_args, Value.category]) ?_
  intro X hX C
  refine wz_aload_n C rfl rfl dX12_statement_0 ?_
  refine wz_ldc2_w C (v := lZ 744050872) (by decide +kernel) dX12_statement_1 ?_
  refine wm_callV C (o := 0) (As := [.long (lZ 744050872)]) (st := []) (a' := 0) (b' := 0) rfl rfl (k_X12_isWord G hG (lZ 744050872) I J _ h) 1 gX12_statement_X12_isWord rfl (by decide +kernel) (by rw [hX]; exact ⟨Nat.le_of_ble_eq_true rfl, Nat.le_of_ble_eq_true rfl⟩) rfl (Nat.le_of_ble_eq_true rfl) rfl rfl rfl dX12_statement_4 (kk_sB (fun v1 I1 J1 hb1 h => ?_))
  refine wz_if_eq C (tgt := 17) (rgB hb1) dX12_statement_7 (by decide) (fun c => ?_) (fun c => ?_)
  · replace h := h.1 c
    refine wz_aload_n C rfl rfl dX12_statement_17 ?_
    refine wz_ldc2_w C (v := lZ 168165) (by decide +kernel) dX12_statement_18 ?_
    refine wm_callV C (o := 0) (As := [.long (lZ 168165)]) (st := []) (a' := 0) (b' := 0) rfl rfl (k_X12_isWord G hG (lZ 168165) I1 J1 _ h) 1 gX12_statement_X12_isWord rfl (by decide +kernel) (by rw [hX]; exact ⟨Nat.le_of_ble_eq_true rfl, Nat.le_of_ble_eq_true rfl⟩) rfl (Nat.le_of_ble_eq_true rfl) rfl rfl rfl dX12_statement_21 (kk_sB (fun v2 I2 J2 hb2 h => ?_))
    refine wz_if_eq C (tgt := 34) (rgB hb2) dX12_statement_24 (by decide) (fun c => ?_) (fun c => ?_)
    · replace h := h.1 c
      refine wz_aload_n C rfl rfl dX12_statement_34 ?_
      refine wz_ldc2_w C (v := lZ 16829075) (by decide +kernel) dX12_statement_35 ?_
      refine wm_callV C (o := 0) (As := [.long (lZ 16829075)]) (st := []) (a' := 0) (b' := 0) rfl rfl (k_X12_isWord G hG (lZ 16829075) I2 J2 _ h) 1 gX12_statement_X12_isWord rfl (by decide +kernel) (by rw [hX]; exact ⟨Nat.le_of_ble_eq_true rfl, Nat.le_of_ble_eq_true rfl⟩) rfl (Nat.le_of_ble_eq_true rfl) rfl rfl rfl dX12_statement_38 (kk_sB (fun v3 I3 J3 hb3 h => ?_))
      refine wz_if_eq C (tgt := 54) (rgB hb3) dX12_statement_41 (by decide) (fun c => ?_) (fun c => ?_)
      · replace h := h.1 c
        refine wz_aload_n C rfl rfl dX12_statement_54 ?_
        refine wz_ldc2_w C (v := lZ 20317291) (by decide +kernel) dX12_statement_55 ?_
        refine wm_callV C (o := 0) (As := [.long (lZ 20317291)]) (st := []) (a' := 0) (b' := 0) rfl rfl (k_X12_isWord G hG (lZ 20317291) I3 J3 _ h) 1 gX12_statement_X12_isWord rfl (by decide +kernel) (by rw [hX]; exact ⟨Nat.le_of_ble_eq_true rfl, Nat.le_of_ble_eq_true rfl⟩) rfl (Nat.le_of_ble_eq_true rfl) rfl rfl rfl dX12_statement_58 (kk_sB (fun v4 I4 J4 hb4 h => ?_))
        refine wz_if_eq C (tgt := 75) (rgB hb4) dX12_statement_61 (by decide) (fun c => ?_) (fun c => ?_)
        · replace h := h.1 c
          refine wz_aload_n C rfl rfl dX12_statement_75 ?_
          refine wz_ldc2_w C (v := lZ 119705908) (by decide +kernel) dX12_statement_76 ?_
          refine wm_callV C (o := 0) (As := [.long (lZ 119705908)]) (st := []) (a' := 0) (b' := 0) rfl rfl (k_X12_isWord G hG (lZ 119705908) I4 J4 _ h) 1 gX12_statement_X12_isWord rfl (by decide +kernel) (by rw [hX]; exact ⟨Nat.le_of_ble_eq_true rfl, Nat.le_of_ble_eq_true rfl⟩) rfl (Nat.le_of_ble_eq_true rfl) rfl rfl rfl dX12_statement_79 (kk_sB (fun v5 I5 J5 hb5 h => ?_))
          refine wz_if_eq C (tgt := 96) (rgB hb5) dX12_statement_82 (by decide) (fun c => ?_) (fun c => ?_)
          · replace h := h.1 c
            refine wz_aload_n C rfl rfl dX12_statement_96 ?_
            refine wz_iconst C dX12_statement_97 ?_
            refine wm_callV C (o := 0) (As := [.int (iZ 1)]) (st := []) (a' := 0) (b' := 0) rfl rfl (k_X12_wrong G hG 1 I5 J5 _ h) 1 gX12_statement_X12_wrong rfl (by decide +kernel) (by rw [hX]; exact ⟨Nat.le_of_ble_eq_true rfl, Nat.le_of_ble_eq_true rfl⟩) rfl (Nat.le_of_ble_eq_true rfl) rfl rfl rfl dX12_statement_98 (kk_sV (fun I6 J6 h => ?_))
            exact bk_X12_statement_101 G hG X hX C Q I6 J6 h
          · replace h := h.2 c
            refine wz_aload_n C rfl rfl dX12_statement_85 ?_
            refine wz_iconst C dX12_statement_86 ?_
            refine wz_iconst C dX12_statement_87 ?_
            refine wz_bipush C (by decide) dX12_statement_88 ?_
            refine wm_callV C (o := 0) (As := [.int (iZ 4), .int (iZ 0), .int (iZ 99)]) (st := []) (a' := 0) (b' := 0) rfl rfl (k_X12_readsOnce G hG 4 0 99 I5 J5 _ h) 3 gX12_statement_X12_readsOnce rfl (by decide +kernel) (by rw [hX]; exact ⟨Nat.le_of_ble_eq_true rfl, Nat.le_of_ble_eq_true rfl⟩) rfl (Nat.le_of_ble_eq_true rfl) rfl rfl rfl dX12_statement_90 (kk_sV (fun I7 J7 h => ?_))
            refine wz_goto C dX12_statement_93 (tgt := 101) (by decide) ?_
            exact bk_X12_statement_101 G hG X hX C Q I7 J7 h
        · replace h := h.2 c
          refine wz_aload_n C rfl rfl dX12_statement_64 ?_
          refine wz_iconst C dX12_statement_65 ?_
          refine wz_iconst C dX12_statement_66 ?_
          refine wz_bipush C (by decide) dX12_statement_67 ?_
          refine wm_callV C (o := 0) (As := [.int (iZ 3), .int (iZ 0), .int (iZ 99)]) (st := []) (a' := 0) (b' := 0) rfl rfl (k_X12_readsOnce G hG 3 0 99 I4 J4 _ h) 3 gX12_statement_X12_readsOnce rfl (by decide +kernel) (by rw [hX]; exact ⟨Nat.le_of_ble_eq_true rfl, Nat.le_of_ble_eq_true rfl⟩) rfl (Nat.le_of_ble_eq_true rfl) rfl rfl rfl dX12_statement_69 (kk_sV (fun I8 J8 h => ?_))
          refine wz_goto C dX12_statement_72 (tgt := 101) (by decide) ?_
          exact bk_X12_statement_101 G hG X hX C Q I8 J8 h
      · replace h := h.2 c
        refine wz_aload_n C rfl rfl dX12_statement_44 ?_
        refine wz_iconst C dX12_statement_45 ?_
        refine wz_iconst C dX12_statement_46 ?_
        refine wz_iconst C dX12_statement_47 ?_
        refine wm_callV C (o := 0) (As := [.int (iZ 2), .int (iZ 2), .int (iZ 4)]) (st := []) (a' := 0) (b' := 0) rfl rfl (k_X12_readsOnce G hG 2 2 4 I3 J3 _ h) 3 gX12_statement_X12_readsOnce rfl (by decide +kernel) (by rw [hX]; exact ⟨Nat.le_of_ble_eq_true rfl, Nat.le_of_ble_eq_true rfl⟩) rfl (Nat.le_of_ble_eq_true rfl) rfl rfl rfl dX12_statement_48 (kk_sV (fun I9 J9 h => ?_))
        refine wz_goto C dX12_statement_51 (tgt := 101) (by decide) ?_
        exact bk_X12_statement_101 G hG X hX C Q I9 J9 h
    · replace h := h.2 c
      refine wz_aload_n C rfl rfl dX12_statement_27 ?_
      refine wm_callV C (o := 0) (As := []) (st := []) (a' := 0) (b' := 0) rfl rfl (k_X12_readsEdge G hG I2 J2 _ h) 0 gX12_statement_X12_readsEdge rfl (by decide +kernel) (by rw [hX]; exact ⟨Nat.le_of_ble_eq_true rfl, Nat.le_of_ble_eq_true rfl⟩) rfl (Nat.le_of_ble_eq_true rfl) rfl rfl rfl dX12_statement_28 (kk_sV (fun I10 J10 h => ?_))
      refine wz_goto C dX12_statement_31 (tgt := 101) (by decide) ?_
      exact bk_X12_statement_101 G hG X hX C Q I10 J10 h
  · replace h := h.2 c
    refine wz_aload_n C rfl rfl dX12_statement_10 ?_
    refine wm_callV C (o := 0) (As := []) (st := []) (a' := 0) (b' := 0) rfl rfl (k_X12_readsVertex G hG I1 J1 _ h) 0 gX12_statement_X12_readsVertex rfl (by decide +kernel) (by rw [hX]; exact ⟨Nat.le_of_ble_eq_true rfl, Nat.le_of_ble_eq_true rfl⟩) rfl (Nat.le_of_ble_eq_true rfl) rfl rfl rfl dX12_statement_11 (kk_sV (fun I11 J11 h => ?_))
    refine wz_goto C dX12_statement_14 (tgt := 101) (by decide) ?_
    exact bk_X12_statement_101 G hG X hX C Q I11 J11 h
theorem in_X12_readText_X12 : ∀ w ∈ wsX120, w ∈ wsX12_readText := by decide +kernel
theorem f_X12_readText_196 : FLk wsX12_readText RX12 196 12 25 := flk 12 25 rfl tyX12_ok nmX12 in_X12_readText_X12 (by decide) (by decide +kernel)
theorem f_X12_readText_48 : FLk wsX12_readText RX12 48 12 22 := flk 12 22 rfl tyX12_ok nmX12 in_X12_readText_X12 (by decide) (by decide +kernel)
theorem f_X12_readText_41 : FLk wsX12_readText RX12 41 12 20 := flk 12 20 rfl tyX12_ok nmX12 in_X12_readText_X12 (by decide) (by decide +kernel)
theorem f_X12_readText_132 : FLk wsX12_readText RX12 132 12 6 := flk 12 6 rfl tyX12_ok nmX12 in_X12_readText_X12 (by decide) (by decide +kernel)
theorem f_X12_readText_166 : FLk wsX12_readText RX12 166 12 23 := flk 12 23 rfl tyX12_ok nmX12 in_X12_readText_X12 (by decide) (by decide +kernel)
theorem f_X12_readText_26 : FLk wsX12_readText RX12 26 12 15 := flk 12 15 rfl tyX12_ok nmX12 in_X12_readText_X12 (by decide) (by decide +kernel)
theorem f_X12_readText_35 : FLk wsX12_readText RX12 35 12 18 := flk 12 18 rfl tyX12_ok nmX12 in_X12_readText_X12 (by decide) (by decide +kernel)
def rm_X12_readText : Room := { frames := 5, cells := 0, slots := 0, locals := 110 }
set_option maxHeartbeats 4000000 in
set_option maxRecDepth 100000 in
theorem lk_X12_readText_100 (G : KG) (hG : Kok G) (X : KX) (hX : KR X = rm_X12_readText) (C : Fr G X cX12_readText 2 yX12_readText.cls (some .int) wsX12_readText) (Q : Int → Ii → Jj → Prop) : ∀ (n : Nat) (l1 : Int) (I : Ii) (J : Jj), L_X12_readText_100 Q n l1 I J → Wz G X 2 (QsU G X (QsI Q)) 0 0 100 [some (.ref (kadr G 0)), some (.int (iZ l1))] [] I J := by
  intro n
  induction n with
  | zero => intro l1 I J h; exact False.elim h
  | succ n w100 =>
    intro l1 I J h
    have h : Lb_X12_readText_100 Q (L_X12_readText_100 Q n) l1 I J := h
    unfold Lb_X12_readText_100 at h
    generalize L_X12_readText_100 Q n = r100 at h w100
    refine wz_iload_n C rfl rfl dX12_readText_100 ?_
    refine wz_bipush C (by decide) dX12_readText_101 ?_
    obtain ⟨g18, h⟩ := h
    refine wz_icmp_ge C (tgt := 124) g18 (by decide) dX12_readText_103 (by decide) (fun c => ?_) (fun c => ?_)
    · replace h := h.1 c
      refine wz_iconst C dX12_readText_124 ?_
      exact wz_iret C dX12_readText_125 ⟨_, rfl, h⟩
    · replace h := h.2 c
      refine wz_aload_n C rfl rfl dX12_readText_106 ?_
      refine wz_getR C (j := 7) f_X12_readText_41 rfl dX12_readText_107 ?_
      refine wz_iload_n C rfl rfl dX12_readText_110 ?_
      refine wz_aload_n C rfl rfl dX12_readText_111 ?_
      refine wz_getR C (j := 9) f_X12_readText_48 rfl dX12_readText_112 ?_
      refine wz_iload_n C rfl rfl dX12_readText_115 ?_
      obtain ⟨g19, h⟩ := h
      refine wz_laload C l1.toNat (n := 14) rfl (zN g19) (zL g19) (by decide) rfl dX12_readText_116 ?_
      obtain ⟨g20, h⟩ := h
      refine wd_lastore C l1.toNat (n := 14) rfl (zN g20) (zL g20) (by decide) dX12_readText_117 (fun J21 e => ?_)
      replace h := h J21 e
      refine wz_iinc_1 C rfl dX12_readText_118 ?_
      refine wz_goto C dX12_readText_121 (tgt := 100) (by decide) ?_
      exact w100 (l1 + 1) I J21 h
set_option maxHeartbeats 4000000 in
set_option maxRecDepth 100000 in
theorem lk_X12_readText_73 (G : KG) (hG : Kok G) (X : KX) (hX : KR X = rm_X12_readText) (C : Fr G X cX12_readText 2 yX12_readText.cls (some .int) wsX12_readText) (Q : Int → Ii → Jj → Prop) : ∀ (n : Nat) (l1 : Int) (I : Ii) (J : Jj), L_X12_readText_73 Q n l1 I J → Wz G X 2 (QsU G X (QsI Q)) 0 0 73 [some (.ref (kadr G 0)), some (.int (iZ l1))] [] I J := by
  intro n
  induction n with
  | zero => intro l1 I J h; exact False.elim h
  | succ n w73 =>
    intro l1 I J h
    have h : Lb_X12_readText_73 Q (L_X12_readText_73 Q n) l1 I J := h
    unfold Lb_X12_readText_73 at h
    generalize L_X12_readText_73 Q n = r73 at h w73
    refine wz_iload_n C rfl rfl dX12_readText_73 ?_
    refine wz_sipush C (by decide) dX12_readText_74 ?_
    obtain ⟨g14, h⟩ := h
    refine wz_icmp_ge C (tgt := 98) g14 (by decide) dX12_readText_77 (by decide) (fun c => ?_) (fun c => ?_)
    · replace h := h.1 c
      refine wz_iconst C dX12_readText_98 ?_
      refine wz_istore_1 C rfl dX12_readText_99 ?_
      obtain ⟨n, h⟩ := h
      exact lk_X12_readText_100 G hG X hX C Q n 0 I J h
    · replace h := h.2 c
      refine wz_aload_n C rfl rfl dX12_readText_80 ?_
      refine wz_getR C (j := 2) f_X12_readText_26 rfl dX12_readText_81 ?_
      refine wz_iload_n C rfl rfl dX12_readText_84 ?_
      refine wz_aload_n C rfl rfl dX12_readText_85 ?_
      refine wz_getR C (j := 5) f_X12_readText_35 rfl dX12_readText_86 ?_
      refine wz_iload_n C rfl rfl dX12_readText_89 ?_
      obtain ⟨g15, h⟩ := h
      refine wz_iaload C l1.toNat (n := 350) rfl (zN g15) (zL g15) (by decide) rfl dX12_readText_90 ?_
      obtain ⟨g16, h⟩ := h
      refine wd_iastore C l1.toNat (n := 350) rfl (zN g16) (zL g16) (by decide) dX12_readText_91 (fun I17 e => ?_)
      replace h := h I17 e
      refine wz_iinc_1 C rfl dX12_readText_92 ?_
      refine wz_goto C dX12_readText_95 (tgt := 73) (by decide) ?_
      exact w73 (l1 + 1) I17 J h
set_option maxHeartbeats 4000000 in
set_option maxRecDepth 100000 in
theorem bk_X12_readText_64 (G : KG) (hG : Kok G) (X : KX) (hX : KR X = rm_X12_readText) (C : Fr G X cX12_readText 2 yX12_readText.cls (some .int) wsX12_readText) (Q : Int → Ii → Jj → Prop)  (I : Ii) (J : Jj) (h : B_X12_readText_64 Q  I J) : Wz G X 2 (QsU G X (QsI Q)) 0 0 64 [some (.ref (kadr G 0)), none] [] I J := by
  unfold B_X12_readText_64 at h
  refine wz_aload_n C rfl rfl dX12_readText_64 ?_
  refine wm_callV C (o := 0) (As := []) (st := []) (a' := 0) (b' := 0) rfl rfl (k_X12_endsText G hG I J _ h) 0 gX12_readText_X12_endsText rfl (by decide +kernel) (by rw [hX]; exact ⟨Nat.le_of_ble_eq_true rfl, Nat.le_of_ble_eq_true rfl⟩) rfl (Nat.le_of_ble_eq_true rfl) rfl rfl rfl dX12_readText_65 (kk_sB (fun v12 I12 J12 hb12 h => ?_))
  refine wz_if_ne C (tgt := 126) (rgB hb12) dX12_readText_68 (by decide) (fun c => ?_) (fun c => ?_)
  · replace h := h.1 c
    refine wz_aload_n C rfl rfl dX12_readText_126 ?_
    refine wz_iconst C dX12_readText_127 ?_
    refine wd_putI C f_X12_readText_166 fp_X12_23 rfl dX12_readText_128 (fun I13 e => ?_)
    replace h := h I13 e
    refine wz_aload_n C rfl rfl dX12_readText_131 ?_
    refine wz_getR C (j := 2) f_X12_readText_26 rfl dX12_readText_132 ?_
    refine wz_iconst C dX12_readText_135 ?_
    refine wz_iaload C 0 (n := 350) rfl rfl (by decide) (by decide) rfl dX12_readText_136 ?_
    exact wz_iret C dX12_readText_137 ⟨_, rfl, h⟩
  · replace h := h.2 c
    refine wz_iconst C dX12_readText_71 ?_
    refine wz_istore_1 C rfl dX12_readText_72 ?_
    obtain ⟨n, h⟩ := h
    exact lk_X12_readText_73 G hG X hX C Q n 0 I12 J12 h
set_option maxHeartbeats 4000000 in
set_option maxRecDepth 100000 in
theorem lk_X12_readText_43 (G : KG) (hG : Kok G) (X : KX) (hX : KR X = rm_X12_readText) (C : Fr G X cX12_readText 2 yX12_readText.cls (some .int) wsX12_readText) (Q : Int → Ii → Jj → Prop) : ∀ (n : Nat)  (I : Ii) (J : Jj), L_X12_readText_43 Q n  I J → Wz G X 2 (QsU G X (QsI Q)) 0 0 43 [some (.ref (kadr G 0)), none] [] I J := by
  intro n
  induction n with
  | zero => intro  I J h; exact False.elim h
  | succ n w43 =>
    intro  I J h
    have h : Lb_X12_readText_43 Q (L_X12_readText_43 Q n)  I J := h
    unfold Lb_X12_readText_43 at h
    generalize L_X12_readText_43 Q n = r43 at h w43
    refine wz_aload_n C rfl rfl dX12_readText_43 ?_
    refine wm_callV C (o := 0) (As := []) (st := []) (a' := 0) (b' := 0) rfl rfl (k_X12_isGood G hG I J _ h) 0 gX12_readText_X12_isGood rfl (by decide +kernel) (by rw [hX]; exact ⟨Nat.le_of_ble_eq_true rfl, Nat.le_of_ble_eq_true rfl⟩) rfl (Nat.le_of_ble_eq_true rfl) rfl rfl rfl dX12_readText_44 (kk_sB (fun v9 I9 J9 hb9 h => ?_))
    refine wz_if_eq C (tgt := 64) (rgB hb9) dX12_readText_47 (by decide) (fun c => ?_) (fun c => ?_)
    · replace h := h.1 c
      exact bk_X12_readText_64 G hG X hX C Q I9 J9 h
    · replace h := h.2 c
      refine wz_aload_n C rfl rfl dX12_readText_50 ?_
      refine wz_getI C rfl f_X12_readText_132 rfl dX12_readText_51 ?_
      obtain ⟨g10, h⟩ := h
      refine wz_if_eq C (tgt := 64) g10 dX12_readText_54 (by decide) (fun c => ?_) (fun c => ?_)
      · replace h := h.1 c
        exact bk_X12_readText_64 G hG X hX C Q I9 J9 h
      · replace h := h.2 c
        refine wz_aload_n C rfl rfl dX12_readText_57 ?_
        refine wm_callV C (o := 0) (As := []) (st := []) (a' := 0) (b' := 0) rfl rfl (k_X12_statement G hG I9 J9 _ h) 0 gX12_readText_X12_statement rfl (by decide +kernel) (by rw [hX]; exact ⟨Nat.le_of_ble_eq_true rfl, Nat.le_of_ble_eq_true rfl⟩) rfl (Nat.le_of_ble_eq_true rfl) rfl rfl rfl dX12_readText_58 (kk_sV (fun I11 J11 h => ?_))
        refine wz_goto C dX12_readText_61 (tgt := 43) (by decide) ?_
        exact w43 I11 J11 h
set_option maxHeartbeats 4000000 in
set_option maxRecDepth 100000 in
theorem lk_X12_readText_10 (G : KG) (hG : Kok G) (X : KX) (hX : KR X = rm_X12_readText) (C : Fr G X cX12_readText 2 yX12_readText.cls (some .int) wsX12_readText) (Q : Int → Ii → Jj → Prop) : ∀ (n : Nat) (l1 : Int) (I : Ii) (J : Jj), L_X12_readText_10 Q n l1 I J → Wz G X 2 (QsU G X (QsI Q)) 0 0 10 [some (.ref (kadr G 0)), some (.int (iZ l1))] [] I J := by
  intro n
  induction n with
  | zero => intro l1 I J h; exact False.elim h
  | succ n w10 =>
    intro l1 I J h
    have h : Lb_X12_readText_10 Q (L_X12_readText_10 Q n) l1 I J := h
    unfold Lb_X12_readText_10 at h
    generalize L_X12_readText_10 Q n = r10 at h w10
    refine wz_iload_n C rfl rfl dX12_readText_10 ?_
    refine wz_bipush C (by decide) dX12_readText_11 ?_
    obtain ⟨g3, h⟩ := h
    refine wz_icmp_ge C (tgt := 34) g3 (by decide) dX12_readText_13 (by decide) (fun c => ?_) (fun c => ?_)
    · replace h := h.1 c
      refine wz_aload_n C rfl rfl dX12_readText_34 ?_
      refine wm_callV C (o := 0) (As := []) (st := []) (a' := 0) (b' := 0) rfl rfl (k_X12_clears G hG I J _ h) 0 gX12_readText_X12_clears rfl (by decide +kernel) (by rw [hX]; exact ⟨Nat.le_of_ble_eq_true rfl, Nat.le_of_ble_eq_true rfl⟩) rfl (Nat.le_of_ble_eq_true rfl) rfl rfl rfl dX12_readText_35 (kk_sV (fun I4 J4 h => ?_))
      refine wz_aload_n C rfl rfl dX12_readText_38 ?_
      refine wz_iconst C dX12_readText_39 ?_
      refine wd_putI C f_X12_readText_196 fp_X12_25 rfl dX12_readText_40 (fun I5 e => ?_)
      replace h := h I5 e
      obtain ⟨n, h⟩ := h
      exact Wz.drop (lk_X12_readText_43 G hG X hX C Q n I5 J4 h) (And.intro rfl trivial)
    · replace h := h.2 c
      refine wz_aload_n C rfl rfl dX12_readText_16 ?_
      refine wz_getR C (j := 9) f_X12_readText_48 rfl dX12_readText_17 ?_
      refine wz_iload_n C rfl rfl dX12_readText_20 ?_
      refine wz_aload_n C rfl rfl dX12_readText_21 ?_
      refine wz_getR C (j := 7) f_X12_readText_41 rfl dX12_readText_22 ?_
      refine wz_iload_n C rfl rfl dX12_readText_25 ?_
      obtain ⟨g6, h⟩ := h
      refine wz_laload C l1.toNat (n := 14) rfl (zN g6) (zL g6) (by decide) rfl dX12_readText_26 ?_
      obtain ⟨g7, h⟩ := h
      refine wd_lastore C l1.toNat (n := 14) rfl (zN g7) (zL g7) (by decide) dX12_readText_27 (fun J8 e => ?_)
      replace h := h J8 e
      refine wz_iinc_1 C rfl dX12_readText_28 ?_
      refine wz_goto C dX12_readText_31 (tgt := 10) (by decide) ?_
      exact w10 (l1 + 1) I J8 h
set_option maxHeartbeats 4000000 in
set_option maxRecDepth 100000 in
theorem k_X12_readText (G : KG) (hG : Kok G) (I : Ii) (J : Jj) (Q : Int → Ii → Jj → Prop) (h : wp_X12_readText I J Q) : Ctr G yX12_readText wsX12_readText rm_X12_readText [.ref (kadr G 0)] (I, J) (QsI Q) := by
  unfold wp_X12_readText at h
  skip
  refine Ctr.ofZ (cc := cX12_readText) (nL := 2) (ret := (some .int)) [some (.ref (kadr G 0)), none] hG (by decide +kernel) rfl (Nat.le_of_ble_eq_true rfl) (Nat.le_of_ble_eq_true rfl) (by simp [lvA, lv_args, Value.category]) ?_
  intro X hX C
  refine wz_aload_n C rfl rfl dX12_readText_0 ?_
  refine wm_callV C (o := 0) (As := []) (st := []) (a' := 0) (b' := 0) rfl rfl (k_X12_beginsText G hG I J _ h) 0 gX12_readText_X12_beginsText rfl (by decide +kernel) (by rw [hX]; exact ⟨Nat.le_of_ble_eq_true rfl, Nat.le_of_ble_eq_true rfl⟩) rfl (Nat.le_of_ble_eq_true rfl) rfl rfl rfl dX12_readText_1 (kk_sV (fun I1 J1 h => ?_))
  refine wz_aload_n C rfl rfl dX12_readText_4 ?_
  refine wm_callV C (o := 0) (As := []) (st := []) (a' := 0) (b' := 0) rfl rfl (k_X12_laysAside G hG I1 J1 _ h) 0 gX12_readText_X12_laysAside rfl (by decide +kernel) (by rw [hX]; exact ⟨Nat.le_of_ble_eq_true rfl, Nat.le_of_ble_eq_true rfl⟩) rfl (Nat.le_of_ble_eq_true rfl) rfl rfl rfl dX12_readText_5 (kk_sV (fun I2 J2 h => ?_))
  refine wz_iconst C dX12_readText_8 ?_
  refine wz_istore_1 C rfl dX12_readText_9 ?_
  obtain ⟨n, h⟩ := h
  exact lk_X12_readText_10 G hG X hX C Q n 0 I2 J2 h
theorem in_X12_allWeight_X12 : ∀ w ∈ wsX120, w ∈ wsX12_allWeight := by decide +kernel
theorem f_X12_allWeight_26 : FLk wsX12_allWeight RX12 26 12 15 := flk 12 15 rfl tyX12_ok nmX12 in_X12_allWeight_X12 (by decide) (by decide +kernel)
def rm_X12_allWeight : Room := { frames := 0, cells := 0, slots := 0, locals := 0 }
set_option maxHeartbeats 4000000 in
set_option maxRecDepth 100000 in
theorem lk_X12_allWeight_4 (G : KG) (hG : Kok G) (X : KX) (hX : KR X = rm_X12_allWeight) (C : Fr G X cX12_allWeight 3 yX12_allWeight.cls (some .int) wsX12_allWeight) (Q : Int → Ii → Jj → Prop) : ∀ (n : Nat) (l1 : Int) (l2 : Int) (I : Ii) (J : Jj), L_X12_allWeight_4 Q n l1 l2 I J → Wz G X 3 (QsU G X (QsI Q)) 0 0 4 [some (.ref (kadr G 0)), some (.int (iZ l1)), some (.int (iZ l2))] [] I J := by
  intro n
  induction n with
  | zero => intro l1 l2 I J h; exact False.elim h
  | succ n w4 =>
    intro l1 l2 I J h
    have h : Lb_X12_allWeight_4 Q (L_X12_allWeight_4 Q n) l1 l2 I J := h
    unfold Lb_X12_allWeight_4 at h
    generalize L_X12_allWeight_4 Q n = r4 at h w4
    refine wz_iload_n C rfl rfl dX12_allWeight_4 ?_
    refine wz_aload_n C rfl rfl dX12_allWeight_5 ?_
    refine wz_getR C (j := 2) f_X12_allWeight_26 rfl dX12_allWeight_6 ?_
    refine wz_iconst C dX12_allWeight_9 ?_
    refine wz_iaload C 0 (n := 350) rfl rfl (by decide) (by decide) rfl dX12_allWeight_10 ?_
    obtain ⟨g1, h⟩ := h
    obtain ⟨g2, h⟩ := h
    refine wz_icmp_ge C (tgt := 32) g1 g2 dX12_allWeight_11 (by decide) (fun c => ?_) (fun c => ?_)
    · replace h := h.1 c
      refine wz_iload_n C rfl rfl dX12_allWeight_32 ?_
      exact wz_iret C dX12_allWeight_33 ⟨_, rfl, h⟩
    · replace h := h.2 c
      refine wz_iload_n C rfl rfl dX12_allWeight_14 ?_
      refine wz_aload_n C rfl rfl dX12_allWeight_15 ?_
      refine wz_getR C (j := 2) f_X12_allWeight_26 rfl dX12_allWeight_16 ?_
      refine wz_bipush C (by decide) dX12_allWeight_19 ?_
      refine wz_iload_n C rfl rfl dX12_allWeight_21 ?_
      refine wz_iadd C dX12_allWeight_22 ?_
      obtain ⟨g3, h⟩ := h
      refine wz_iaload C ((7 + l2).toNat) (n := 350) rfl (zN g3) (zL g3) (by decide) rfl dX12_allWeight_23 ?_
      refine wz_iadd C dX12_allWeight_24 ?_
      refine wz_istore_1 C rfl dX12_allWeight_25 ?_
      refine wz_iinc_2 C rfl dX12_allWeight_26 ?_
      refine wz_goto C dX12_allWeight_29 (tgt := 4) (by decide) ?_
      exact w4 (l1 + (I 2 ((7 + l2).toNat))) (l2 + 1) I J h
set_option maxHeartbeats 4000000 in
set_option maxRecDepth 100000 in
theorem k_X12_allWeight (G : KG) (hG : Kok G) (I : Ii) (J : Jj) (Q : Int → Ii → Jj → Prop) (h : wp_X12_allWeight I J Q) : Ctr G yX12_allWeight wsX12_allWeight rm_X12_allWeight [.ref (kadr G 0)] (I, J) (QsI Q) := by
  unfold wp_X12_allWeight at h
  skip
  refine Ctr.ofZ (cc := cX12_allWeight) (nL := 3) (ret := (some .int)) [some (.ref (kadr G 0)), none, none] hG (by decide +kernel) rfl (Nat.le_of_ble_eq_true rfl) (Nat.le_of_ble_eq_true rfl) (by simp [lvA, lv_args, Value.category]) ?_
  intro X hX C
  refine wz_iconst C dX12_allWeight_0 ?_
  refine wz_istore_1 C rfl dX12_allWeight_1 ?_
  refine wz_iconst C dX12_allWeight_2 ?_
  refine wz_istore_2 C rfl dX12_allWeight_3 ?_
  obtain ⟨n, h⟩ := h
  exact lk_X12_allWeight_4 G hG X hX C Q n 0 0 I J h
