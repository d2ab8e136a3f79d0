theorem in_X12_keeps_X12 : ∀ w ∈ wsX120, w ∈ wsX12_keeps := by decide +kernel
theorem f_X12_keeps_166 : FLk wsX12_keeps RX12 166 12 23 := flk 12 23 rfl tyX12_ok nmX12 in_X12_keeps_X12 (by decide) (by decide +kernel)
theorem fp_X12_23 : FPk 12 23 .int := fun C9 T9 N9 h => by
  have h : some (RX12, TX12, 48) = some (C9, T9, N9) := h
  cases h
  exact ⟨rfl, by decide +kernel⟩
theorem f_X12_keeps_32 : FLk wsX12_keeps RX12 32 12 17 := flk 12 17 rfl tyX12_ok nmX12 in_X12_keeps_X12 (by decide) (by decide +kernel)
theorem f_X12_keeps_35 : FLk wsX12_keeps RX12 35 12 18 := flk 12 18 rfl tyX12_ok nmX12 in_X12_keeps_X12 (by decide) (by decide +kernel)
def rm_X12_keeps : Room := { frames := 0, cells := 0, slots := 0, locals := 0 }
set_option maxHeartbeats 4000000 in
set_option maxRecDepth 100000 in
theorem lk_X12_keeps_57 (G : KG) (hG : Kok G) (X : KX) (hX : KR X = rm_X12_keeps) (C : Fr G X cX12_keeps 2 yX12_keeps.cls none wsX12_keeps) (Q : Ii → Jj → Prop) : ∀ (n : Nat) (l1 : Int) (I : Ii) (J : Jj), L_X12_keeps_57 Q n l1 I J → Wz G X 2 (QsU G X (QsV Q)) 0 0 57 [some (.ref (kadr G 0)), some (.int (iZ l1))] [] I J := by
  intro n
  induction n with
  | zero => intro l1 I J h; exact False.elim h
  | succ n w57 =>
    intro l1 I J h
    have h : Lb_X12_keeps_57 Q (L_X12_keeps_57 Q n) l1 I J := h
    unfold Lb_X12_keeps_57 at h
    generalize L_X12_keeps_57 Q n = r57 at h w57
    refine wz_iload_n C rfl rfl dX12_keeps_57 ?_
    refine wz_sipush C (by decide) dX12_keeps_58 ?_
    obtain ⟨g3, h⟩ := h
    refine wz_icmp_ge C (tgt := 91) g3 (by decide) dX12_keeps_61 (by decide) (fun c => ?_) (fun c => ?_)
    · replace h := h.1 c
      refine wz_aload_n C rfl rfl dX12_keeps_91 ?_
      refine wz_dup C rfl dX12_keeps_92 ?_
      refine wz_getI C rfl f_X12_keeps_166 rfl dX12_keeps_93 ?_
      refine wz_iconst C dX12_keeps_96 ?_
      refine wz_iadd C dX12_keeps_97 ?_
      refine wd_putI C f_X12_keeps_166 fp_X12_23 rfl dX12_keeps_98 (fun I4 e => ?_)
      replace h := h I4 e
      exact wz_vret C dX12_keeps_101 ⟨rfl, h⟩
    · replace h := h.2 c
      refine wz_aload_n C rfl rfl dX12_keeps_64 ?_
      refine wz_getR C (j := 4) f_X12_keeps_32 rfl dX12_keeps_65 ?_
      refine wz_sipush C (by decide) dX12_keeps_68 ?_
      refine wz_aload_n C rfl rfl dX12_keeps_71 ?_
      refine wz_getI C rfl f_X12_keeps_166 rfl dX12_keeps_72 ?_
      refine wz_imul C dX12_keeps_75 ?_
      refine wz_iload_n C rfl rfl dX12_keeps_76 ?_
      refine wz_iadd C dX12_keeps_77 ?_
      refine wz_aload_n C rfl rfl dX12_keeps_78 ?_
      refine wz_getR C (j := 5) f_X12_keeps_35 rfl dX12_keeps_79 ?_
      refine wz_iload_n C rfl rfl dX12_keeps_82 ?_
      obtain ⟨g5, h⟩ := h
      refine wz_iaload C l1.toNat (n := 350) rfl (zN g5) (zL g5) (by decide) rfl dX12_keeps_83 ?_
      obtain ⟨g6, h⟩ := h
      refine wd_iastore C (((350 * (I 0 23)) + l1).toNat) (n := 2100) rfl (zN g6) (zL g6) (by decide) dX12_keeps_84 (fun I7 e => ?_)
      replace h := h I7 e
      refine wz_iinc_1 C rfl dX12_keeps_85 ?_
      refine wz_goto C dX12_keeps_88 (tgt := 57) (by decide) ?_
      exact w57 (l1 + 1) I7 J h
set_option maxHeartbeats 4000000 in
set_option maxRecDepth 100000 in
theorem lk_X12_keeps_21 (G : KG) (hG : Kok G) (X : KX) (hX : KR X = rm_X12_keeps) (C : Fr G X cX12_keeps 2 yX12_keeps.cls none wsX12_keeps) (Q : Ii → Jj → Prop) : ∀ (n : Nat) (l1 : Int) (I : Ii) (J : Jj), L_X12_keeps_21 Q n l1 I J → Wz G X 2 (QsU G X (QsV Q)) 0 0 21 [some (.ref (kadr G 0)), some (.int (iZ l1))] [] I J := by
  intro n
  induction n with
  | zero => intro l1 I J h; exact False.elim h
  | succ n w21 =>
    intro l1 I J h
    have h : Lb_X12_keeps_21 Q (L_X12_keeps_21 Q n) l1 I J := h
    unfold Lb_X12_keeps_21 at h
    generalize L_X12_keeps_21 Q n = r21 at h w21
    refine wz_iload_n C rfl rfl dX12_keeps_21 ?_
    refine wz_sipush C (by decide) dX12_keeps_22 ?_
    refine wz_aload_n C rfl rfl dX12_keeps_25 ?_
    refine wz_getI C rfl f_X12_keeps_166 rfl dX12_keeps_26 ?_
    refine wz_imul C dX12_keeps_29 ?_
    obtain ⟨g8, h⟩ := h
    obtain ⟨g9, h⟩ := h
    refine wz_icmp_ge C (tgt := 55) g8 g9 dX12_keeps_30 (by decide) (fun c => ?_) (fun c => ?_)
    · replace h := h.1 c
      refine wz_iconst C dX12_keeps_55 ?_
      refine wz_istore_1 C rfl dX12_keeps_56 ?_
      obtain ⟨n, h⟩ := h
      exact lk_X12_keeps_57 G hG X hX C Q n 0 I J h
    · replace h := h.2 c
      refine wz_aload_n C rfl rfl dX12_keeps_33 ?_
      refine wz_getR C (j := 4) f_X12_keeps_32 rfl dX12_keeps_34 ?_
      refine wz_iload_n C rfl rfl dX12_keeps_37 ?_
      refine wz_aload_n C rfl rfl dX12_keeps_38 ?_
      refine wz_getR C (j := 4) f_X12_keeps_32 rfl dX12_keeps_39 ?_
      refine wz_iload_n C rfl rfl dX12_keeps_42 ?_
      refine wz_sipush C (by decide) dX12_keeps_43 ?_
      refine wz_iadd C dX12_keeps_46 ?_
      obtain ⟨g10, h⟩ := h
      refine wz_iaload C ((l1 + 350).toNat) (n := 2100) rfl (zN g10) (zL g10) (by decide) rfl dX12_keeps_47 ?_
      obtain ⟨g11, h⟩ := h
      refine wd_iastore C l1.toNat (n := 2100) rfl (zN g11) (zL g11) (by decide) dX12_keeps_48 (fun I12 e => ?_)
      replace h := h I12 e
      refine wz_iinc_1 C rfl dX12_keeps_49 ?_
      refine wz_goto C dX12_keeps_52 (tgt := 21) (by decide) ?_
      exact w21 (l1 + 1) I12 J h
set_option maxHeartbeats 4000000 in
set_option maxRecDepth 100000 in
theorem k_X12_keeps (G : KG) (hG : Kok G) (I : Ii) (J : Jj) (Q : Ii → Jj → Prop) (h : wp_X12_keeps I J Q) : Ctr G yX12_keeps wsX12_keeps rm_X12_keeps [.ref (kadr G 0)] (I, J) (QsV Q) := by
  unfold wp_X12_keeps at h
  skip
  refine Ctr.ofZ (cc := cX12_keeps) (nL := 2) (ret := none) [some (.ref (kadr G 0)), none] hG (by decide +kernel) rfl (Nat.le_of_ble_eq_true rfl) (Nat.le_of_ble_eq_true rfl) (by simp [lvA, lv_args, Value.category]) ?_
  intro X hX C
  refine wz_aload_n C rfl rfl dX12_keeps_0 ?_
  refine wz_getI C rfl f_X12_keeps_166 rfl dX12_keeps_1 ?_
  refine wz_bipush C (by decide) dX12_keeps_4 ?_
  obtain ⟨g1, h⟩ := h
  refine wz_icmp_ne C (tgt := 55) g1 (by decide) dX12_keeps_6 (by decide) (fun c => ?_) (fun c => ?_)
  · replace h := h.1 c
    refine wz_iconst C dX12_keeps_55 ?_
    refine wz_istore_1 C rfl dX12_keeps_56 ?_
    obtain ⟨n, h⟩ := h
    exact lk_X12_keeps_57 G hG X hX C Q n 0 I J h
  · replace h := h.2 c
    refine wz_aload_n C rfl rfl dX12_keeps_9 ?_
    refine wz_dup C rfl dX12_keeps_10 ?_
    refine wz_getI C rfl f_X12_keeps_166 rfl dX12_keeps_11 ?_
    refine wz_iconst C dX12_keeps_14 ?_
    refine wz_isub C dX12_keeps_15 ?_
    refine wd_putI C f_X12_keeps_166 fp_X12_23 rfl dX12_keeps_16 (fun I2 e => ?_)
    replace h := h I2 e
    refine wz_iconst C dX12_keeps_19 ?_
    refine wz_istore_1 C rfl dX12_keeps_20 ?_
    obtain ⟨n, h⟩ := h
    exact lk_X12_keeps_21 G hG X hX C Q n 0 I2 J h
theorem in_X12_undo_X12 : ∀ w ∈ wsX120, w ∈ wsX12_undo := by decide +kernel
theorem f_X12_undo_90 : FLk wsX12_undo RX12 90 12 0 := flk 12 0 rfl tyX12_ok nmX12 in_X12_undo_X12 (by decide) (by decide +kernel)
theorem f_X12_undo_166 : FLk wsX12_undo RX12 166 12 23 := flk 12 23 rfl tyX12_ok nmX12 in_X12_undo_X12 (by decide) (by decide +kernel)
theorem f_X12_undo_26 : FLk wsX12_undo RX12 26 12 15 := flk 12 15 rfl tyX12_ok nmX12 in_X12_undo_X12 (by decide) (by decide +kernel)
theorem f_X12_undo_32 : FLk wsX12_undo RX12 32 12 17 := flk 12 17 rfl tyX12_ok nmX12 in_X12_undo_X12 (by decide) (by decide +kernel)
def rm_X12_undo : Room := { frames := 0, cells := 0, slots := 0, locals := 0 }
set_option maxHeartbeats 4000000 in
set_option maxRecDepth 100000 in
theorem lk_X12_undo_26 (G : KG) (hG : Kok G) (X : KX) (hX : KR X = rm_X12_undo) (C : Fr G X cX12_undo 2 yX12_undo.cls (some .int) wsX12_undo) (Q : Int → Ii → Jj → Prop) : ∀ (n : Nat) (l1 : Int) (I : Ii) (J : Jj), L_X12_undo_26 Q n l1 I J → Wz G X 2 (QsU G X (QsI Q)) 0 0 26 [some (.ref (kadr G 0)), some (.int (iZ l1))] [] I J := by
  intro n
  induction n with
  | zero => intro l1 I J h; exact False.elim h
  | succ n w26 =>
    intro l1 I J h
    have h : Lb_X12_undo_26 Q (L_X12_undo_26 Q n) l1 I J := h
    unfold Lb_X12_undo_26 at h
    generalize L_X12_undo_26 Q n = r26 at h w26
    refine wz_iload_n C rfl rfl dX12_undo_26 ?_
    refine wz_sipush C (by decide) dX12_undo_27 ?_
    obtain ⟨g4, h⟩ := h
    refine wz_icmp_ge C (tgt := 60) g4 (by decide) dX12_undo_30 (by decide) (fun c => ?_) (fun c => ?_)
    · replace h := h.1 c
      refine wz_aload_n C rfl rfl dX12_undo_60 ?_
      refine wz_getI C rfl f_X12_undo_166 rfl dX12_undo_61 ?_
      exact wz_iret C dX12_undo_64 ⟨_, rfl, h⟩
    · replace h := h.2 c
      refine wz_aload_n C rfl rfl dX12_undo_33 ?_
      refine wz_getR C (j := 2) f_X12_undo_26 rfl dX12_undo_34 ?_
      refine wz_iload_n C rfl rfl dX12_undo_37 ?_
      refine wz_aload_n C rfl rfl dX12_undo_38 ?_
      refine wz_getR C (j := 4) f_X12_undo_32 rfl dX12_undo_39 ?_
      refine wz_sipush C (by decide) dX12_undo_42 ?_
      refine wz_aload_n C rfl rfl dX12_undo_45 ?_
      refine wz_getI C rfl f_X12_undo_166 rfl dX12_undo_46 ?_
      refine wz_imul C dX12_undo_49 ?_
      refine wz_iload_n C rfl rfl dX12_undo_50 ?_
      refine wz_iadd C dX12_undo_51 ?_
      obtain ⟨g5, h⟩ := h
      refine wz_iaload C (((350 * (I 0 23)) + l1).toNat) (n := 2100) rfl (zN g5) (zL g5) (by decide) rfl dX12_undo_52 ?_
      obtain ⟨g6, h⟩ := h
      refine wd_iastore C l1.toNat (n := 350) rfl (zN g6) (zL g6) (by decide) dX12_undo_53 (fun I7 e => ?_)
      replace h := h I7 e
      refine wz_iinc_1 C rfl dX12_undo_54 ?_
      refine wz_goto C dX12_undo_57 (tgt := 26) (by decide) ?_
      exact w26 (l1 + 1) I7 J h
set_option maxHeartbeats 4000000 in
set_option maxRecDepth 100000 in
theorem k_X12_undo (G : KG) (hG : Kok G) (I : Ii) (J : Jj) (Q : Int → Ii → Jj → Prop) (h : wp_X12_undo I J Q) : Ctr G yX12_undo wsX12_undo rm_X12_undo [.ref (kadr G 0)] (I, J) (QsI Q) := by
  unfold wp_X12_undo at h
  skip
  refine Ctr.ofZ (cc := cX12_undo) (nL := 2) (ret := (some .int)) [some (.ref (kadr G 0)), none] hG (by decide +kernel) rfl (Nat.le_of_ble_eq_true rfl) (Nat.le_of_ble_eq_true rfl) (by simp [lvA, lv_args, Value.category]) ?_
  intro X hX C
  refine wz_aload_n C rfl rfl dX12_undo_0 ?_
  refine wz_iconst C dX12_undo_1 ?_
  refine wd_putI C f_X12_undo_90 fp_X12_0 rfl dX12_undo_2 (fun I1 e => ?_)
  replace h := h I1 e
  refine wz_aload_n C rfl rfl dX12_undo_5 ?_
  refine wz_getI C rfl f_X12_undo_166 rfl dX12_undo_6 ?_
  obtain ⟨g2, h⟩ := h
  refine wz_if_ne C (tgt := 14) g2 dX12_undo_9 (by decide) (fun c => ?_) (fun c => ?_)
  · replace h := h.1 c
    refine wz_aload_n C rfl rfl dX12_undo_14 ?_
    refine wz_dup C rfl dX12_undo_15 ?_
    refine wz_getI C rfl f_X12_undo_166 rfl dX12_undo_16 ?_
    refine wz_iconst C dX12_undo_19 ?_
    refine wz_isub C dX12_undo_20 ?_
    refine wd_putI C f_X12_undo_166 fp_X12_23 rfl dX12_undo_21 (fun I3 e => ?_)
    replace h := h I3 e
    refine wz_iconst C dX12_undo_24 ?_
    refine wz_istore_1 C rfl dX12_undo_25 ?_
    obtain ⟨n, h⟩ := h
    exact lk_X12_undo_26 G hG X hX C Q n 0 I3 J h
  · replace h := h.2 c
    refine wz_iconst C dX12_undo_12 ?_
    exact wz_iret C dX12_undo_13 ⟨_, rfl, h⟩
theorem in_X12_isVertex_X12 : ∀ w ∈ wsX120, w ∈ wsX12_isVertex := by decide +kernel
theorem f_X12_isVertex_26 : FLk wsX12_isVertex RX12 26 12 15 := flk 12 15 rfl tyX12_ok nmX12 in_X12_isVertex_X12 (by decide) (by decide +kernel)
def rm_X12_isVertex : Room := { frames := 1, cells := 0, slots := 0, locals := 25 }
set_option maxHeartbeats 4000000 in
set_option maxRecDepth 100000 in
theorem k_X12_isVertex (G : KG) (hG : Kok G) (l1 : Int) (I : Ii) (J : Jj) (Q : Int → Ii → Jj → Prop) (h : wp_X12_isVertex l1 I J Q) : Ctr G yX12_isVertex wsX12_isVertex rm_X12_isVertex [.ref (kadr G 0), .int (iZ l1)] (I, J) (QsB Q) := by
  unfold wp_X12_isVertex at h
  skip
  refine Ctr.ofZ (cc := cX12_isVertex) (nL := 2) (ret := (some .boolean)) [some (.ref (kadr G 0)), some (.int (iZ l1))] hG (by decide +kernel) rfl (Nat.le_of_ble_eq_true rfl) (Nat.le_of_ble_eq_true rfl) (by simp [lvA, lv_args, Value.category]) ?_
  intro X hX C
  refine wz_iload_n C rfl rfl dX12_isVertex_0 ?_
  refine wd_i2l C dX12_isVertex_1 ?_
  refine wz_lconst C (v := lZ 0) (by decide) dX12_isVertex_2 ?_
  refine wz_aload_n C rfl rfl dX12_isVertex_3 ?_
  refine wz_getR C (j := 2) f_X12_isVertex_26 rfl dX12_isVertex_4 ?_
  refine wz_iconst C dX12_isVertex_7 ?_
  refine wz_iaload C 0 (n := 350) rfl rfl (by decide) (by decide) rfl dX12_isVertex_8 ?_
  refine wz_iconst C dX12_isVertex_9 ?_
  refine wz_isub C dX12_isVertex_10 ?_
  refine wd_i2l C dX12_isVertex_11 ?_
  refine wm_callS C (As := [.long (i2lZ l1), .long (lZ 0), .long (i2lZ ((I 2 0) - 1))]) (st := []) (a' := 0) (b' := 0) (k_X12_isIn G hG (i2lZ l1) (lZ 0) (i2lZ ((I 2 0) - 1)) I J _ h) 3 gX12_isVertex_X12_isIn rfl (by decide +kernel) (by rw [hX]; exact ⟨Nat.le_of_ble_eq_true rfl, Nat.le_of_ble_eq_true rfl⟩) rfl (Nat.le_of_ble_eq_true rfl) rfl rfl rfl dX12_isVertex_12 (kk_sB (fun v1 I1 J1 hb1 h => ?_))
  exact wz_zret C h.1 dX12_isVertex_15 ⟨_, rfl, h.1, h.2⟩
theorem in_X12_isEdge_X12 : ∀ w ∈ wsX120, w ∈ wsX12_isEdge := by decide +kernel
theorem f_X12_isEdge_26 : FLk wsX12_isEdge RX12 26 12 15 := flk 12 15 rfl tyX12_ok nmX12 in_X12_isEdge_X12 (by decide) (by decide +kernel)
def rm_X12_isEdge : Room := { frames := 1, cells := 0, slots := 0, locals := 25 }
set_option maxHeartbeats 4000000 in
set_option maxRecDepth 100000 in
theorem k_X12_isEdge (G : KG) (hG : Kok G) (l1 : Int) (I : Ii) (J : Jj) (Q : Int → Ii → Jj → Prop) (h : wp_X12_isEdge l1 I J Q) : Ctr G yX12_isEdge wsX12_isEdge rm_X12_isEdge [.ref (kadr G 0), .int (iZ l1)] (I, J) (QsB Q) := by
  unfold wp_X12_isEdge at h
  skip
  refine Ctr.ofZ (cc := cX12_isEdge) (nL := 2) (ret := (some .boolean)) [some (.ref (kadr G 0)), some (.int (iZ l1))] hG (by decide +kernel) rfl (Nat.le_of_ble_eq_true rfl) (Nat.le_of_ble_eq_true rfl) (by simp [lvA, lv_args, Value.category]) ?_
  intro X hX C
  refine wz_iload_n C rfl rfl dX12_isEdge_0 ?_
  refine wd_i2l C dX12_isEdge_1 ?_
  refine wz_lconst C (v := lZ 0) (by decide) dX12_isEdge_2 ?_
  refine wz_aload_n C rfl rfl dX12_isEdge_3 ?_
  refine wz_getR C (j := 2) f_X12_isEdge_26 rfl dX12_isEdge_4 ?_
  refine wz_iconst C dX12_isEdge_7 ?_
  refine wz_iaload C 1 (n := 350) rfl rfl (by decide) (by decide) rfl dX12_isEdge_8 ?_
  refine wz_iconst C dX12_isEdge_9 ?_
  refine wz_isub C dX12_isEdge_10 ?_
  refine wd_i2l C dX12_isEdge_11 ?_
  refine wm_callS C (As := [.long (i2lZ l1), .long (lZ 0), .long (i2lZ ((I 2 1) - 1))]) (st := []) (a' := 0) (b' := 0) (k_X12_isIn G hG (i2lZ l1) (lZ 0) (i2lZ ((I 2 1) - 1)) I J _ h) 3 gX12_isEdge_X12_isIn rfl (by decide +kernel) (by rw [hX]; exact ⟨Nat.le_of_ble_eq_true rfl, Nat.le_of_ble_eq_true rfl⟩) rfl (Nat.le_of_ble_eq_true rfl) rfl rfl rfl dX12_isEdge_12 (kk_sB (fun v1 I1 J1 hb1 h => ?_))
  exact wz_zret C h.1 dX12_isEdge_15 ⟨_, rfl, h.1, h.2⟩
theorem in_X12_isPart_X12 : ∀ w ∈ wsX120, w ∈ wsX12_isPart := by decide +kernel
theorem f_X12_isPart_26 : FLk wsX12_isPart RX12 26 12 15 := flk 12 15 rfl tyX12_ok nmX12 in_X12_isPart_X12 (by decide) (by decide +kernel)
def rm_X12_isPart : Room := { frames := 1, cells := 0, slots := 0, locals := 25 }
set_option maxHeartbeats 4000000 in
set_option maxRecDepth 100000 in
theorem k_X12_isPart (G : KG) (hG : Kok G) (l1 : Int) (I : Ii) (J : Jj) (Q : Int → Ii → Jj → Prop) (h : wp_X12_isPart l1 I J Q) : Ctr G yX12_isPart wsX12_isPart rm_X12_isPart [.ref (kadr G 0), .int (iZ l1)] (I, J) (QsB Q) := by
  unfold wp_X12_isPart at h
  skip
  refine Ctr.ofZ (cc := cX12_isPart) (nL := 2) (ret := (some .boolean)) [some (.ref (kadr G 0)), some (.int (iZ l1))] hG (by decide +kernel) rfl (Nat.le_of_ble_eq_true rfl) (Nat.le_of_ble_eq_true rfl) (by simp [lvA, lv_args, Value.category]) ?_
  intro X hX C
  refine wz_iload_n C rfl rfl dX12_isPart_0 ?_
  refine wd_i2l C dX12_isPart_1 ?_
  refine wz_lconst C (v := lZ 0) (by decide) dX12_isPart_2 ?_
  refine wz_aload_n C rfl rfl dX12_isPart_3 ?_
  refine wz_getR C (j := 2) f_X12_isPart_26 rfl dX12_isPart_4 ?_
  refine wz_iconst C dX12_isPart_7 ?_
  refine wz_iaload C 2 (n := 350) rfl rfl (by decide) (by decide) rfl dX12_isPart_8 ?_
  refine wz_iconst C dX12_isPart_9 ?_
  refine wz_isub C dX12_isPart_10 ?_
  refine wd_i2l C dX12_isPart_11 ?_
  refine wm_callS C (As := [.long (i2lZ l1), .long (lZ 0), .long (i2lZ ((I 2 2) - 1))]) (st := []) (a' := 0) (b' := 0) (k_X12_isIn G hG (i2lZ l1) (lZ 0) (i2lZ ((I 2 2) - 1)) I J _ h) 3 gX12_isPart_X12_isIn rfl (by decide +kernel) (by rw [hX]; exact ⟨Nat.le_of_ble_eq_true rfl, Nat.le_of_ble_eq_true rfl⟩) rfl (Nat.le_of_ble_eq_true rfl) rfl rfl rfl dX12_isPart_12 (kk_sB (fun v1 I1 J1 hb1 h => ?_))
  exact wz_zret C h.1 dX12_isPart_15 ⟨_, rfl, h.1, h.2⟩
theorem in_X12_groups_X12 : ∀ w ∈ wsX120, w ∈ wsX12_groups := by decide +kernel
theorem f_X12_groups_26 : FLk wsX12_groups RX12 26 12 15 := flk 12 15 rfl tyX12_ok nmX12 in_X12_groups_X12 (by decide) (by decide +kernel)
def rm_X12_groups : Room := { frames := 0, cells := 0, slots := 0, locals := 0 }
set_option maxHeartbeats 4000000 in
set_option maxRecDepth 100000 in
theorem k_X12_groups (G : KG) (hG : Kok G) (I : Ii) (J : Jj) (Q : Int → Ii → Jj → Prop) (h : wp_X12_groups I J Q) : Ctr G yX12_groups wsX12_groups rm_X12_groups [.ref (kadr G 0)] (I, J) (QsI Q) := by
  unfold wp_X12_groups at h
  skip
  refine Ctr.ofZ (cc := cX12_groups) (nL := 1) (ret := (some .int)) [some (.ref (kadr G 0))] hG (by decide +kernel) rfl (Nat.le_of_ble_eq_true rfl) (Nat.le_of_ble_eq_true rfl) (by simp [lvA, lv_args, Value.category]) ?_
  intro X hX C
  refine wz_aload_n C rfl rfl dX12_groups_0 ?_
  refine wz_getR C (j := 2) f_X12_groups_26 rfl dX12_groups_1 ?_
  refine wz_bipush C (by decide) dX12_groups_4 ?_
  refine wz_aload_n C rfl rfl dX12_groups_6 ?_
  refine wz_getR C (j := 2) f_X12_groups_26 rfl dX12_groups_7 ?_
  refine wz_iconst C dX12_groups_10 ?_
  refine wz_iaload C 5 (n := 350) rfl rfl (by decide) (by decide) rfl dX12_groups_11 ?_
  refine wz_iadd C dX12_groups_12 ?_
  obtain ⟨g1, h⟩ := h
  refine wz_iaload C ((105 + (I 2 5)).toNat) (n := 350) rfl (zN g1) (zL g1) (by decide) rfl dX12_groups_13 ?_
  exact wz_iret C dX12_groups_14 ⟨_, rfl, h⟩
def rm_X12_isGroup : Room := { frames := 1, cells := 0, slots := 0, locals := 25 }
set_option maxHeartbeats 4000000 in
set_option maxRecDepth 100000 in
theorem k_X12_isGroup (G : KG) (hG : Kok G) (l1 : Int) (I : Ii) (J : Jj) (Q : Int → Ii → Jj → Prop) (h : wp_X12_isGroup l1 I J Q) : Ctr G yX12_isGroup wsX12_isGroup rm_X12_isGroup [.ref (kadr G 0), .int (iZ l1)] (I, J) (QsB Q) := by
  unfold wp_X12_isGroup at h
  skip
  refine Ctr.ofZ (cc := cX12_isGroup) (nL := 2) (ret := (some .boolean)) [some (.ref (kadr G 0)), some (.int (iZ l1))] hG (by decide +kernel) rfl (Nat.le_of_ble_eq_true rfl) (Nat.le_of_ble_eq_true rfl) (by simp [lvA, lv_args, Value.category]) ?_
  intro X hX C
  refine wz_iload_n C rfl rfl dX12_isGroup_0 ?_
  refine wd_i2l C dX12_isGroup_1 ?_
  refine wz_lconst C (v := lZ 0) (by decide) dX12_isGroup_2 ?_
  refine wz_aload_n C rfl rfl dX12_isGroup_3 ?_
  refine wm_callV C (o := 0) (As := []) (st := [.long (lZ 0), .long (i2lZ l1)]) (a' := 0) (b' := 0) rfl rfl (k_X12_groups G hG I J _ h) 0 gX12_isGroup_X12_groups rfl (by decide +kernel) (by rw [hX]; exact ⟨Nat.le_of_ble_eq_true rfl, Nat.le_of_ble_eq_true rfl⟩) rfl (Nat.le_of_ble_eq_true rfl) rfl rfl rfl dX12_isGroup_4 (kk_sI (fun v1 I1 J1 h => ?_))
  refine wz_iconst C dX12_isGroup_7 ?_
  refine wz_isub C dX12_isGroup_8 ?_
  refine wd_i2l C dX12_isGroup_9 ?_
  refine wm_callS C (As := [.long (i2lZ l1), .long (lZ 0), .long (i2lZ (v1 - 1))]) (st := []) (a' := 0) (b' := 0) (k_X12_isIn G hG (i2lZ l1) (lZ 0) (i2lZ (v1 - 1)) I1 J1 _ h) 3 gX12_isGroup_X12_isIn rfl (by decide +kernel) (by rw [hX]; exact ⟨Nat.le_of_ble_eq_true rfl, Nat.le_of_ble_eq_true rfl⟩) rfl (Nat.le_of_ble_eq_true rfl) rfl rfl rfl dX12_isGroup_10 (kk_sB (fun v2 I2 J2 hb2 h => ?_))
  exact wz_zret C h.1 dX12_isGroup_13 ⟨_, rfl, h.1, h.2⟩
theorem in_X12_groupAt_X12 : ∀ w ∈ wsX120, w ∈ wsX12_groupAt := by decide +kernel
theorem f_X12_groupAt_26 : FLk wsX12_groupAt RX12 26 12 15 := flk 12 15 rfl tyX12_ok nmX12 in_X12_groupAt_X12 (by decide) (by decide +kernel)
def rm_X12_groupAt : Room := { frames := 0, cells := 0, slots := 0, locals := 0 }
set_option maxHeartbeats 4000000 in
set_option maxRecDepth 100000 in
theorem k_X12_groupAt (G : KG) (hG : Kok G) (l1 : Int) (I : Ii) (J : Jj) (Q : Int → Ii → Jj → Prop) (h : wp_X12_groupAt l1 I J Q) : Ctr G yX12_groupAt wsX12_groupAt rm_X12_groupAt [.ref (kadr G 0), .int (iZ l1)] (I, J) (QsI Q) := by
  unfold wp_X12_groupAt at h
  skip
  refine Ctr.ofZ (cc := cX12_groupAt) (nL := 2) (ret := (some .int)) [some (.ref (kadr G 0)), some (.int (iZ l1))] hG (by decide +kernel) rfl (Nat.le_of_ble_eq_true rfl) (Nat.le_of_ble_eq_true rfl) (by simp [lvA, lv_args, Value.category]) ?_
  intro X hX C
  refine wz_aload_n C rfl rfl dX12_groupAt_0 ?_
  refine wz_getR C (j := 2) f_X12_groupAt_26 rfl dX12_groupAt_1 ?_
  refine wz_bipush C (by decide) dX12_groupAt_4 ?_
  refine wz_bipush C (by decide) dX12_groupAt_6 ?_
  refine wz_aload_n C rfl rfl dX12_groupAt_8 ?_
  refine wz_getR C (j := 2) f_X12_groupAt_26 rfl dX12_groupAt_9 ?_
  refine wz_iconst C dX12_groupAt_12 ?_
  refine wz_iaload C 5 (n := 350) rfl rfl (by decide) (by decide) rfl dX12_groupAt_13 ?_
  refine wz_imul C dX12_groupAt_14 ?_
  refine wz_iadd C dX12_groupAt_15 ?_
  refine wz_iload_n C rfl rfl dX12_groupAt_16 ?_
  refine wz_iadd C dX12_groupAt_17 ?_
  obtain ⟨g1, h⟩ := h
  refine wz_iaload C (((35 + (14 * (I 2 5))) + l1).toNat) (n := 350) rfl (zN g1) (zL g1) (by decide) rfl dX12_groupAt_18 ?_
  exact wz_iret C dX12_groupAt_19 ⟨_, rfl, h⟩
theorem in_X12_named_X12 : ∀ w ∈ wsX120, w ∈ wsX12_named := by decide +kernel
theorem f_X12_named_26 : FLk wsX12_named RX12 26 12 15 := flk 12 15 rfl tyX12_ok nmX12 in_X12_named_X12 (by decide) (by decide +kernel)
theorem f_X12_named_41 : FLk wsX12_named RX12 41 12 20 := flk 12 20 rfl tyX12_ok nmX12 in_X12_named_X12 (by decide) (by decide +kernel)
theorem f_X12_named_125 : FLk wsX12_named RX12 125 12 14 := flk 12 14 rfl tyX12_ok nmX12 in_X12_named_X12 (by decide) (by decide +kernel)
def rm_X12_named : Room := { frames := 0, cells := 0, slots := 0, locals := 0 }
set_option maxHeartbeats 4000000 in
set_option maxRecDepth 100000 in
theorem lk_X12_named_4 (G : KG) (hG : Kok G) (X : KX) (hX : KR X = rm_X12_named) (C : Fr G X cX12_named 3 yX12_named.cls (some .int) wsX12_named) (Q : Int → Ii → Jj → Prop) : ∀ (n : Nat) (l1 : Int) (l2 : Int) (I : Ii) (J : Jj), L_X12_named_4 Q n l1 l2 I J → Wz G X 3 (QsU G X (QsI Q)) 0 0 4 [some (.ref (kadr G 0)), some (.int (iZ l1)), some (.int (iZ l2))] [] I J := by
  intro n
  induction n with
  | zero => intro l1 l2 I J h; exact False.elim h
  | succ n w4 =>
    intro l1 l2 I J h
    have h : Lb_X12_named_4 Q (L_X12_named_4 Q n) l1 l2 I J := h
    unfold Lb_X12_named_4 at h
    generalize L_X12_named_4 Q n = r4 at h w4
    refine wz_iload_n C rfl rfl dX12_named_4 ?_
    refine wz_aload_n C rfl rfl dX12_named_5 ?_
    refine wz_getR C (j := 2) f_X12_named_26 rfl dX12_named_6 ?_
    refine wz_iconst C dX12_named_9 ?_
    refine wz_iaload C 0 (n := 350) rfl rfl (by decide) (by decide) rfl dX12_named_10 ?_
    obtain ⟨g1, h⟩ := h
    obtain ⟨g2, h⟩ := h
    refine wz_icmp_ge C (tgt := 40) g1 g2 dX12_named_11 (by decide) (fun c => ?_) (fun c => ?_)
    · replace h := h.1 c
      refine wz_iload_n C rfl rfl dX12_named_40 ?_
      exact wz_iret C dX12_named_41 ⟨_, rfl, h⟩
    · replace h := h.2 c
      refine wz_aload_n C rfl rfl dX12_named_14 ?_
      refine wz_getR C (j := 7) f_X12_named_41 rfl dX12_named_15 ?_
      refine wz_iload_n C rfl rfl dX12_named_18 ?_
      obtain ⟨g3, h⟩ := h
      refine wz_laload C l2.toNat (n := 14) rfl (zN g3) (zL g3) (by decide) rfl dX12_named_19 ?_
      refine wz_aload_n C rfl rfl dX12_named_20 ?_
      refine wz_getJ C rfl f_X12_named_125 rfl dX12_named_21 ?_
      refine wd_lcmp C dX12_named_24 ?_
      refine wz_if_ne C (tgt := 32) (toInt_rg _) dX12_named_25 (by decide) (fun c => ?_) (fun c => ?_)
      · replace h := h.1 c
        refine wz_iload_n C rfl rfl dX12_named_32 ?_
        refine wz_istore_1 C rfl dX12_named_33 ?_
        refine wz_iinc_2 C rfl dX12_named_34 ?_
        refine wz_goto C dX12_named_37 (tgt := 4) (by decide) ?_
        exact w4 l1 (l2 + 1) I J h
      · replace h := h.2 c
        refine wz_iload_n C rfl rfl dX12_named_28 ?_
        refine wz_goto C dX12_named_29 (tgt := 33) (by decide) ?_
        refine wz_istore_1 C rfl dX12_named_33 ?_
        refine wz_iinc_2 C rfl dX12_named_34 ?_
        refine wz_goto C dX12_named_37 (tgt := 4) (by decide) ?_
        exact w4 l2 (l2 + 1) I J h
set_option maxHeartbeats 4000000 in
set_option maxRecDepth 100000 in
theorem k_X12_named (G : KG) (hG : Kok G) (I : Ii) (J : Jj) (Q : Int → Ii → Jj → Prop) (h : wp_X12_named I J Q) : Ctr G yX12_named wsX12_named rm_X12_named [.ref (kadr G 0)] (I, J) (QsI Q) := by
  unfold wp_X12_named at h
  skip
  refine Ctr.ofZ (cc := cX12_named) (nL := 3) (ret := (some .int)) [some (.ref (kadr G 0)), none, none] hG (by decide +kernel) rfl (Nat.le_of_ble_eq_true rfl) (Nat.le_of_ble_eq_true rfl) (by simp [lvA, lv_args, Value.category]) ?_
  intro X hX C
  refine wz_iconst C dX12_named_0 ?_
  refine wz_istore_1 C rfl dX12_named_1 ?_
  refine wz_iconst C dX12_named_2 ?_
  refine wz_istore_2 C rfl dX12_named_3 ?_
  obtain ⟨n, h⟩ := h
  exact lk_X12_named_4 G hG X hX C Q n (-1) 0 I J h
theorem in_X12_seenVertex_X12 : ∀ w ∈ wsX120, w ∈ wsX12_seenVertex := by decide +kernel
theorem f_X12_seenVertex_132 : FLk wsX12_seenVertex RX12 132 12 6 := flk 12 6 rfl tyX12_ok nmX12 in_X12_seenVertex_X12 (by decide) (by decide +kernel)
def rm_X12_seenVertex : Room := { frames := 1, cells := 0, slots := 0, locals := 22 }
set_option maxHeartbeats 4000000 in
set_option maxRecDepth 100000 in
theorem bk_X12_seenVertex_20 (G : KG) (hG : Kok G) (X : KX) (hX : KR X = rm_X12_seenVertex) (C : Fr G X cX12_seenVertex 2 yX12_seenVertex.cls (some .int) wsX12_seenVertex) (Q : Int → Ii → Jj → Prop)  (I : Ii) (J : Jj) (h : B_X12_seenVertex_20 Q  I J) : Wz G X 2 (QsU G X (QsI Q)) 0 0 20 [some (.ref (kadr G 0)), none] [] I J := by
  unfold B_X12_seenVertex_20 at h
  refine wz_aload_n C rfl rfl dX12_seenVertex_20 ?_
  refine wm_callV C (o := 0) (As := []) (st := []) (a' := 0) (b' := 0) rfl rfl (k_X12_named G hG I J _ h) 0 gX12_seenVertex_X12_named rfl (by decide +kernel) (by rw [hX]; exact ⟨Nat.le_of_ble_eq_true rfl, Nat.le_of_ble_eq_true rfl⟩) rfl (Nat.le_of_ble_eq_true rfl) rfl rfl rfl dX12_seenVertex_21 (kk_sI (fun v4 I4 J4 h => ?_))
  refine wz_istore_1 C rfl dX12_seenVertex_24 ?_
  refine wz_aload_n C rfl rfl dX12_seenVertex_25 ?_
  refine wm_callV C (o := 0) (As := []) (st := []) (a' := 0) (b' := 0) rfl rfl (k_X12_isGood G hG I4 J4 _ h) 0 gX12_seenVertex_X12_isGood rfl (by decide +kernel) (by rw [hX]; exact ⟨Nat.le_of_ble_eq_true rfl, Nat.le_of_ble_eq_true rfl⟩) rfl (Nat.le_of_ble_eq_true rfl) rfl rfl rfl dX12_seenVertex_26 (kk_sB (fun v5 I5 J5 hb5 h => ?_))
  refine wz_if_eq C (tgt := 42) (rgB hb5) dX12_seenVertex_29 (by decide) (fun c => ?_) (fun c => ?_)
  · replace h := h.1 c
    refine wz_iload_n C rfl rfl dX12_seenVertex_42 ?_
    exact wz_iret C dX12_seenVertex_43 ⟨_, rfl, h⟩
  · replace h := h.2 c
    refine wz_iload_n C rfl rfl dX12_seenVertex_32 ?_
    refine wz_iconst C dX12_seenVertex_33 ?_
    obtain ⟨g6, h⟩ := h
    refine wz_icmp_ne C (tgt := 42) g6 (by decide) dX12_seenVertex_34 (by decide) (fun c => ?_) (fun c => ?_)
    · replace h := h.1 c
      refine wz_iload_n C rfl rfl dX12_seenVertex_42 ?_
      exact wz_iret C dX12_seenVertex_43 ⟨_, rfl, h⟩
    · replace h := h.2 c
      refine wz_aload_n C rfl rfl dX12_seenVertex_37 ?_
      refine wz_iconst C dX12_seenVertex_38 ?_
      refine wm_callV C (o := 0) (As := [.int (iZ 3)]) (st := []) (a' := 0) (b' := 0) rfl rfl (k_X12_wrong G hG 3 I5 J5 _ h) 1 gX12_seenVertex_X12_wrong rfl (by decide +kernel) (by rw [hX]; exact ⟨Nat.le_of_ble_eq_true rfl, Nat.le_of_ble_eq_true rfl⟩) rfl (Nat.le_of_ble_eq_true rfl) rfl rfl rfl dX12_seenVertex_39 (kk_sV (fun I7 J7 h => ?_))
      refine wz_iload_n C rfl rfl dX12_seenVertex_42 ?_
      exact wz_iret C dX12_seenVertex_43 ⟨_, rfl, h⟩
set_option maxHeartbeats 4000000 in
set_option maxRecDepth 100000 in
theorem k_X12_seenVertex (G : KG) (hG : Kok G) (I : Ii) (J : Jj) (Q : Int → Ii → Jj → Prop) (h : wp_X12_seenVertex I J Q) : Ctr G yX12_seenVertex wsX12_seenVertex rm_X12_seenVertex [.ref (kadr G 0)] (I, J) (QsI Q) := by
  unfold wp_X12_seenVertex at h
  skip
  refine Ctr.ofZ (cc := cX12_seenVertex) (nL := 2) (ret := (some .int)) [some (.ref (kadr G 0)), none] hG (by decide +kernel) rfl (Nat.le_of_ble_eq_true rfl) (Nat.le_of_ble_eq_true rfl) (by simp [lvA, lv_args, Value.category]) ?_
  intro X hX C
  refine wz_aload_n C rfl rfl dX12_seenVertex_0 ?_
  refine wm_callV C (o := 0) (As := []) (st := []) (a' := 0) (b' := 0) rfl rfl (k_X12_isGood G hG I J _ h) 0 gX12_seenVertex_X12_isGood rfl (by decide +kernel) (by rw [hX]; exact ⟨Nat.le_of_ble_eq_true rfl, Nat.le_of_ble_eq_true rfl⟩) rfl (Nat.le_of_ble_eq_true rfl) rfl rfl rfl dX12_seenVertex_1 (kk_sB (fun v1 I1 J1 hb1 h => ?_))
  refine wz_if_eq C (tgt := 20) (rgB hb1) dX12_seenVertex_4 (by decide) (fun c => ?_) (fun c => ?_)
  · replace h := h.1 c
    exact bk_X12_seenVertex_20 G hG X hX C Q I1 J1 h
  · replace h := h.2 c
    refine wz_aload_n C rfl rfl dX12_seenVertex_7 ?_
    refine wz_getI C rfl f_X12_seenVertex_132 rfl dX12_seenVertex_8 ?_
    refine wz_iconst C dX12_seenVertex_11 ?_
    obtain ⟨g2, h⟩ := h
    refine wz_icmp_eq C (tgt := 20) g2 (by decide) dX12_seenVertex_12 (by decide) (fun c => ?_) (fun c => ?_)
    · replace h := h.1 c
      exact bk_X12_seenVertex_20 G hG X hX C Q I1 J1 h
    · replace h := h.2 c
      refine wz_aload_n C rfl rfl dX12_seenVertex_15 ?_
      refine wz_iconst C dX12_seenVertex_16 ?_
      refine wm_callV C (o := 0) (As := [.int (iZ 1)]) (st := []) (a' := 0) (b' := 0) rfl rfl (k_X12_wrong G hG 1 I1 J1 _ h) 1 gX12_seenVertex_X12_wrong rfl (by decide +kernel) (by rw [hX]; exact ⟨Nat.le_of_ble_eq_true rfl, Nat.le_of_ble_eq_true rfl⟩) rfl (Nat.le_of_ble_eq_true rfl) rfl rfl rfl dX12_seenVertex_17 (kk_sV (fun I3 J3 h => ?_))
      exact bk_X12_seenVertex_20 G hG X hX C Q I3 J3 h
def rm_X12_toldVertex : Room := { frames := 2, cells := 0, slots := 0, locals := 43 }
set_option maxHeartbeats 4000000 in
set_option maxRecDepth 100000 in
theorem k_X12_toldVertex (G : KG) (hG : Kok G) (I : Ii) (J : Jj) (Q : Int → Ii → Jj → Prop) (h : wp_X12_toldVertex I J Q) : Ctr G yX12_toldVertex wsX12_toldVertex rm_X12_toldVertex [.ref (kadr G 0)] (I, J) (QsI Q) := by
  unfold wp_X12_toldVertex at h
  skip
  refine Ctr.ofZ (cc := cX12_toldVertex) (nL := 2) (ret := (some .int)) [some (.ref (kadr G 0)), none] hG (by decide +kernel) rfl (Nat.le_of_ble_eq_true rfl) (Nat.le_of_ble_eq_true rfl) (by simp [lvA, lv_args, Value.category]) ?_
  intro X hX C
  refine wz_aload_n C rfl rfl dX12_toldVertex_0 ?_
  refine wm_callV C (o := 0) (As := []) (st := []) (a' := 0) (b' := 0) rfl rfl (k_X12_seenVertex G hG I J _ h) 0 gX12_toldVertex_X12_seenVertex rfl (by decide +kernel) (by rw [hX]; exact ⟨Nat.le_of_ble_eq_true rfl, Nat.le_of_ble_eq_true rfl⟩) rfl (Nat.le_of_ble_eq_true rfl) rfl rfl rfl dX12_toldVertex_1 (kk_sI (fun v1 I1 J1 h => ?_))
  refine wz_istore_1 C rfl dX12_toldVertex_4 ?_
  refine wz_aload_n C rfl rfl dX12_toldVertex_5 ?_
  refine wm_callV C (o := 0) (As := []) (st := []) (a' := 0) (b' := 0) rfl rfl (k_X12_isGood G hG I1 J1 _ h) 0 gX12_toldVertex_X12_isGood rfl (by decide +kernel) (by rw [hX]; exact ⟨Nat.le_of_ble_eq_true rfl, Nat.le_of_ble_eq_true rfl⟩) rfl (Nat.le_of_ble_eq_true rfl) rfl rfl rfl dX12_toldVertex_6 (kk_sB (fun v2 I2 J2 hb2 h => ?_))
  refine wz_if_eq C (tgt := 16) (rgB hb2) dX12_toldVertex_9 (by decide) (fun c => ?_) (fun c => ?_)
  · replace h := h.1 c
    refine wz_iload_n C rfl rfl dX12_toldVertex_16 ?_
    exact wz_iret C dX12_toldVertex_17 ⟨_, rfl, h⟩
  · replace h := h.2 c
    refine wz_aload_n C rfl rfl dX12_toldVertex_12 ?_
    refine wm_callV C (o := 0) (As := []) (st := []) (a' := 0) (b' := 0) rfl rfl (k_X12_goOn G hG I2 J2 _ h) 0 gX12_toldVertex_X12_goOn rfl (by decide +kernel) (by rw [hX]; exact ⟨Nat.le_of_ble_eq_true rfl, Nat.le_of_ble_eq_true rfl⟩) rfl (Nat.le_of_ble_eq_true rfl) rfl rfl rfl dX12_toldVertex_13 (kk_sV (fun I3 J3 h => ?_))
    refine wz_iload_n C rfl rfl dX12_toldVertex_16 ?_
    exact wz_iret C dX12_toldVertex_17 ⟨_, rfl, h⟩
theorem in_X12_readsVertex_X12 : ∀ w ∈ wsX120, w ∈ wsX12_readsVertex := by decide +kernel
theorem f_X12_readsVertex_26 : FLk wsX12_readsVertex RX12 26 12 15 := flk 12 15 rfl tyX12_ok nmX12 in_X12_readsVertex_X12 (by decide) (by decide +kernel)
theorem f_X12_readsVertex_132 : FLk wsX12_readsVertex RX12 132 12 6 := flk 12 6 rfl tyX12_ok nmX12 in_X12_readsVertex_X12 (by decide) (by decide +kernel)
theorem f_X12_readsVertex_41 : FLk wsX12_readsVertex RX12 41 12 20 := flk 12 20 rfl tyX12_ok nmX12 in_X12_readsVertex_X12 (by decide) (by decide +kernel)
theorem f_X12_readsVertex_125 : FLk wsX12_readsVertex RX12 125 12 14 := flk 12 14 rfl tyX12_ok nmX12 in_X12_readsVertex_X12 (by decide) (by decide +kernel)
def rm_X12_readsVertex : Room := { frames := 3, cells := 0, slots := 0, locals := 66 }
set_option maxHeartbeats 4000000 in
set_option maxRecDepth 100000 in
theorem bk_X12_readsVertex_70 (G : KG) (hG : Kok G) (X : KX) (hX : KR X = rm_X12_readsVertex) (C : Fr G X cX12_readsVertex 3 yX12_readsVertex.cls none wsX12_readsVertex) (Q : Ii → Jj → Prop) (l1 : Int) (I : Ii) (J : Jj) (h : B_X12_readsVertex_70 Q l1 I J) : Wz G X 3 (QsU G X (QsV Q)) 0 0 70 [some (.ref (kadr G 0)), some (.int (iZ l1)), none] [] I J := by
  unfold B_X12_readsVertex_70 at h
  refine wz_aload_n C rfl rfl dX12_readsVertex_70 ?_
  refine wm_callV C (o := 0) (As := []) (st := []) (a' := 0) (b' := 0) rfl rfl (k_X12_isGood G hG I J _ h) 0 gX12_readsVertex_X12_isGood rfl (by decide +kernel) (by rw [hX]; exact ⟨Nat.le_of_ble_eq_true rfl, Nat.le_of_ble_eq_true rfl⟩) rfl (Nat.le_of_ble_eq_true rfl) rfl rfl rfl dX12_readsVertex_71 (kk_sB (fun v12 I12 J12 hb12 h => ?_))
  refine wz_if_ne C (tgt := 78) (rgB hb12) dX12_readsVertex_74 (by decide) (fun c => ?_) (fun c => ?_)
  · replace h := h.1 c
    refine wz_aload_n C rfl rfl dX12_readsVertex_78 ?_
    refine wz_getR C (j := 7) f_X12_readsVertex_41 rfl dX12_readsVertex_79 ?_
    refine wz_iload_n C rfl rfl dX12_readsVertex_82 ?_
    refine wz_aload_n C rfl rfl dX12_readsVertex_83 ?_
    refine wz_getJ C rfl f_X12_readsVertex_125 rfl dX12_readsVertex_84 ?_
    obtain ⟨g13, h⟩ := h
    refine wd_lastore C l1.toNat (n := 14) rfl (zN g13) (zL g13) (by decide) dX12_readsVertex_87 (fun J14 e => ?_)
    replace h := h J14 e
    refine wz_aload_n C rfl rfl dX12_readsVertex_88 ?_
    refine wm_callV C (o := 0) (As := []) (st := []) (a' := 0) (b' := 0) rfl rfl (k_X12_goOn G hG I12 J14 _ h) 0 gX12_readsVertex_X12_goOn rfl (by decide +kernel) (by rw [hX]; exact ⟨Nat.le_of_ble_eq_true rfl, Nat.le_of_ble_eq_true rfl⟩) rfl (Nat.le_of_ble_eq_true rfl) rfl rfl rfl dX12_readsVertex_89 (kk_sV (fun I15 J15 h => ?_))
    refine wz_aload_n C rfl rfl dX12_readsVertex_92 ?_
    refine wz_iconst C dX12_readsVertex_93 ?_
    refine wz_bipush C (by decide) dX12_readsVertex_94 ?_
    refine wm_callV C (o := 0) (As := [.int (iZ 1), .int (iZ 99)]) (st := []) (a' := 0) (b' := 0) rfl rfl (k_X12_number G hG 1 99 I15 J15 _ h) 2 gX12_readsVertex_X12_number rfl (by decide +kernel) (by rw [hX]; exact ⟨Nat.le_of_ble_eq_true rfl, Nat.le_of_ble_eq_true rfl⟩) rfl (Nat.le_of_ble_eq_true rfl) rfl rfl rfl dX12_readsVertex_96 (kk_sI (fun v16 I16 J16 h => ?_))
    refine wz_istore_2 C rfl dX12_readsVertex_99 ?_
    refine wz_aload_n C rfl rfl dX12_readsVertex_100 ?_
    refine wm_callV C (o := 0) (As := []) (st := []) (a' := 0) (b' := 0) rfl rfl (k_X12_isGood G hG I16 J16 _ h) 0 gX12_readsVertex_X12_isGood rfl (by decide +kernel) (by rw [hX]; exact ⟨Nat.le_of_ble_eq_true rfl, Nat.le_of_ble_eq_true rfl⟩) rfl (Nat.le_of_ble_eq_true rfl) rfl rfl rfl dX12_readsVertex_101 (kk_sB (fun v17 I17 J17 hb17 h => ?_))
    refine wz_if_ne C (tgt := 108) (rgB hb17) dX12_readsVertex_104 (by decide) (fun c => ?_) (fun c => ?_)
    · replace h := h.1 c
      refine wz_aload_n C rfl rfl dX12_readsVertex_108 ?_
      refine wz_getR C (j := 2) f_X12_readsVertex_26 rfl dX12_readsVertex_109 ?_
      refine wz_bipush C (by decide) dX12_readsVertex_112 ?_
      refine wz_iload_n C rfl rfl dX12_readsVertex_114 ?_
      refine wz_iadd C dX12_readsVertex_115 ?_
      refine wz_iload_n C rfl rfl dX12_readsVertex_116 ?_
      obtain ⟨g18, h⟩ := h
      refine wd_iastore C ((7 + l1).toNat) (n := 350) rfl (zN g18) (zL g18) (by decide) dX12_readsVertex_117 (fun I19 e => ?_)
      replace h := h I19 e
      refine wz_aload_n C rfl rfl dX12_readsVertex_118 ?_
      refine wz_getR C (j := 2) f_X12_readsVertex_26 rfl dX12_readsVertex_119 ?_
      refine wz_bipush C (by decide) dX12_readsVertex_122 ?_
      refine wz_iload_n C rfl rfl dX12_readsVertex_124 ?_
      refine wz_iadd C dX12_readsVertex_125 ?_
      refine wz_iload_n C rfl rfl dX12_readsVertex_126 ?_
      obtain ⟨g20, h⟩ := h
      refine wd_iastore C ((35 + l1).toNat) (n := 350) rfl (zN g20) (zL g20) (by decide) dX12_readsVertex_127 (fun I21 e => ?_)
      replace h := h I21 e
      refine wz_aload_n C rfl rfl dX12_readsVertex_128 ?_
      refine wz_getR C (j := 2) f_X12_readsVertex_26 rfl dX12_readsVertex_129 ?_
      refine wz_iconst C dX12_readsVertex_132 ?_
      refine wz_dup2 C rfl rfl dX12_readsVertex_133 ?_
      refine wz_iaload C 0 (n := 350) rfl rfl (by decide) (by decide) rfl dX12_readsVertex_134 ?_
      refine wz_iconst C dX12_readsVertex_135 ?_
      refine wz_iadd C dX12_readsVertex_136 ?_
      refine wd_iastore C 0 (n := 350) rfl rfl (by decide) (by decide) dX12_readsVertex_137 (fun I22 e => ?_)
      replace h := h I22 e
      refine wz_aload_n C rfl rfl dX12_readsVertex_138 ?_
      refine wz_getR C (j := 2) f_X12_readsVertex_26 rfl dX12_readsVertex_139 ?_
      refine wz_bipush C (by decide) dX12_readsVertex_142 ?_
      refine wz_dup2 C rfl rfl dX12_readsVertex_144 ?_
      refine wz_iaload C 105 (n := 350) rfl rfl (by decide) (by decide) rfl dX12_readsVertex_145 ?_
      refine wz_iconst C dX12_readsVertex_146 ?_
      refine wz_iadd C dX12_readsVertex_147 ?_
      refine wd_iastore C 105 (n := 350) rfl rfl (by decide) (by decide) dX12_readsVertex_148 (fun I23 e => ?_)
      replace h := h I23 e
      exact wz_vret C dX12_readsVertex_149 ⟨rfl, h⟩
    · replace h := h.2 c
      exact wz_vret C dX12_readsVertex_107 ⟨rfl, h⟩
  · replace h := h.2 c
    exact wz_vret C dX12_readsVertex_77 ⟨rfl, h⟩
set_option maxHeartbeats 4000000 in
set_option maxRecDepth 100000 in
theorem bk_X12_readsVertex_50 (G : KG) (hG : Kok G) (X : KX) (hX : KR X = rm_X12_readsVertex) (C : Fr G X cX12_readsVertex 3 yX12_readsVertex.cls none wsX12_readsVertex) (Q : Ii → Jj → Prop) (l1 : Int) (I : Ii) (J : Jj) (h : B_X12_readsVertex_50 Q l1 I J) : Wz G X 3 (QsU G X (QsV Q)) 0 0 50 [some (.ref (kadr G 0)), some (.int (iZ l1)), none] [] I J := by
  unfold B_X12_readsVertex_50 at h
  refine wz_aload_n C rfl rfl dX12_readsVertex_50 ?_
  refine wm_callV C (o := 0) (As := []) (st := []) (a' := 0) (b' := 0) rfl rfl (k_X12_isGood G hG I J _ h) 0 gX12_readsVertex_X12_isGood rfl (by decide +kernel) (by rw [hX]; exact ⟨Nat.le_of_ble_eq_true rfl, Nat.le_of_ble_eq_true rfl⟩) rfl (Nat.le_of_ble_eq_true rfl) rfl rfl rfl dX12_readsVertex_51 (kk_sB (fun v8 I8 J8 hb8 h => ?_))
  refine wz_if_eq C (tgt := 70) (rgB hb8) dX12_readsVertex_54 (by decide) (fun c => ?_) (fun c => ?_)
  · replace h := h.1 c
    exact bk_X12_readsVertex_70 G hG X hX C Q l1 I8 J8 h
  · replace h := h.2 c
    refine wz_aload_n C rfl rfl dX12_readsVertex_57 ?_
    refine wm_callV C (o := 0) (As := []) (st := []) (a' := 0) (b' := 0) rfl rfl (k_X12_named G hG I8 J8 _ h) 0 gX12_readsVertex_X12_named rfl (by decide +kernel) (by rw [hX]; exact ⟨Nat.le_of_ble_eq_true rfl, Nat.le_of_ble_eq_true rfl⟩) rfl (Nat.le_of_ble_eq_true rfl) rfl rfl rfl dX12_readsVertex_58 (kk_sI (fun v9 I9 J9 h => ?_))
    refine wz_iconst C dX12_readsVertex_61 ?_
    obtain ⟨g10, h⟩ := h
    refine wz_icmp_eq C (tgt := 70) g10 (by decide) dX12_readsVertex_62 (by decide) (fun c => ?_) (fun c => ?_)
    · replace h := h.1 c
      exact bk_X12_readsVertex_70 G hG X hX C Q l1 I9 J9 h
    · replace h := h.2 c
      refine wz_aload_n C rfl rfl dX12_readsVertex_65 ?_
      refine wz_iconst C dX12_readsVertex_66 ?_
      refine wm_callV C (o := 0) (As := [.int (iZ 3)]) (st := []) (a' := 0) (b' := 0) rfl rfl (k_X12_wrong G hG 3 I9 J9 _ h) 1 gX12_readsVertex_X12_wrong rfl (by decide +kernel) (by rw [hX]; exact ⟨Nat.le_of_ble_eq_true rfl, Nat.le_of_ble_eq_true rfl⟩) rfl (Nat.le_of_ble_eq_true rfl) rfl rfl rfl dX12_readsVertex_67 (kk_sV (fun I11 J11 h => ?_))
      exact bk_X12_readsVertex_70 G hG X hX C Q l1 I11 J11 h
set_option maxHeartbeats 4000000 in
set_option maxRecDepth 100000 in
theorem bk_X12_readsVertex_30 (G : KG) (hG : Kok G) (X : KX) (hX : KR X = rm_X12_readsVertex) (C : Fr G X cX12_readsVertex 3 yX12_readsVertex.cls none wsX12_readsVertex) (Q : Ii → Jj → Prop) (l1 : Int) (I : Ii) (J : Jj) (h : B_X12_readsVertex_30 Q l1 I J) : Wz G X 3 (QsU G X (QsV Q)) 0 0 30 [some (.ref (kadr G 0)), some (.int (iZ l1)), none] [] I J := by
  unfold B_X12_readsVertex_30 at h
  refine wz_aload_n C rfl rfl dX12_readsVertex_30 ?_
  refine wm_callV C (o := 0) (As := []) (st := []) (a' := 0) (b' := 0) rfl rfl (k_X12_isGood G hG I J _ h) 0 gX12_readsVertex_X12_isGood rfl (by decide +kernel) (by rw [hX]; exact ⟨Nat.le_of_ble_eq_true rfl, Nat.le_of_ble_eq_true rfl⟩) rfl (Nat.le_of_ble_eq_true rfl) rfl rfl rfl dX12_readsVertex_31 (kk_sB (fun v5 I5 J5 hb5 h => ?_))
  refine wz_if_eq C (tgt := 50) (rgB hb5) dX12_readsVertex_34 (by decide) (fun c => ?_) (fun c => ?_)
  · replace h := h.1 c
    exact bk_X12_readsVertex_50 G hG X hX C Q l1 I5 J5 h
  · replace h := h.2 c
    refine wz_aload_n C rfl rfl dX12_readsVertex_37 ?_
    refine wz_getI C rfl f_X12_readsVertex_132 rfl dX12_readsVertex_38 ?_
    refine wz_iconst C dX12_readsVertex_41 ?_
    obtain ⟨g6, h⟩ := h
    refine wz_icmp_eq C (tgt := 50) g6 (by decide) dX12_readsVertex_42 (by decide) (fun c => ?_) (fun c => ?_)
    · replace h := h.1 c
      exact bk_X12_readsVertex_50 G hG X hX C Q l1 I5 J5 h
    · replace h := h.2 c
      refine wz_aload_n C rfl rfl dX12_readsVertex_45 ?_
      refine wz_iconst C dX12_readsVertex_46 ?_
      refine wm_callV C (o := 0) (As := [.int (iZ 1)]) (st := []) (a' := 0) (b' := 0) rfl rfl (k_X12_wrong G hG 1 I5 J5 _ h) 1 gX12_readsVertex_X12_wrong rfl (by decide +kernel) (by rw [hX]; exact ⟨Nat.le_of_ble_eq_true rfl, Nat.le_of_ble_eq_true rfl⟩) rfl (Nat.le_of_ble_eq_true rfl) rfl rfl rfl dX12_readsVertex_47 (kk_sV (fun I7 J7 h => ?_))
      exact bk_X12_readsVertex_50 G hG X hX C Q l1 I7 J7 h
set_option maxHeartbeats 4000000 in
set_option maxRecDepth 100000 in
theorem bk_X12_readsVertex_19 (G : KG) (hG : Kok G) (X : KX) (hX : KR X = rm_X12_readsVertex) (C : Fr G X cX12_readsVertex 3 yX12_readsVertex.cls none wsX12_readsVertex) (Q : Ii → Jj → Prop) (l1 : Int) (I : Ii) (J : Jj) (h : B_X12_readsVertex_19 Q l1 I J) : Wz G X 3 (QsU G X (QsV Q)) 0 0 19 [some (.ref (kadr G 0)), some (.int (iZ l1)), none] [] I J := by
  unfold B_X12_readsVertex_19 at h
  refine wz_aload_n C rfl rfl dX12_readsVertex_19 ?_
  refine wm_callV C (o := 0) (As := []) (st := []) (a' := 0) (b' := 0) rfl rfl (k_X12_isGood G hG I J _ h) 0 gX12_readsVertex_X12_isGood rfl (by decide +kernel) (by rw [hX]; exact ⟨Nat.le_of_ble_eq_true rfl, Nat.le_of_ble_eq_true rfl⟩) rfl (Nat.le_of_ble_eq_true rfl) rfl rfl rfl dX12_readsVertex_20 (kk_sB (fun v3 I3 J3 hb3 h => ?_))
  refine wz_if_eq C (tgt := 30) (rgB hb3) dX12_readsVertex_23 (by decide) (fun c => ?_) (fun c => ?_)
  · replace h := h.1 c
    exact bk_X12_readsVertex_30 G hG X hX C Q l1 I3 J3 h
  · replace h := h.2 c
    refine wz_aload_n C rfl rfl dX12_readsVertex_26 ?_
    refine wm_callV C (o := 0) (As := []) (st := []) (a' := 0) (b' := 0) rfl rfl (k_X12_goOn G hG I3 J3 _ h) 0 gX12_readsVertex_X12_goOn rfl (by decide +kernel) (by rw [hX]; exact ⟨Nat.le_of_ble_eq_true rfl, Nat.le_of_ble_eq_true rfl⟩) rfl (Nat.le_of_ble_eq_true rfl) rfl rfl rfl dX12_readsVertex_27 (kk_sV (fun I4 J4 h => ?_))
    exact bk_X12_readsVertex_30 G hG X hX C Q l1 I4 J4 h
set_option maxHeartbeats 4000000 in
set_option maxRecDepth 100000 in
theorem k_X12_readsVertex (G : KG) (hG : Kok G) (I : Ii) (J : Jj) (Q : Ii → Jj → Prop) (h : wp_X12_readsVertex I J Q) : Ctr G yX12_readsVertex wsX12_readsVertex rm_X12_readsVertex [.ref (kadr G 0)] (I, J) (QsV Q) := by
  unfold wp_X12_readsVertex at h
  skip
  refine Ctr.ofZ (cc := cX12_readsVertex) (nL := 3) (ret := none) [some (.ref (kadr G 0)), none, none] hG (by decide +kernel) rfl (Nat.le_of_ble_eq_true rfl) (Nat.le_of_ble_eq_true rfl) (by simp [lvA, lv_args, Value.category]) ?_
  intro X hX C
  refine wz_aload_n C rfl rfl dX12_readsVertex_0 ?_
  refine wz_getR C (j := 2) f_X12_readsVertex_26 rfl dX12_readsVertex_1 ?_
  refine wz_iconst C dX12_readsVertex_4 ?_
  refine wz_iaload C 0 (n := 350) rfl rfl (by decide) (by decide) rfl dX12_readsVertex_5 ?_
  refine wz_istore_1 C rfl dX12_readsVertex_6 ?_
  refine wz_iload_n C rfl rfl dX12_readsVertex_7 ?_
  refine wz_bipush C (by decide) dX12_readsVertex_8 ?_
  obtain ⟨g1, h⟩ := h
  refine wz_icmp_ne C (tgt := 19) g1 (by decide) dX12_readsVertex_10 (by decide) (fun c => ?_) (fun c => ?_)
  · replace h := h.1 c
    exact bk_X12_readsVertex_19 G hG X hX C Q (I 2 0) I J h
  · replace h := h.2 c
    refine wz_aload_n C rfl rfl dX12_readsVertex_13 ?_
    refine wz_bipush C (by decide) dX12_readsVertex_14 ?_
    refine wm_callV C (o := 0) (As := [.int (iZ 6)]) (st := []) (a' := 0) (b' := 0) rfl rfl (k_X12_wrong G hG 6 I J _ h) 1 gX12_readsVertex_X12_wrong rfl (by decide +kernel) (by rw [hX]; exact ⟨Nat.le_of_ble_eq_true rfl, Nat.le_of_ble_eq_true rfl⟩) rfl (Nat.le_of_ble_eq_true rfl) rfl rfl rfl dX12_readsVertex_16 (kk_sV (fun I2 J2 h => ?_))
    exact bk_X12_readsVertex_19 G hG X hX C Q (I 2 0) I2 J2 h
