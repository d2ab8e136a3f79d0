theorem in_X12_closes_X12 : ∀ w ∈ wsX120, w ∈ wsX12_closes := by decide +kernel
theorem f_X12_closes_145 : FLk wsX12_closes RX12 145 12 43 := flk 12 43 rfl tyX12_ok nmX12 in_X12_closes_X12 (by decide) (by decide +kernel)
theorem f_X12_closes_69 : FLk wsX12_closes RX12 69 12 36 := flk 12 36 rfl tyX12_ok nmX12 in_X12_closes_X12 (by decide) (by decide +kernel)
theorem f_X12_closes_449 : FLk wsX12_closes RX12 449 12 41 := flk 12 41 rfl tyX12_ok nmX12 in_X12_closes_X12 (by decide) (by decide +kernel)
def rm_X12_closes : Room := { frames := 3, cells := 0, slots := 0, locals := 64 }
set_option maxHeartbeats 4000000 in
set_option maxRecDepth 100000 in
theorem lk_X12_closes_0 (G : KG) (hG : Kok G) (X : KX) (hX : KR X = rm_X12_closes) (C : Fr G X cX12_closes 1 yX12_closes.cls none wsX12_closes) (Q : Ii → Jj → Prop) : ∀ (n : Nat)  (I : Ii) (J : Jj), L_X12_closes_0 Q n  I J → Wz G X 1 (QsU G X (QsV Q)) 0 0 0 [some (.ref (kadr G 0))] [] I J := by
  intro n
  induction n with
  | zero => intro  I J h; exact False.elim h
  | succ n w0 =>
    intro  I J h
    have h : Lb_X12_closes_0 Q (L_X12_closes_0 Q n)  I J := h
    unfold Lb_X12_closes_0 at h
    generalize L_X12_closes_0 Q n = r0 at h w0
    refine wz_aload_n C rfl rfl dX12_closes_0 ?_
    refine wz_getI C rfl f_X12_closes_145 rfl dX12_closes_1 ?_
    obtain ⟨g1, h⟩ := h
    refine wz_if_le C (tgt := 60) g1 dX12_closes_4 (by decide) (fun c => ?_) (fun c => ?_)
    · replace h := h.1 c
      exact wz_vret C dX12_closes_60 ⟨rfl, h⟩
    · replace h := h.2 c
      refine wz_aload_n C rfl rfl dX12_closes_7 ?_
      refine wz_bipush C (by decide) dX12_closes_8 ?_
      refine wm_callV C (o := 0) (As := [.int (iZ 41)]) (st := []) (a' := 0) (b' := 0) rfl rfl (k_X12_isSign G hG 41 I J _ h) 1 gX12_closes_X12_isSign rfl (by decide +kernel) (by rw [hX]; exact ⟨Nat.le_of_ble_eq_true rfl, Nat.le_of_ble_eq_true rfl⟩) rfl (Nat.le_of_ble_eq_true rfl) rfl rfl rfl dX12_closes_10 (kk_sB (fun v2 I2 J2 hb2 h => ?_))
      refine wz_if_eq C (tgt := 60) (rgB hb2) dX12_closes_13 (by decide) (fun c => ?_) (fun c => ?_)
      · replace h := h.1 c
        exact wz_vret C dX12_closes_60 ⟨rfl, h⟩
      · replace h := h.2 c
        refine wz_aload_n C rfl rfl dX12_closes_16 ?_
        refine wz_dup C rfl dX12_closes_17 ?_
        refine wz_getI C rfl f_X12_closes_145 rfl dX12_closes_18 ?_
        refine wz_iconst C dX12_closes_21 ?_
        refine wz_isub C dX12_closes_22 ?_
        refine wd_putI C f_X12_closes_145 fp_X12_43 rfl dX12_closes_23 (fun I3 e => ?_)
        replace h := h I3 e
        refine wz_aload_n C rfl rfl dX12_closes_26 ?_
        refine wz_getR C (j := 16) f_X12_closes_69 rfl dX12_closes_27 ?_
        refine wz_aload_n C rfl rfl dX12_closes_30 ?_
        refine wz_getI C rfl f_X12_closes_449 rfl dX12_closes_31 ?_
        refine wz_bipush C (by decide) dX12_closes_34 ?_
        obtain ⟨g4, h⟩ := h
        refine wd_iastore C ((I3 0 41).toNat) (n := 60) rfl (zN g4) (zL g4) (by decide) dX12_closes_36 (fun I5 e => ?_)
        replace h := h I5 e
        refine wz_aload_n C rfl rfl dX12_closes_37 ?_
        refine wz_dup C rfl dX12_closes_38 ?_
        refine wz_getI C rfl f_X12_closes_449 rfl dX12_closes_39 ?_
        refine wz_iconst C dX12_closes_42 ?_
        refine wz_iadd C dX12_closes_43 ?_
        refine wd_putI C f_X12_closes_449 fp_X12_41 rfl dX12_closes_44 (fun I6 e => ?_)
        replace h := h I6 e
        refine wz_aload_n C rfl rfl dX12_closes_47 ?_
        refine wm_callV C (o := 0) (As := []) (st := []) (a' := 0) (b' := 0) rfl rfl (k_X12_goOn G hG I6 J2 _ h) 0 gX12_closes_X12_goOn rfl (by decide +kernel) (by rw [hX]; exact ⟨Nat.le_of_ble_eq_true rfl, Nat.le_of_ble_eq_true rfl⟩) rfl (Nat.le_of_ble_eq_true rfl) rfl rfl rfl dX12_closes_48 (kk_sV (fun I7 J7 h => ?_))
        refine wz_aload_n C rfl rfl dX12_closes_51 ?_
        refine wz_bipush C (by decide) dX12_closes_52 ?_
        refine wm_callV C (o := 0) (As := [.int (iZ 59)]) (st := []) (a' := 0) (b' := 0) rfl rfl (k_X12_mustSign G hG 59 I7 J7 _ h) 1 gX12_closes_X12_mustSign rfl (by decide +kernel) (by rw [hX]; exact ⟨Nat.le_of_ble_eq_true rfl, Nat.le_of_ble_eq_true rfl⟩) rfl (Nat.le_of_ble_eq_true rfl) rfl rfl rfl dX12_closes_54 (kk_sV (fun I8 J8 h => ?_))
        refine wz_goto C dX12_closes_57 (tgt := 0) (by decide) ?_
        exact w0 I8 J8 h
set_option maxHeartbeats 4000000 in
set_option maxRecDepth 100000 in
theorem k_X12_closes (G : KG) (hG : Kok G) (I : Ii) (J : Jj) (Q : Ii → Jj → Prop) (h : wp_X12_closes I J Q) : Ctr G yX12_closes wsX12_closes rm_X12_closes [.ref (kadr G 0)] (I, J) (QsV Q) := by
  unfold wp_X12_closes at h
  skip
  refine Ctr.ofZ (cc := cX12_closes) (nL := 1) (ret := none) [some (.ref (kadr G 0))] hG (by decide +kernel) rfl (Nat.le_of_ble_eq_true rfl) (Nat.le_of_ble_eq_true rfl) (by simp [lvA, lv_args, Value.category]) ?_
  intro X hX C
  obtain ⟨n, h⟩ := h
  exact lk_X12_closes_0 G hG X hX C Q n I J h
theorem in_X12_may_X12 : ∀ w ∈ wsX120, w ∈ wsX12_may := by decide +kernel
theorem f_X12_may_26 : FLk wsX12_may RX12 26 12 15 := flk 12 15 rfl tyX12_ok nmX12 in_X12_may_X12 (by decide) (by decide +kernel)
def rm_X12_may : Room := { frames := 7, cells := 0, slots := 0, locals := 159 }
set_option maxHeartbeats 4000000 in
set_option maxRecDepth 100000 in
theorem k_X12_may (G : KG) (hG : Kok G) (l1 : Int) (l2 : Int) (l3 : Int) (I : Ii) (J : Jj) (Q : Int → Ii → Jj → Prop) (h : wp_X12_may l1 l2 l3 I J Q) : Ctr G yX12_may wsX12_may rm_X12_may [.ref (kadr G 0), .int (iZ l1), .int (iZ l2), .int (iZ l3)] (I, J) (QsB Q) := by
  unfold wp_X12_may at h
  skip
  refine Ctr.ofZ (cc := cX12_may) (nL := 4) (ret := (some .boolean)) [some (.ref (kadr G 0)), some (.int (iZ l1)), some (.int (iZ l2)), some (.int (iZ l3))] hG (by decide +kernel) rfl (Nat.le_of_ble_eq_true rfl) (Nat.le_of_ble_eq_true rfl) (by simp [lvA, lv_args, Value.category]) ?_
  intro X hX C
  refine wz_iload_n C rfl rfl dX12_may_0 ?_
  obtain ⟨g1, h⟩ := h
  have c : (l1 < 0 ∨ 6 < l1) ∨ l1 = 0 ∨ l1 = 1 ∨ l1 = 2 ∨ l1 = 3 ∨ l1 = 4 ∨ l1 = 5 ∨ l1 = 6 := by omega
  rcases c with c | c | c | c | c | c | c | c
  · replace h := h.1 c
    refine wz_tableOut C (tgt := 153) g1 dX12_may_1 c (by decide) ?_
    refine wz_iload_n C rfl rfl dX12_may_153 ?_
    refine wd_i2l C dX12_may_154 ?_
    refine wz_lconst C (v := lZ 0) (by decide) dX12_may_155 ?_
    refine wz_ldc2_w C (v := lZ 99) (by decide +kernel) dX12_may_156 ?_
    refine wm_callS C (As := [.long (i2lZ l2), .long (lZ 0), .long (lZ 99)]) (st := []) (a' := 0) (b' := 0) (k_X12_isIn G hG (i2lZ l2) (lZ 0) (lZ 99) I J _ h) 3 gX12_may_X12_isIn rfl (by decide +kernel) (by rw [hX]; exact ⟨Nat.le_of_ble_eq_true rfl, Nat.le_of_ble_eq_true rfl⟩) rfl (Nat.le_of_ble_eq_true rfl) rfl rfl rfl dX12_may_159 (kk_sB (fun v2 I2 J2 hb2 h => ?_))
    exact wz_zret C h.1 dX12_may_162 ⟨_, rfl, h.1, h.2⟩
  · replace h := h.2.1 c
    refine wz_tableIn C (v := 0) (tgt := 44) c dX12_may_1 (by decide) rfl (by decide) ?_
    refine wz_aload_n C rfl rfl dX12_may_44 ?_
    refine wm_callV C (o := 0) (As := []) (st := []) (a' := 0) (b' := 0) rfl rfl (k_X12_whyShrink G hG I J _ h) 0 gX12_may_X12_whyShrink rfl (by decide +kernel) (by rw [hX]; exact ⟨Nat.le_of_ble_eq_true rfl, Nat.le_of_ble_eq_true rfl⟩) rfl (Nat.le_of_ble_eq_true rfl) rfl rfl rfl dX12_may_45 (kk_sI (fun v3 I3 J3 h => ?_))
    obtain ⟨g4, h⟩ := h
    refine wz_if_ne C (tgt := 55) g4 dX12_may_48 (by decide) (fun c => ?_) (fun c => ?_)
    · replace h := h.1 c
      refine wz_iconst C dX12_may_55 ?_
      exact wz_zret C (Or.inl rfl) dX12_may_56 ⟨_, rfl, (Or.inl rfl), h⟩
    · replace h := h.2 c
      refine wz_iconst C dX12_may_51 ?_
      refine wz_goto C dX12_may_52 (tgt := 56) (by decide) ?_
      exact wz_zret C (Or.inr rfl) dX12_may_56 ⟨_, rfl, (Or.inr rfl), h⟩
  · replace h := h.2.2.1 c
    refine wz_tableIn C (v := 1) (tgt := 57) c dX12_may_1 (by decide) rfl (by decide) ?_
    refine wz_aload_n C rfl rfl dX12_may_57 ?_
    refine wz_getR C (j := 2) f_X12_may_26 rfl dX12_may_58 ?_
    refine wz_iconst C dX12_may_61 ?_
    refine wz_iaload C 5 (n := 350) rfl rfl (by decide) (by decide) rfl dX12_may_62 ?_
    obtain ⟨g5, h⟩ := h
    refine wz_if_le C (tgt := 70) g5 dX12_may_63 (by decide) (fun c => ?_) (fun c => ?_)
    · replace h := h.1 c
      refine wz_iconst C dX12_may_70 ?_
      exact wz_zret C (Or.inl rfl) dX12_may_71 ⟨_, rfl, (Or.inl rfl), h⟩
    · replace h := h.2 c
      refine wz_iconst C dX12_may_66 ?_
      refine wz_goto C dX12_may_67 (tgt := 71) (by decide) ?_
      exact wz_zret C (Or.inr rfl) dX12_may_71 ⟨_, rfl, (Or.inr rfl), h⟩
  · replace h := h.2.2.2.1 c
    refine wz_tableIn C (v := 2) (tgt := 72) c dX12_may_1 (by decide) rfl (by decide) ?_
    refine wz_aload_n C rfl rfl dX12_may_72 ?_
    refine wz_iload_n C rfl rfl dX12_may_73 ?_
    refine wz_iload_n C rfl rfl dX12_may_74 ?_
    refine wm_callV C (o := 0) (As := [.int (iZ l2), .int (iZ l3)]) (st := []) (a' := 0) (b' := 0) rfl rfl (k_X12_areThere G hG l2 l3 I J _ h) 2 gX12_may_X12_areThere rfl (by decide +kernel) (by rw [hX]; exact ⟨Nat.le_of_ble_eq_true rfl, Nat.le_of_ble_eq_true rfl⟩) rfl (Nat.le_of_ble_eq_true rfl) rfl rfl rfl dX12_may_75 (kk_sB (fun v6 I6 J6 hb6 h => ?_))
    refine wz_if_eq C (tgt := 94) (rgB hb6) dX12_may_78 (by decide) (fun c => ?_) (fun c => ?_)
    · replace h := h.1 c
      refine wz_iconst C dX12_may_94 ?_
      exact wz_zret C (Or.inl rfl) dX12_may_95 ⟨_, rfl, (Or.inl rfl), h⟩
    · replace h := h.2 c
      refine wz_aload_n C rfl rfl dX12_may_81 ?_
      refine wz_iload_n C rfl rfl dX12_may_82 ?_
      refine wz_iload_n C rfl rfl dX12_may_83 ?_
      refine wm_callV C (o := 0) (As := [.int (iZ l2), .int (iZ l3)]) (st := []) (a' := 0) (b' := 0) rfl rfl (k_X12_whyMove G hG l2 l3 I6 J6 _ h) 2 gX12_may_X12_whyMove rfl (by decide +kernel) (by rw [hX]; exact ⟨Nat.le_of_ble_eq_true rfl, Nat.le_of_ble_eq_true rfl⟩) rfl (Nat.le_of_ble_eq_true rfl) rfl rfl rfl dX12_may_84 (kk_sI (fun v7 I7 J7 h => ?_))
      obtain ⟨g8, h⟩ := h
      refine wz_if_ne C (tgt := 94) g8 dX12_may_87 (by decide) (fun c => ?_) (fun c => ?_)
      · replace h := h.1 c
        refine wz_iconst C dX12_may_94 ?_
        exact wz_zret C (Or.inl rfl) dX12_may_95 ⟨_, rfl, (Or.inl rfl), h⟩
      · replace h := h.2 c
        refine wz_iconst C dX12_may_90 ?_
        refine wz_goto C dX12_may_91 (tgt := 95) (by decide) ?_
        exact wz_zret C (Or.inr rfl) dX12_may_95 ⟨_, rfl, (Or.inr rfl), h⟩
  · replace h := h.2.2.2.2.1 c
    refine wz_tableIn C (v := 3) (tgt := 96) c dX12_may_1 (by decide) rfl (by decide) ?_
    refine wz_aload_n C rfl rfl dX12_may_96 ?_
    refine wm_callV C (o := 0) (As := []) (st := []) (a' := 0) (b' := 0) rfl rfl (k_X12_nextNow G hG I J _ h) 0 gX12_may_X12_nextNow rfl (by decide +kernel) (by rw [hX]; exact ⟨Nat.le_of_ble_eq_true rfl, Nat.le_of_ble_eq_true rfl⟩) rfl (Nat.le_of_ble_eq_true rfl) rfl rfl rfl dX12_may_97 (kk_sI (fun v9 I9 J9 h => ?_))
    refine wz_iconst C dX12_may_100 ?_
    obtain ⟨g10, h⟩ := h
    refine wz_icmp_eq C (tgt := 108) g10 (by decide) dX12_may_101 (by decide) (fun c => ?_) (fun c => ?_)
    · replace h := h.1 c
      refine wz_iconst C dX12_may_108 ?_
      exact wz_zret C (Or.inl rfl) dX12_may_109 ⟨_, rfl, (Or.inl rfl), h⟩
    · replace h := h.2 c
      refine wz_iconst C dX12_may_104 ?_
      refine wz_goto C dX12_may_105 (tgt := 109) (by decide) ?_
      exact wz_zret C (Or.inr rfl) dX12_may_109 ⟨_, rfl, (Or.inr rfl), h⟩
  · replace h := h.2.2.2.2.2.1 c
    refine wz_tableIn C (v := 4) (tgt := 110) c dX12_may_1 (by decide) rfl (by decide) ?_
    refine wz_iload_n C rfl rfl dX12_may_110 ?_
    refine wd_i2l C dX12_may_111 ?_
    refine wz_lconst C (v := lZ 1) (by decide) dX12_may_112 ?_
    refine wz_ldc2_w C (v := lZ 99) (by decide +kernel) dX12_may_113 ?_
    refine wm_callS C (As := [.long (i2lZ l2), .long (lZ 1), .long (lZ 99)]) (st := []) (a' := 0) (b' := 0) (k_X12_isIn G hG (i2lZ l2) (lZ 1) (lZ 99) I J _ h) 3 gX12_may_X12_isIn rfl (by decide +kernel) (by rw [hX]; exact ⟨Nat.le_of_ble_eq_true rfl, Nat.le_of_ble_eq_true rfl⟩) rfl (Nat.le_of_ble_eq_true rfl) rfl rfl rfl dX12_may_116 (kk_sB (fun v11 I11 J11 hb11 h => ?_))
    exact wz_zret C h.1 dX12_may_119 ⟨_, rfl, h.1, h.2⟩
  · replace h := h.2.2.2.2.2.2.1 c
    refine wz_tableIn C (v := 5) (tgt := 120) c dX12_may_1 (by decide) rfl (by decide) ?_
    refine wz_aload_n C rfl rfl dX12_may_120 ?_
    refine wm_callV C (o := 0) (As := []) (st := []) (a' := 0) (b' := 0) rfl rfl (k_X12_groups G hG I J _ h) 0 gX12_may_X12_groups rfl (by decide +kernel) (by rw [hX]; exact ⟨Nat.le_of_ble_eq_true rfl, Nat.le_of_ble_eq_true rfl⟩) rfl (Nat.le_of_ble_eq_true rfl) rfl rfl rfl dX12_may_121 (kk_sI (fun v12 I12 J12 h => ?_))
    refine wz_bipush C (by decide) dX12_may_124 ?_
    obtain ⟨g13, h⟩ := h
    refine wz_icmp_gt C (tgt := 133) g13 (by decide) dX12_may_126 (by decide) (fun c => ?_) (fun c => ?_)
    · replace h := h.1 c
      refine wz_iconst C dX12_may_133 ?_
      exact wz_zret C (Or.inl rfl) dX12_may_134 ⟨_, rfl, (Or.inl rfl), h⟩
    · replace h := h.2 c
      refine wz_iconst C dX12_may_129 ?_
      refine wz_goto C dX12_may_130 (tgt := 134) (by decide) ?_
      exact wz_zret C (Or.inr rfl) dX12_may_134 ⟨_, rfl, (Or.inr rfl), h⟩
  · replace h := h.2.2.2.2.2.2.2 c
    refine wz_tableIn C (v := 6) (tgt := 135) c dX12_may_1 (by decide) rfl (by decide) ?_
    refine wz_iload_n C rfl rfl dX12_may_135 ?_
    refine wz_iload_n C rfl rfl dX12_may_136 ?_
    obtain ⟨g14, h⟩ := h
    obtain ⟨g15, h⟩ := h
    refine wz_icmp_eq C (tgt := 151) g14 g15 dX12_may_137 (by decide) (fun c => ?_) (fun c => ?_)
    · replace h := h.1 c
      refine wz_iconst C dX12_may_151 ?_
      exact wz_zret C (Or.inl rfl) dX12_may_152 ⟨_, rfl, (Or.inl rfl), h⟩
    · replace h := h.2 c
      refine wz_aload_n C rfl rfl dX12_may_140 ?_
      refine wm_callV C (o := 0) (As := []) (st := []) (a' := 0) (b' := 0) rfl rfl (k_X12_mayApart G hG I J _ h) 0 gX12_may_X12_mayApart rfl (by decide +kernel) (by rw [hX]; exact ⟨Nat.le_of_ble_eq_true rfl, Nat.le_of_ble_eq_true rfl⟩) rfl (Nat.le_of_ble_eq_true rfl) rfl rfl rfl dX12_may_141 (kk_sB (fun v16 I16 J16 hb16 h => ?_))
      refine wz_if_eq C (tgt := 151) (rgB hb16) dX12_may_144 (by decide) (fun c => ?_) (fun c => ?_)
      · replace h := h.1 c
        refine wz_iconst C dX12_may_151 ?_
        exact wz_zret C (Or.inl rfl) dX12_may_152 ⟨_, rfl, (Or.inl rfl), h⟩
      · replace h := h.2 c
        refine wz_iconst C dX12_may_147 ?_
        refine wz_goto C dX12_may_148 (tgt := 152) (by decide) ?_
        exact wz_zret C (Or.inr rfl) dX12_may_152 ⟨_, rfl, (Or.inr rfl), h⟩
theorem in_X12_tell_X12 : ∀ w ∈ wsX120, w ∈ wsX12_tell := by decide +kernel
theorem f_X12_tell_84 : FLk wsX12_tell RX12 84 12 45 := flk 12 45 rfl tyX12_ok nmX12 in_X12_tell_X12 (by decide) (by decide +kernel)
theorem f_X12_tell_471 : FLk wsX12_tell RX12 471 12 46 := flk 12 46 rfl tyX12_ok nmX12 in_X12_tell_X12 (by decide) (by decide +kernel)
theorem fp_X12_46 : FPk 12 46 .int := fun C9 T9 N9 h => by
  have h : some (RX12, TX12, 48) = some (C9, T9, N9) := h
  cases h
  exact ⟨rfl, by decide +kernel⟩
def rm_X12_tell : Room := { frames := 0, cells := 0, slots := 0, locals := 0 }
set_option maxHeartbeats 4000000 in
set_option maxRecDepth 100000 in
theorem k_X12_tell (G : KG) (hG : Kok G) (l1 : Int) (I : Ii) (J : Jj) (Q : Ii → Jj → Prop) (h : wp_X12_tell l1 I J Q) : Ctr G yX12_tell wsX12_tell rm_X12_tell [.ref (kadr G 0), .int (iZ l1)] (I, J) (QsV Q) := by
  unfold wp_X12_tell at h
  skip
  refine Ctr.ofZ (cc := cX12_tell) (nL := 2) (ret := none) [some (.ref (kadr G 0)), some (.int (iZ l1))] hG (by decide +kernel) rfl (Nat.le_of_ble_eq_true rfl) (Nat.le_of_ble_eq_true rfl) (by simp [lvA, lv_args, Value.category]) ?_
  intro X hX C
  refine wz_aload_n C rfl rfl dX12_tell_0 ?_
  refine wz_getR C (j := 21) f_X12_tell_84 rfl dX12_tell_1 ?_
  refine wz_aload_n C rfl rfl dX12_tell_4 ?_
  refine wz_getI C rfl f_X12_tell_471 rfl dX12_tell_5 ?_
  refine wz_iload_n C rfl rfl dX12_tell_8 ?_
  obtain ⟨g1, h⟩ := h
  refine wd_iastore C ((I 0 46).toNat) (n := 300) rfl (zN g1) (zL g1) (by decide) dX12_tell_9 (fun I2 e => ?_)
  replace h := h I2 e
  refine wz_aload_n C rfl rfl dX12_tell_10 ?_
  refine wz_dup C rfl dX12_tell_11 ?_
  refine wz_getI C rfl f_X12_tell_471 rfl dX12_tell_12 ?_
  refine wz_iconst C dX12_tell_15 ?_
  refine wz_iadd C dX12_tell_16 ?_
  refine wd_putI C f_X12_tell_471 fp_X12_46 rfl dX12_tell_17 (fun I3 e => ?_)
  replace h := h I3 e
  exact wz_vret C dX12_tell_20 ⟨rfl, h⟩
def rm_X12_tellName : Room := { frames := 1, cells := 0, slots := 0, locals := 21 }
set_option maxHeartbeats 4000000 in
set_option maxRecDepth 100000 in
theorem lk_X12_tellName_3 (G : KG) (hG : Kok G) (X : KX) (hX : KR X = rm_X12_tellName) (C : Fr G X cX12_tellName 4 yX12_tellName.cls none wsX12_tellName) (l1 : Int64) (Q : Ii → Jj → Prop) : ∀ (n : Nat) (l3 : Int) (I : Ii) (J : Jj), L_X12_tellName_3 l1 Q n l3 I J → Wz G X 4 (QsU G X (QsV Q)) 0 0 3 [some (.ref (kadr G 0)), some (.long l1), none, some (.int (iZ l3))] [] I J := by
  intro n
  induction n with
  | zero => intro l3 I J h; exact False.elim h
  | succ n w3 =>
    intro l3 I J h
    have h : Lb_X12_tellName_3 l1 Q (L_X12_tellName_3 l1 Q n) l3 I J := h
    unfold Lb_X12_tellName_3 at h
    generalize L_X12_tellName_3 l1 Q n = r3 at h w3
    refine wz_iload_n C rfl rfl dX12_tellName_3 ?_
    obtain ⟨g1, h⟩ := h
    refine wz_if_lt C (tgt := 36) g1 dX12_tellName_4 (by decide) (fun c => ?_) (fun c => ?_)
    · replace h := h.1 c
      exact wz_vret C dX12_tellName_36 ⟨rfl, h⟩
    · replace h := h.2 c
      refine wz_lload_n C rfl rfl dX12_tellName_7 ?_
      refine wz_iload_n C rfl rfl dX12_tellName_8 ?_
      refine wd_lshr C dX12_tellName_9 ?_
      refine wz_lconst C (v := lZ 0) (by decide) dX12_tellName_10 ?_
      refine wd_lcmp C dX12_tellName_11 ?_
      refine wz_if_le C (tgt := 30) (toInt_rg _) dX12_tellName_12 (by decide) (fun c => ?_) (fun c => ?_)
      · replace h := h.1 c
        refine wz_iinc_3 C rfl dX12_tellName_30 ?_
        refine wz_goto C dX12_tellName_33 (tgt := 3) (by decide) ?_
        exact w3 (l3 + (-5)) I J h
      · replace h := h.2 c
        refine wz_aload_n C rfl rfl dX12_tellName_15 ?_
        refine wz_bipush C (by decide) dX12_tellName_16 ?_
        refine wz_lload_n C rfl rfl dX12_tellName_18 ?_
        refine wz_iload_n C rfl rfl dX12_tellName_19 ?_
        refine wd_lshr C dX12_tellName_20 ?_
        refine wz_ldc2_w C (v := lZ 31) (by decide +kernel) dX12_tellName_21 ?_
        refine wz_land C rfl dX12_tellName_24 ?_
        refine wd_l2i C dX12_tellName_25 ?_
        refine wz_iadd C dX12_tellName_26 ?_
        refine wm_callV C (o := 0) (As := [.int (iZ (96 + (l2iZ ((shrL l1 l3) &&& (lZ 31)))))]) (st := []) (a' := 0) (b' := 0) rfl rfl (k_X12_tell G hG (96 + (l2iZ ((shrL l1 l3) &&& (lZ 31)))) I J _ h) 1 gX12_tellName_X12_tell rfl (by decide +kernel) (by rw [hX]; exact ⟨Nat.le_of_ble_eq_true rfl, Nat.le_of_ble_eq_true rfl⟩) rfl (Nat.le_of_ble_eq_true rfl) rfl rfl rfl dX12_tellName_27 (kk_sV (fun I2 J2 h => ?_))
        refine wz_iinc_3 C rfl dX12_tellName_30 ?_
        refine wz_goto C dX12_tellName_33 (tgt := 3) (by decide) ?_
        exact w3 (l3 + (-5)) I2 J2 h
set_option maxHeartbeats 4000000 in
set_option maxRecDepth 100000 in
theorem k_X12_tellName (G : KG) (hG : Kok G) (l1 : Int64) (I : Ii) (J : Jj) (Q : Ii → Jj → Prop) (h : wp_X12_tellName l1 I J Q) : Ctr G yX12_tellName wsX12_tellName rm_X12_tellName [.ref (kadr G 0), .long l1] (I, J) (QsV Q) := by
  unfold wp_X12_tellName at h
  skip
  refine Ctr.ofZ (cc := cX12_tellName) (nL := 4) (ret := none) [some (.ref (kadr G 0)), some (.long l1), none, none] hG (by decide +kernel) rfl (Nat.le_of_ble_eq_true rfl) (Nat.le_of_ble_eq_true rfl) (by simp [lvA, lv_args, Value.category]) ?_
  intro X hX C
  refine wz_bipush C (by decide) dX12_tellName_0 ?_
  refine wz_istore_3 C rfl dX12_tellName_2 ?_
  obtain ⟨n, h⟩ := h
  exact lk_X12_tellName_3 G hG X hX C l1 Q n 35 I J h
theorem in_X12_report_X12 : ∀ w ∈ wsX120, w ∈ wsX12_report := by decide +kernel
theorem f_X12_report_90 : FLk wsX12_report RX12 90 12 0 := flk 12 0 rfl tyX12_ok nmX12 in_X12_report_X12 (by decide) (by decide +kernel)
theorem f_X12_report_471 : FLk wsX12_report RX12 471 12 46 := flk 12 46 rfl tyX12_ok nmX12 in_X12_report_X12 (by decide) (by decide +kernel)
theorem f_X12_report_479 : FLk wsX12_report RX12 479 12 47 := flk 12 47 rfl tyX12_ok nmX12 in_X12_report_X12 (by decide) (by decide +kernel)
theorem fp_X12_47 : FPk 12 47 .boolean := fun C9 T9 N9 h => by
  have h : some (RX12, TX12, 48) = some (C9, T9, N9) := h
  cases h
  exact ⟨rfl, by decide +kernel⟩
theorem f_X12_report_26 : FLk wsX12_report RX12 26 12 15 := flk 12 15 rfl tyX12_ok nmX12 in_X12_report_X12 (by decide) (by decide +kernel)
theorem f_X12_report_41 : FLk wsX12_report RX12 41 12 20 := flk 12 20 rfl tyX12_ok nmX12 in_X12_report_X12 (by decide) (by decide +kernel)
def rm_X12_report : Room := { frames := 2, cells := 0, slots := 0, locals := 44 }
set_option maxHeartbeats 4000000 in
set_option maxRecDepth 100000 in
theorem lk_X12_report_48 (G : KG) (hG : Kok G) (X : KX) (hX : KR X = rm_X12_report) (C : Fr G X cX12_report 4 yX12_report.cls (some .int) wsX12_report) (Q : Int → Ii → Jj → Prop) (r22 : Int → Int → Ii → Jj → Prop) (w22 : ∀ (l1 : Int) (l2 : Int) (I : Ii) (J : Jj), r22 l1 l2 I J → Wz G X 4 (QsU G X (QsI Q)) 0 0 22 [some (.ref (kadr G 0)), some (.int (iZ l1)), some (.int (iZ l2)), none] [] I J) : ∀ (n : Nat) (l1 : Int) (l2 : Int) (l3 : Int) (I : Ii) (J : Jj), L_X12_report_48 Q r22 n l1 l2 l3 I J → Wz G X 4 (QsU G X (QsI Q)) 0 0 48 [some (.ref (kadr G 0)), some (.int (iZ l1)), some (.int (iZ l2)), some (.int (iZ l3))] [] I J := by
  intro n
  induction n with
  | zero => intro l1 l2 l3 I J h; exact False.elim h
  | succ n w48 =>
    intro l1 l2 l3 I J h
    have h : Lb_X12_report_48 Q r22 (L_X12_report_48 Q r22 n) l1 l2 l3 I J := h
    unfold Lb_X12_report_48 at h
    generalize L_X12_report_48 Q r22 n = r48 at h w48
    refine wz_iload_n C rfl rfl dX12_report_48 ?_
    refine wz_aload_n C rfl rfl dX12_report_49 ?_
    refine wz_getR C (j := 2) f_X12_report_26 rfl dX12_report_50 ?_
    refine wz_iconst C dX12_report_53 ?_
    refine wz_iaload C 0 (n := 350) rfl rfl (by decide) (by decide) rfl dX12_report_54 ?_
    obtain ⟨g9, h⟩ := h
    obtain ⟨g10, h⟩ := h
    refine wz_icmp_ge C (tgt := 110) g9 g10 dX12_report_55 (by decide) (fun c => ?_) (fun c => ?_)
    · replace h := h.1 c
      refine wz_aload_n C rfl rfl dX12_report_110 ?_
      refine wz_bipush C (by decide) dX12_report_111 ?_
      refine wm_callV C (o := 0) (As := [.int (iZ 10)]) (st := []) (a' := 0) (b' := 0) rfl rfl (k_X12_tell G hG 10 I J _ h) 1 gX12_report_X12_tell rfl (by decide +kernel) (by rw [hX]; exact ⟨Nat.le_of_ble_eq_true rfl, Nat.le_of_ble_eq_true rfl⟩) rfl (Nat.le_of_ble_eq_true rfl) rfl rfl rfl dX12_report_113 (kk_sV (fun I11 J11 h => ?_))
      refine wz_iinc_2 C rfl dX12_report_116 ?_
      refine wz_goto C dX12_report_119 (tgt := 22) (by decide) ?_
      exact Wz.drop (w22 l1 (l2 + 1) I11 J11 h) (And.intro rfl (And.intro rfl (And.intro rfl trivial)))
    · replace h := h.2 c
      refine wz_aload_n C rfl rfl dX12_report_58 ?_
      refine wz_getR C (j := 2) f_X12_report_26 rfl dX12_report_59 ?_
      refine wz_bipush C (by decide) dX12_report_62 ?_
      refine wz_iload_n C rfl rfl dX12_report_64 ?_
      refine wz_iadd C dX12_report_65 ?_
      obtain ⟨g12, h⟩ := h
      refine wz_iaload C ((21 + l3).toNat) (n := 350) rfl (zN g12) (zL g12) (by decide) rfl dX12_report_66 ?_
      refine wz_iload_n C rfl rfl dX12_report_67 ?_
      obtain ⟨g13, h⟩ := h
      obtain ⟨g14, h⟩ := h
      refine wz_icmp_eq C (tgt := 74) g13 g14 dX12_report_68 (by decide) (fun c => ?_) (fun c => ?_)
      · replace h := h.1 c
        refine wz_aload_n C rfl rfl dX12_report_74 ?_
        refine wz_bipush C (by decide) dX12_report_75 ?_
        refine wm_callV C (o := 0) (As := [.int (iZ 32)]) (st := []) (a' := 0) (b' := 0) rfl rfl (k_X12_tell G hG 32 I J _ h) 1 gX12_report_X12_tell rfl (by decide +kernel) (by rw [hX]; exact ⟨Nat.le_of_ble_eq_true rfl, Nat.le_of_ble_eq_true rfl⟩) rfl (Nat.le_of_ble_eq_true rfl) rfl rfl rfl dX12_report_77 (kk_sV (fun I15 J15 h => ?_))
        refine wz_aload_n C rfl rfl dX12_report_80 ?_
        refine wz_aload_n C rfl rfl dX12_report_81 ?_
        refine wz_getR C (j := 7) f_X12_report_41 rfl dX12_report_82 ?_
        refine wz_iload_n C rfl rfl dX12_report_85 ?_
        obtain ⟨g16, h⟩ := h
        refine wz_laload C l3.toNat (n := 14) rfl (zN g16) (zL g16) (by decide) rfl dX12_report_86 ?_
        refine wm_callV C (o := 0) (As := [.long (J15 7 l3.toNat)]) (st := []) (a' := 0) (b' := 0) rfl rfl (k_X12_tellName G hG (J15 7 l3.toNat) I15 J15 _ h) 1 gX12_report_X12_tellName rfl (by decide +kernel) (by rw [hX]; exact ⟨Nat.le_of_ble_eq_true rfl, Nat.le_of_ble_eq_true rfl⟩) rfl (Nat.le_of_ble_eq_true rfl) rfl rfl rfl dX12_report_87 (kk_sV (fun I17 J17 h => ?_))
        refine wz_iload_n C rfl rfl dX12_report_90 ?_
        refine wz_iload_n C rfl rfl dX12_report_91 ?_
        refine wm_callS C (As := [.int (iZ l1), .int (iZ l3)]) (st := []) (a' := 0) (b' := 0) (k_X12_hasBit G hG l1 l3 I17 J17 _ h) 2 gX12_report_X12_hasBit rfl (by decide +kernel) (by rw [hX]; exact ⟨Nat.le_of_ble_eq_true rfl, Nat.le_of_ble_eq_true rfl⟩) rfl (Nat.le_of_ble_eq_true rfl) rfl rfl rfl dX12_report_92 (kk_sB (fun v18 I18 J18 hb18 h => ?_))
        refine wz_if_eq C (tgt := 104) (rgB hb18) dX12_report_95 (by decide) (fun c => ?_) (fun c => ?_)
        · replace h := h.1 c
          refine wz_iinc_3 C rfl dX12_report_104 ?_
          refine wz_goto C dX12_report_107 (tgt := 48) (by decide) ?_
          exact w48 l1 l2 (l3 + 1) I18 J18 h
        · replace h := h.2 c
          refine wz_aload_n C rfl rfl dX12_report_98 ?_
          refine wz_bipush C (by decide) dX12_report_99 ?_
          refine wm_callV C (o := 0) (As := [.int (iZ 43)]) (st := []) (a' := 0) (b' := 0) rfl rfl (k_X12_tell G hG 43 I18 J18 _ h) 1 gX12_report_X12_tell rfl (by decide +kernel) (by rw [hX]; exact ⟨Nat.le_of_ble_eq_true rfl, Nat.le_of_ble_eq_true rfl⟩) rfl (Nat.le_of_ble_eq_true rfl) rfl rfl rfl dX12_report_101 (kk_sV (fun I19 J19 h => ?_))
          refine wz_iinc_3 C rfl dX12_report_104 ?_
          refine wz_goto C dX12_report_107 (tgt := 48) (by decide) ?_
          exact w48 l1 l2 (l3 + 1) I19 J19 h
      · replace h := h.2 c
        refine wz_goto C dX12_report_71 (tgt := 104) (by decide) ?_
        refine wz_iinc_3 C rfl dX12_report_104 ?_
        refine wz_goto C dX12_report_107 (tgt := 48) (by decide) ?_
        exact w48 l1 l2 (l3 + 1) I J h
set_option maxHeartbeats 4000000 in
set_option maxRecDepth 100000 in
theorem lk_X12_report_22 (G : KG) (hG : Kok G) (X : KX) (hX : KR X = rm_X12_report) (C : Fr G X cX12_report 4 yX12_report.cls (some .int) wsX12_report) (Q : Int → Ii → Jj → Prop) : ∀ (n : Nat) (l1 : Int) (l2 : Int) (I : Ii) (J : Jj), L_X12_report_22 Q n l1 l2 I J → Wz G X 4 (QsU G X (QsI Q)) 0 0 22 [some (.ref (kadr G 0)), some (.int (iZ l1)), some (.int (iZ l2)), none] [] I J := by
  intro n
  induction n with
  | zero => intro l1 l2 I J h; exact False.elim h
  | succ n w22 =>
    intro l1 l2 I J h
    have h : Lb_X12_report_22 Q (L_X12_report_22 Q n) l1 l2 I J := h
    unfold Lb_X12_report_22 at h
    generalize L_X12_report_22 Q n = r22 at h w22
    refine wz_iload_n C rfl rfl dX12_report_22 ?_
    refine wz_aload_n C rfl rfl dX12_report_23 ?_
    refine wz_getR C (j := 2) f_X12_report_26 rfl dX12_report_24 ?_
    refine wz_iconst C dX12_report_27 ?_
    refine wz_iaload C 2 (n := 350) rfl rfl (by decide) (by decide) rfl dX12_report_28 ?_
    obtain ⟨g5, h⟩ := h
    obtain ⟨g6, h⟩ := h
    refine wz_icmp_ge C (tgt := 122) g5 g6 dX12_report_29 (by decide) (fun c => ?_) (fun c => ?_)
    · replace h := h.1 c
      refine wz_aload_n C rfl rfl dX12_report_122 ?_
      refine wz_getI C rfl f_X12_report_471 rfl dX12_report_123 ?_
      exact wz_iret C dX12_report_126 ⟨_, rfl, h⟩
    · replace h := h.2 c
      refine wz_aload_n C rfl rfl dX12_report_32 ?_
      refine wz_bipush C (by decide) dX12_report_33 ?_
      refine wz_iload_n C rfl rfl dX12_report_35 ?_
      refine wz_iadd C dX12_report_36 ?_
      refine wm_callV C (o := 0) (As := [.int (iZ (48 + l2))]) (st := []) (a' := 0) (b' := 0) rfl rfl (k_X12_tell G hG (48 + l2) I J _ h) 1 gX12_report_X12_tell rfl (by decide +kernel) (by rw [hX]; exact ⟨Nat.le_of_ble_eq_true rfl, Nat.le_of_ble_eq_true rfl⟩) rfl (Nat.le_of_ble_eq_true rfl) rfl rfl rfl dX12_report_37 (kk_sV (fun I7 J7 h => ?_))
      refine wz_aload_n C rfl rfl dX12_report_40 ?_
      refine wz_bipush C (by decide) dX12_report_41 ?_
      refine wm_callV C (o := 0) (As := [.int (iZ 58)]) (st := []) (a' := 0) (b' := 0) rfl rfl (k_X12_tell G hG 58 I7 J7 _ h) 1 gX12_report_X12_tell rfl (by decide +kernel) (by rw [hX]; exact ⟨Nat.le_of_ble_eq_true rfl, Nat.le_of_ble_eq_true rfl⟩) rfl (Nat.le_of_ble_eq_true rfl) rfl rfl rfl dX12_report_43 (kk_sV (fun I8 J8 h => ?_))
      refine wz_iconst C dX12_report_46 ?_
      refine wz_istore_3 C rfl dX12_report_47 ?_
      obtain ⟨n, h⟩ := h
      exact lk_X12_report_48 G hG X hX C Q r22 w22 n l1 l2 0 I8 J8 h
set_option maxHeartbeats 4000000 in
set_option maxRecDepth 100000 in
theorem k_X12_report (G : KG) (hG : Kok G) (I : Ii) (J : Jj) (Q : Int → Ii → Jj → Prop) (h : wp_X12_report I J Q) : Ctr G yX12_report wsX12_report rm_X12_report [.ref (kadr G 0)] (I, J) (QsI Q) := by
  unfold wp_X12_report at h
  skip
  refine Ctr.ofZ (cc := cX12_report) (nL := 4) (ret := (some .int)) [some (.ref (kadr G 0)), none, none, none] hG (by decide +kernel) rfl (Nat.le_of_ble_eq_true rfl) (Nat.le_of_ble_eq_true rfl) (by simp [lvA, lv_args, Value.category]) ?_
  intro X hX C
  refine wz_aload_n C rfl rfl dX12_report_0 ?_
  refine wz_iconst C dX12_report_1 ?_
  refine wd_putI C f_X12_report_90 fp_X12_0 rfl dX12_report_2 (fun I1 e => ?_)
  replace h := h I1 e
  refine wz_aload_n C rfl rfl dX12_report_5 ?_
  refine wz_iconst C dX12_report_6 ?_
  refine wd_putI C f_X12_report_471 fp_X12_46 rfl dX12_report_7 (fun I2 e => ?_)
  replace h := h I2 e
  refine wz_aload_n C rfl rfl dX12_report_10 ?_
  refine wz_iconst C dX12_report_11 ?_
  refine wd_putZ C f_X12_report_479 fp_X12_47 (Or.inr rfl) rfl dX12_report_12 (fun I3 e => ?_)
  replace h := h I3 e
  refine wz_aload_n C rfl rfl dX12_report_15 ?_
  refine wm_callV C (o := 0) (As := []) (st := []) (a' := 0) (b' := 0) rfl rfl (k_X12_borderNow G hG I3 J _ h) 0 gX12_report_X12_borderNow rfl (by decide +kernel) (by rw [hX]; exact ⟨Nat.le_of_ble_eq_true rfl, Nat.le_of_ble_eq_true rfl⟩) rfl (Nat.le_of_ble_eq_true rfl) rfl rfl rfl dX12_report_16 (kk_sI (fun v4 I4 J4 h => ?_))
  refine wz_istore_1 C rfl dX12_report_19 ?_
  refine wz_iconst C dX12_report_20 ?_
  refine wz_istore_2 C rfl dX12_report_21 ?_
  obtain ⟨n, h⟩ := h
  exact lk_X12_report_22 G hG X hX C Q n v4 0 I4 J4 h
theorem in_X12_reportByte_X12 : ∀ w ∈ wsX120, w ∈ wsX12_reportByte := by decide +kernel
theorem f_X12_reportByte_479 : FLk wsX12_reportByte RX12 479 12 47 := flk 12 47 rfl tyX12_ok nmX12 in_X12_reportByte_X12 (by decide) (by decide +kernel)
theorem f_X12_reportByte_471 : FLk wsX12_reportByte RX12 471 12 46 := flk 12 46 rfl tyX12_ok nmX12 in_X12_reportByte_X12 (by decide) (by decide +kernel)
theorem f_X12_reportByte_84 : FLk wsX12_reportByte RX12 84 12 45 := flk 12 45 rfl tyX12_ok nmX12 in_X12_reportByte_X12 (by decide) (by decide +kernel)
def rm_X12_reportByte : Room := { frames := 2, cells := 0, slots := 0, locals := 41 }
set_option maxHeartbeats 4000000 in
set_option maxRecDepth 100000 in
theorem bk_X12_reportByte_29 (G : KG) (hG : Kok G) (X : KX) (hX : KR X = rm_X12_reportByte) (C : Fr G X cX12_reportByte 2 yX12_reportByte.cls (some .int) wsX12_reportByte) (l1 : Int) (Q : Int → Ii → Jj → Prop) (t1 : Int) (I : Ii) (J : Jj) (h : B_X12_reportByte_29 l1 Q t1 I J) : Wz G X 2 (QsU G X (QsI Q)) 0 0 29 [some (.ref (kadr G 0)), some (.int (iZ l1))] [.int (iZ t1), .ref (kadr G 0)] I J := by
  unfold B_X12_reportByte_29 at h
  refine wm_callV C (o := 0) (As := [.int (iZ t1)]) (st := []) (a' := 0) (b' := 0) rfl rfl (k_X12_goes G hG t1 I J _ h) 1 gX12_reportByte_X12_goes rfl (by decide +kernel) (by rw [hX]; exact ⟨Nat.le_of_ble_eq_true rfl, Nat.le_of_ble_eq_true rfl⟩) rfl (Nat.le_of_ble_eq_true rfl) rfl rfl rfl dX12_reportByte_29 (kk_sB (fun v3 I3 J3 hb3 h => ?_))
  refine wz_if_eq C (tgt := 44) (rgB hb3) dX12_reportByte_32 (by decide) (fun c => ?_) (fun c => ?_)
  · replace h := h.1 c
    refine wz_iconst C dX12_reportByte_44 ?_
    exact wz_iret C dX12_reportByte_45 ⟨_, rfl, h⟩
  · replace h := h.2 c
    refine wz_aload_n C rfl rfl dX12_reportByte_35 ?_
    refine wz_getR C (j := 21) f_X12_reportByte_84 rfl dX12_reportByte_36 ?_
    refine wz_iload_n C rfl rfl dX12_reportByte_39 ?_
    obtain ⟨g4, h⟩ := h
    refine wz_iaload C l1.toNat (n := 300) rfl (zN g4) (zL g4) (by decide) rfl dX12_reportByte_40 ?_
    refine wz_goto C dX12_reportByte_41 (tgt := 45) (by decide) ?_
    exact wz_iret C dX12_reportByte_45 ⟨_, rfl, h⟩
set_option maxHeartbeats 4000000 in
set_option maxRecDepth 100000 in
theorem k_X12_reportByte (G : KG) (hG : Kok G) (l1 : Int) (I : Ii) (J : Jj) (Q : Int → Ii → Jj → Prop) (h : wp_X12_reportByte l1 I J Q) : Ctr G yX12_reportByte wsX12_reportByte rm_X12_reportByte [.ref (kadr G 0), .int (iZ l1)] (I, J) (QsI Q) := by
  unfold wp_X12_reportByte at h
  skip
  refine Ctr.ofZ (cc := cX12_reportByte) (nL := 2) (ret := (some .int)) [some (.ref (kadr G 0)), some (.int (iZ l1))] hG (by decide +kernel) rfl (Nat.le_of_ble_eq_true rfl) (Nat.le_of_ble_eq_true rfl) (by simp [lvA, lv_args, Value.category]) ?_
  intro X hX C
  refine wz_aload_n C rfl rfl dX12_reportByte_0 ?_
  refine wz_aload_n C rfl rfl dX12_reportByte_1 ?_
  refine wz_getI C rfl f_X12_reportByte_479 rfl dX12_reportByte_2 ?_
  obtain ⟨g1, h⟩ := h
  refine wz_if_eq C (tgt := 28) g1 dX12_reportByte_5 (by decide) (fun c => ?_) (fun c => ?_)
  · replace h := h.1 c
    refine wz_iconst C dX12_reportByte_28 ?_
    exact bk_X12_reportByte_29 G hG X hX C l1 Q 0 I J h
  · replace h := h.2 c
    refine wz_iload_n C rfl rfl dX12_reportByte_8 ?_
    refine wd_i2l C dX12_reportByte_9 ?_
    refine wz_lconst C (v := lZ 0) (by decide) dX12_reportByte_10 ?_
    refine wz_aload_n C rfl rfl dX12_reportByte_11 ?_
    refine wz_getI C rfl f_X12_reportByte_471 rfl dX12_reportByte_12 ?_
    refine wz_iconst C dX12_reportByte_15 ?_
    refine wz_isub C dX12_reportByte_16 ?_
    refine wd_i2l C dX12_reportByte_17 ?_
    refine wm_callS C (As := [.long (i2lZ l1), .long (lZ 0), .long (i2lZ ((I 0 46) - 1))]) (st := [.ref (kadr G 0)]) (a' := 0) (b' := 0) (k_X12_isIn G hG (i2lZ l1) (lZ 0) (i2lZ ((I 0 46) - 1)) I J _ h) 3 gX12_reportByte_X12_isIn rfl (by decide +kernel) (by rw [hX]; exact ⟨Nat.le_of_ble_eq_true rfl, Nat.le_of_ble_eq_true rfl⟩) rfl (Nat.le_of_ble_eq_true rfl) rfl rfl rfl dX12_reportByte_18 (kk_sB (fun v2 I2 J2 hb2 h => ?_))
    refine wz_if_eq C (tgt := 28) (rgB hb2) dX12_reportByte_21 (by decide) (fun c => ?_) (fun c => ?_)
    · replace h := h.1 c
      refine wz_iconst C dX12_reportByte_28 ?_
      exact bk_X12_reportByte_29 G hG X hX C l1 Q 0 I2 J2 h
    · replace h := h.2 c
      refine wz_iconst C dX12_reportByte_24 ?_
      refine wz_goto C dX12_reportByte_25 (tgt := 29) (by decide) ?_
      exact bk_X12_reportByte_29 G hG X hX C l1 Q 1 I2 J2 h
theorem in_X12_feed_X12 : ∀ w ∈ wsX120, w ∈ wsX12_feed := by decide +kernel
theorem f_X12_feed_97 : FLk wsX12_feed RX12 97 12 2 := flk 12 2 rfl tyX12_ok nmX12 in_X12_feed_X12 (by decide) (by decide +kernel)
def rm_X12_feed : Room := { frames := 2, cells := 0, slots := 0, locals := 41 }
set_option maxHeartbeats 4000000 in
set_option maxRecDepth 100000 in
theorem bk_X12_feed_19 (G : KG) (hG : Kok G) (X : KX) (hX : KR X = rm_X12_feed) (C : Fr G X cX12_feed 6 yX12_feed.cls (some .int) wsX12_feed) (l1 : Int) (l2 : Int) (l3 : Int) (l4 : Int) (l5 : Int) (Q : Int → Ii → Jj → Prop) (t1 : Int) (I : Ii) (J : Jj) (h : B_X12_feed_19 l1 l2 l3 l4 l5 Q t1 I J) : Wz G X 6 (QsU G X (QsI Q)) 0 0 19 [some (.ref (kadr G 0)), some (.int (iZ l1)), some (.int (iZ l2)), some (.int (iZ l3)), some (.int (iZ l4)), some (.int (iZ l5))] [.int (iZ t1), .ref (kadr G 0)] I J := by
  unfold B_X12_feed_19 at h
  refine wm_callV C (o := 0) (As := [.int (iZ t1)]) (st := []) (a' := 0) (b' := 0) rfl rfl (k_X12_goes G hG t1 I J _ h) 1 gX12_feed_X12_goes rfl (by decide +kernel) (by rw [hX]; exact ⟨Nat.le_of_ble_eq_true rfl, Nat.le_of_ble_eq_true rfl⟩) rfl (Nat.le_of_ble_eq_true rfl) rfl rfl rfl dX12_feed_19 (kk_sB (fun v2 I2 J2 hb2 h => ?_))
  refine wz_if_ne C (tgt := 27) (rgB hb2) dX12_feed_22 (by decide) (fun c => ?_) (fun c => ?_)
  · replace h := h.1 c
    refine wz_aload_n C rfl rfl dX12_feed_27 ?_
    refine wz_iload_n C rfl rfl dX12_feed_28 ?_
    refine wm_callV C (o := 0) (As := [.int (iZ l1)]) (st := []) (a' := 0) (b' := 0) rfl rfl (k_X12_four G hG l1 I2 J2 _ h) 1 gX12_feed_X12_four rfl (by decide +kernel) (by rw [hX]; exact ⟨Nat.le_of_ble_eq_true rfl, Nat.le_of_ble_eq_true rfl⟩) rfl (Nat.le_of_ble_eq_true rfl) rfl rfl rfl dX12_feed_29 (kk_sV (fun I3 J3 h => ?_))
    refine wz_aload_n C rfl rfl dX12_feed_32 ?_
    refine wz_iload_n C rfl rfl dX12_feed_33 ?_
    refine wm_callV C (o := 0) (As := [.int (iZ l2)]) (st := []) (a' := 0) (b' := 0) rfl rfl (k_X12_four G hG l2 I3 J3 _ h) 1 gX12_feed_X12_four rfl (by decide +kernel) (by rw [hX]; exact ⟨Nat.le_of_ble_eq_true rfl, Nat.le_of_ble_eq_true rfl⟩) rfl (Nat.le_of_ble_eq_true rfl) rfl rfl rfl dX12_feed_34 (kk_sV (fun I4 J4 h => ?_))
    refine wz_aload_n C rfl rfl dX12_feed_37 ?_
    refine wz_iload_n C rfl rfl dX12_feed_38 ?_
    refine wm_callV C (o := 0) (As := [.int (iZ l3)]) (st := []) (a' := 0) (b' := 0) rfl rfl (k_X12_four G hG l3 I4 J4 _ h) 1 gX12_feed_X12_four rfl (by decide +kernel) (by rw [hX]; exact ⟨Nat.le_of_ble_eq_true rfl, Nat.le_of_ble_eq_true rfl⟩) rfl (Nat.le_of_ble_eq_true rfl) rfl rfl rfl dX12_feed_39 (kk_sV (fun I5 J5 h => ?_))
    refine wz_aload_n C rfl rfl dX12_feed_42 ?_
    refine wz_iload C rfl dX12_feed_43 ?_
    refine wm_callV C (o := 0) (As := [.int (iZ l4)]) (st := []) (a' := 0) (b' := 0) rfl rfl (k_X12_four G hG l4 I5 J5 _ h) 1 gX12_feed_X12_four rfl (by decide +kernel) (by rw [hX]; exact ⟨Nat.le_of_ble_eq_true rfl, Nat.le_of_ble_eq_true rfl⟩) rfl (Nat.le_of_ble_eq_true rfl) rfl rfl rfl dX12_feed_45 (kk_sV (fun I6 J6 h => ?_))
    refine wz_aload_n C rfl rfl dX12_feed_48 ?_
    refine wz_iload C rfl dX12_feed_49 ?_
    refine wm_callV C (o := 0) (As := [.int (iZ l5)]) (st := []) (a' := 0) (b' := 0) rfl rfl (k_X12_four G hG l5 I6 J6 _ h) 1 gX12_feed_X12_four rfl (by decide +kernel) (by rw [hX]; exact ⟨Nat.le_of_ble_eq_true rfl, Nat.le_of_ble_eq_true rfl⟩) rfl (Nat.le_of_ble_eq_true rfl) rfl rfl rfl dX12_feed_51 (kk_sV (fun I7 J7 h => ?_))
    refine wz_aload_n C rfl rfl dX12_feed_54 ?_
    refine wz_getI C rfl f_X12_feed_97 rfl dX12_feed_55 ?_
    exact wz_iret C dX12_feed_58 ⟨_, rfl, h⟩
  · replace h := h.2 c
    refine wz_iconst C dX12_feed_25 ?_
    exact wz_iret C dX12_feed_26 ⟨_, rfl, h⟩
set_option maxHeartbeats 4000000 in
set_option maxRecDepth 100000 in
theorem k_X12_feed (G : KG) (hG : Kok G) (l1 : Int) (l2 : Int) (l3 : Int) (l4 : Int) (l5 : Int) (I : Ii) (J : Jj) (Q : Int → Ii → Jj → Prop) (h : wp_X12_feed l1 l2 l3 l4 l5 I J Q) : Ctr G yX12_feed wsX12_feed rm_X12_feed [.ref (kadr G 0), .int (iZ l1), .int (iZ l2), .int (iZ l3), .int (iZ l4), .int (iZ l5)] (I, J) (QsI Q) := by
  unfold wp_X12_feed at h
  skip
  refine Ctr.ofZ (cc := cX12_feed) (nL := 6) (ret := (some .int)) [some (.ref (kadr G 0)), some (.int (iZ l1)), some (.int (iZ l2)), some (.int (iZ l3)), some (.int (iZ l4)), some (.int (iZ l5))] hG (by decide +kernel) rfl (Nat.le_of_ble_eq_true rfl) (Nat.le_of_ble_eq_true rfl) (by simp [lvA, lv_args, Value.category]) ?_
  intro X hX C
  refine wz_aload_n C rfl rfl dX12_feed_0 ?_
  refine wz_aload_n C rfl rfl dX12_feed_1 ?_
  refine wz_getI C rfl f_X12_feed_97 rfl dX12_feed_2 ?_
  refine wz_bipush C (by decide) dX12_feed_5 ?_
  refine wz_iadd C dX12_feed_7 ?_
  refine wz_sipush C (by decide) dX12_feed_8 ?_
  obtain ⟨g1, h⟩ := h
  refine wz_icmp_gt C (tgt := 18) g1 (by decide) dX12_feed_11 (by decide) (fun c => ?_) (fun c => ?_)
  · replace h := h.1 c
    refine wz_iconst C dX12_feed_18 ?_
    exact bk_X12_feed_19 G hG X hX C l1 l2 l3 l4 l5 Q 0 I J h
  · replace h := h.2 c
    refine wz_iconst C dX12_feed_14 ?_
    refine wz_goto C dX12_feed_15 (tgt := 19) (by decide) ?_
    exact bk_X12_feed_19 G hG X hX C l1 l2 l3 l4 l5 Q 1 I J h
theorem in_X12_save_X12 : ∀ w ∈ wsX120, w ∈ wsX12_save := by decide +kernel
theorem f_X12_save_90 : FLk wsX12_save RX12 90 12 0 := flk 12 0 rfl tyX12_ok nmX12 in_X12_save_X12 (by decide) (by decide +kernel)
theorem f_X12_save_29 : FLk wsX12_save RX12 29 12 16 := flk 12 16 rfl tyX12_ok nmX12 in_X12_save_X12 (by decide) (by decide +kernel)
theorem f_X12_save_26 : FLk wsX12_save RX12 26 12 15 := flk 12 15 rfl tyX12_ok nmX12 in_X12_save_X12 (by decide) (by decide +kernel)
theorem f_X12_save_169 : FLk wsX12_save RX12 169 12 24 := flk 12 24 rfl tyX12_ok nmX12 in_X12_save_X12 (by decide) (by decide +kernel)
theorem fp_X12_24 : FPk 12 24 .boolean := fun C9 T9 N9 h => by
  have h : some (RX12, TX12, 48) = some (C9, T9, N9) := h
  cases h
  exact ⟨rfl, by decide +kernel⟩
theorem f_X12_save_45 : FLk wsX12_save RX12 45 12 21 := flk 12 21 rfl tyX12_ok nmX12 in_X12_save_X12 (by decide) (by decide +kernel)
theorem f_X12_save_41 : FLk wsX12_save RX12 41 12 20 := flk 12 20 rfl tyX12_ok nmX12 in_X12_save_X12 (by decide) (by decide +kernel)
def rm_X12_save : Room := { frames := 2, cells := 0, slots := 0, locals := 43 }
set_option maxHeartbeats 4000000 in
set_option maxRecDepth 100000 in
theorem lk_X12_save_34 (G : KG) (hG : Kok G) (X : KX) (hX : KR X = rm_X12_save) (C : Fr G X cX12_save 2 yX12_save.cls (some .int) wsX12_save) (Q : Int → Ii → Jj → Prop) : ∀ (n : Nat) (l1 : Int) (I : Ii) (J : Jj), L_X12_save_34 Q n l1 I J → Wz G X 2 (QsU G X (QsI Q)) 0 0 34 [some (.ref (kadr G 0)), some (.int (iZ l1))] [] I J := by
  intro n
  induction n with
  | zero => intro l1 I J h; exact False.elim h
  | succ n w34 =>
    intro l1 I J h
    have h : Lb_X12_save_34 Q (L_X12_save_34 Q n) l1 I J := h
    unfold Lb_X12_save_34 at h
    generalize L_X12_save_34 Q n = r34 at h w34
    refine wz_iload_n C rfl rfl dX12_save_34 ?_
    refine wz_bipush C (by decide) dX12_save_35 ?_
    obtain ⟨g6, h⟩ := h
    refine wz_icmp_ge C (tgt := 58) g6 (by decide) dX12_save_37 (by decide) (fun c => ?_) (fun c => ?_)
    · replace h := h.1 c
      refine wz_aload_n C rfl rfl dX12_save_58 ?_
      refine wz_iconst C dX12_save_59 ?_
      refine wd_putZ C f_X12_save_169 fp_X12_24 (Or.inr rfl) rfl dX12_save_60 (fun I7 e => ?_)
      replace h := h I7 e
      refine wz_aload_n C rfl rfl dX12_save_63 ?_
      refine wm_callV C (o := 0) (As := []) (st := []) (a' := 0) (b' := 0) rfl rfl (k_X12_cutNow G hG I7 J _ h) 0 gX12_save_X12_cutNow rfl (by decide +kernel) (by rw [hX]; exact ⟨Nat.le_of_ble_eq_true rfl, Nat.le_of_ble_eq_true rfl⟩) rfl (Nat.le_of_ble_eq_true rfl) rfl rfl rfl dX12_save_64 (kk_sI (fun v8 I8 J8 h => ?_))
      exact wz_iret C dX12_save_67 ⟨_, rfl, h⟩
    · replace h := h.2 c
      refine wz_aload_n C rfl rfl dX12_save_40 ?_
      refine wz_getR C (j := 8) f_X12_save_45 rfl dX12_save_41 ?_
      refine wz_iload_n C rfl rfl dX12_save_44 ?_
      refine wz_aload_n C rfl rfl dX12_save_45 ?_
      refine wz_getR C (j := 7) f_X12_save_41 rfl dX12_save_46 ?_
      refine wz_iload_n C rfl rfl dX12_save_49 ?_
      obtain ⟨g9, h⟩ := h
      refine wz_laload C l1.toNat (n := 14) rfl (zN g9) (zL g9) (by decide) rfl dX12_save_50 ?_
      obtain ⟨g10, h⟩ := h
      refine wd_lastore C l1.toNat (n := 14) rfl (zN g10) (zL g10) (by decide) dX12_save_51 (fun J11 e => ?_)
      replace h := h J11 e
      refine wz_iinc_1 C rfl dX12_save_52 ?_
      refine wz_goto C dX12_save_55 (tgt := 34) (by decide) ?_
      exact w34 (l1 + 1) I J11 h
set_option maxHeartbeats 4000000 in
set_option maxRecDepth 100000 in
theorem lk_X12_save_7 (G : KG) (hG : Kok G) (X : KX) (hX : KR X = rm_X12_save) (C : Fr G X cX12_save 2 yX12_save.cls (some .int) wsX12_save) (Q : Int → Ii → Jj → Prop) : ∀ (n : Nat) (l1 : Int) (I : Ii) (J : Jj), L_X12_save_7 Q n l1 I J → Wz G X 2 (QsU G X (QsI Q)) 0 0 7 [some (.ref (kadr G 0)), some (.int (iZ l1))] [] I J := by
  intro n
  induction n with
  | zero => intro l1 I J h; exact False.elim h
  | succ n w7 =>
    intro l1 I J h
    have h : Lb_X12_save_7 Q (L_X12_save_7 Q n) l1 I J := h
    unfold Lb_X12_save_7 at h
    generalize L_X12_save_7 Q n = r7 at h w7
    refine wz_iload_n C rfl rfl dX12_save_7 ?_
    refine wz_sipush C (by decide) dX12_save_8 ?_
    obtain ⟨g2, h⟩ := h
    refine wz_icmp_ge C (tgt := 32) g2 (by decide) dX12_save_11 (by decide) (fun c => ?_) (fun c => ?_)
    · replace h := h.1 c
      refine wz_iconst C dX12_save_32 ?_
      refine wz_istore_1 C rfl dX12_save_33 ?_
      obtain ⟨n, h⟩ := h
      exact lk_X12_save_34 G hG X hX C Q n 0 I J h
    · replace h := h.2 c
      refine wz_aload_n C rfl rfl dX12_save_14 ?_
      refine wz_getR C (j := 3) f_X12_save_29 rfl dX12_save_15 ?_
      refine wz_iload_n C rfl rfl dX12_save_18 ?_
      refine wz_aload_n C rfl rfl dX12_save_19 ?_
      refine wz_getR C (j := 2) f_X12_save_26 rfl dX12_save_20 ?_
      refine wz_iload_n C rfl rfl dX12_save_23 ?_
      obtain ⟨g3, h⟩ := h
      refine wz_iaload C l1.toNat (n := 350) rfl (zN g3) (zL g3) (by decide) rfl dX12_save_24 ?_
      obtain ⟨g4, h⟩ := h
      refine wd_iastore C l1.toNat (n := 350) rfl (zN g4) (zL g4) (by decide) dX12_save_25 (fun I5 e => ?_)
      replace h := h I5 e
      refine wz_iinc_1 C rfl dX12_save_26 ?_
      refine wz_goto C dX12_save_29 (tgt := 7) (by decide) ?_
      exact w7 (l1 + 1) I5 J h
set_option maxHeartbeats 4000000 in
set_option maxRecDepth 100000 in
theorem k_X12_save (G : KG) (hG : Kok G) (I : Ii) (J : Jj) (Q : Int → Ii → Jj → Prop) (h : wp_X12_save I J Q) : Ctr G yX12_save wsX12_save rm_X12_save [.ref (kadr G 0)] (I, J) (QsI Q) := by
  unfold wp_X12_save at h
  skip
  refine Ctr.ofZ (cc := cX12_save) (nL := 2) (ret := (some .int)) [some (.ref (kadr G 0)), none] hG (by decide +kernel) rfl (Nat.le_of_ble_eq_true rfl) (Nat.le_of_ble_eq_true rfl) (by simp [lvA, lv_args, Value.category]) ?_
  intro X hX C
  refine wz_aload_n C rfl rfl dX12_save_0 ?_
  refine wz_iconst C dX12_save_1 ?_
  refine wd_putI C f_X12_save_90 fp_X12_0 rfl dX12_save_2 (fun I1 e => ?_)
  replace h := h I1 e
  refine wz_iconst C dX12_save_5 ?_
  refine wz_istore_1 C rfl dX12_save_6 ?_
  obtain ⟨n, h⟩ := h
  exact lk_X12_save_7 G hG X hX C Q n 0 I1 J h
