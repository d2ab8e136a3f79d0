theorem in_X12_wrong_X12 : ∀ w ∈ wsX120, w ∈ wsX12_wrong := by decide +kernel
theorem f_X12_wrong_142 : FLk wsX12_wrong RX12 142 12 8 := flk 12 8 rfl tyX12_ok nmX12 in_X12_wrong_X12 (by decide) (by decide +kernel)
theorem f_X12_wrong_132 : FLk wsX12_wrong RX12 132 12 6 := flk 12 6 rfl tyX12_ok nmX12 in_X12_wrong_X12 (by decide) (by decide +kernel)
theorem fp_X12_8 : FPk 12 8 .int := fun C9 T9 N9 h => by
  have h : some (RX12, TX12, 48) = some (C9, T9, N9) := h
  cases h
  exact ⟨rfl, by decide +kernel⟩
theorem f_X12_wrong_122 : FLk wsX12_wrong RX12 122 12 5 := flk 12 5 rfl tyX12_ok nmX12 in_X12_wrong_X12 (by decide) (by decide +kernel)
theorem f_X12_wrong_13 : FLk wsX12_wrong RX12 13 12 9 := flk 12 9 rfl tyX12_ok nmX12 in_X12_wrong_X12 (by decide) (by decide +kernel)
theorem fp_X12_9 : FPk 12 9 .int := fun C9 T9 N9 h => by
  have h : some (RX12, TX12, 48) = some (C9, T9, N9) := h
  cases h
  exact ⟨rfl, by decide +kernel⟩
theorem f_X12_wrong_145 : FLk wsX12_wrong RX12 145 12 43 := flk 12 43 rfl tyX12_ok nmX12 in_X12_wrong_X12 (by decide) (by decide +kernel)
theorem f_X12_wrong_17 : FLk wsX12_wrong RX12 17 12 10 := flk 12 10 rfl tyX12_ok nmX12 in_X12_wrong_X12 (by decide) (by decide +kernel)
theorem fp_X12_10 : FPk 12 10 .int := fun C9 T9 N9 h => by
  have h : some (RX12, TX12, 48) = some (C9, T9, N9) := h
  cases h
  exact ⟨rfl, by decide +kernel⟩
def rm_X12_wrong : Room := { frames := 0, cells := 0, slots := 0, locals := 0 }
set_option maxHeartbeats 4000000 in
set_option maxRecDepth 100000 in
theorem bk_X12_wrong_22 (G : KG) (hG : Kok G) (X : KX) (hX : KR X = rm_X12_wrong) (C : Fr G X cX12_wrong 2 yX12_wrong.cls none wsX12_wrong) (l1 : Int) (Q : Ii → Jj → Prop) (t1 : Int) (I : Ii) (J : Jj) (h : B_X12_wrong_22 l1 Q t1 I J) : Wz G X 2 (QsU G X (QsV Q)) 0 0 22 [some (.ref (kadr G 0)), none] [.int (iZ t1), .ref (kadr G 0)] I J := by
  unfold B_X12_wrong_22 at h
  refine wd_putI C f_X12_wrong_142 fp_X12_8 rfl dX12_wrong_22 (fun I3 e => ?_)
  replace h := h I3 e
  refine wz_aload_n C rfl rfl dX12_wrong_25 ?_
  refine wz_aload_n C rfl rfl dX12_wrong_26 ?_
  refine wz_getI C rfl f_X12_wrong_122 rfl dX12_wrong_27 ?_
  refine wd_putI C f_X12_wrong_13 fp_X12_9 rfl dX12_wrong_30 (fun I4 e => ?_)
  replace h := h I4 e
  refine wz_aload_n C rfl rfl dX12_wrong_33 ?_
  refine wz_aload_n C rfl rfl dX12_wrong_34 ?_
  refine wz_getI C rfl f_X12_wrong_145 rfl dX12_wrong_35 ?_
  refine wd_putI C f_X12_wrong_17 fp_X12_10 rfl dX12_wrong_38 (fun I5 e => ?_)
  replace h := h I5 e
  exact wz_vret C dX12_wrong_41 ⟨rfl, h⟩
set_option maxHeartbeats 4000000 in
set_option maxRecDepth 100000 in
theorem k_X12_wrong (G : KG) (hG : Kok G) (l1 : Int) (I : Ii) (J : Jj) (Q : Ii → Jj → Prop) (h : wp_X12_wrong l1 I J Q) : Ctr G yX12_wrong wsX12_wrong rm_X12_wrong [.ref (kadr G 0), .int (iZ l1)] (I, J) (QsV Q) := by
  unfold wp_X12_wrong at h
  skip
  refine Ctr.ofZ (cc := cX12_wrong) (nL := 2) (ret := none) [some (.ref (kadr G 0)), some (.int (iZ l1))] hG (by decide +kernel) rfl (Nat.le_of_ble_eq_true rfl) (Nat.le_of_ble_eq_true rfl) (by simp [lvA, lv_args, Value.category]) ?_
  intro X hX C
  refine wz_aload_n C rfl rfl dX12_wrong_0 ?_
  refine wz_getI C rfl f_X12_wrong_142 rfl dX12_wrong_1 ?_
  obtain ⟨g1, h⟩ := h
  refine wz_if_le C (tgt := 8) g1 dX12_wrong_4 (by decide) (fun c => ?_) (fun c => ?_)
  · replace h := h.1 c
    refine wz_aload_n C rfl rfl dX12_wrong_8 ?_
    refine wz_aload_n C rfl rfl dX12_wrong_9 ?_
    refine wz_getI C rfl f_X12_wrong_132 rfl dX12_wrong_10 ?_
    refine wz_iconst C dX12_wrong_13 ?_
    obtain ⟨g2, h⟩ := h
    refine wz_icmp_ne C (tgt := 21) g2 (by decide) dX12_wrong_14 (by decide) (fun c => ?_) (fun c => ?_)
    · replace h := h.1 c
      refine wz_iload_n C rfl rfl dX12_wrong_21 ?_
      exact Wz.drop (bk_X12_wrong_22 G hG X hX C l1 Q l1 I J h) (And.intro rfl trivial)
    · replace h := h.2 c
      refine wz_iconst C dX12_wrong_17 ?_
      refine wz_goto C dX12_wrong_18 (tgt := 22) (by decide) ?_
      exact Wz.drop (bk_X12_wrong_22 G hG X hX C l1 Q 1 I J h) (And.intro rfl trivial)
  · replace h := h.2 c
    exact wz_vret C dX12_wrong_7 ⟨rfl, h⟩
theorem in_X12_isGood_X12 : ∀ w ∈ wsX120, w ∈ wsX12_isGood := by decide +kernel
theorem f_X12_isGood_142 : FLk wsX12_isGood RX12 142 12 8 := flk 12 8 rfl tyX12_ok nmX12 in_X12_isGood_X12 (by decide) (by decide +kernel)
def rm_X12_isGood : Room := { frames := 0, cells := 0, slots := 0, locals := 0 }
set_option maxHeartbeats 4000000 in
set_option maxRecDepth 100000 in
theorem k_X12_isGood (G : KG) (hG : Kok G) (I : Ii) (J : Jj) (Q : Int → Ii → Jj → Prop) (h : wp_X12_isGood I J Q) : Ctr G yX12_isGood wsX12_isGood rm_X12_isGood [.ref (kadr G 0)] (I, J) (QsB Q) := by
  unfold wp_X12_isGood at h
  skip
  refine Ctr.ofZ (cc := cX12_isGood) (nL := 1) (ret := (some .boolean)) [some (.ref (kadr G 0))] hG (by decide +kernel) rfl (Nat.le_of_ble_eq_true rfl) (Nat.le_of_ble_eq_true rfl) (by simp [lvA, lv_args, Value.category]) ?_
  intro X hX C
  refine wz_aload_n C rfl rfl dX12_isGood_0 ?_
  refine wz_getI C rfl f_X12_isGood_142 rfl dX12_isGood_1 ?_
  obtain ⟨g1, h⟩ := h
  refine wz_if_ne C (tgt := 11) g1 dX12_isGood_4 (by decide) (fun c => ?_) (fun c => ?_)
  · replace h := h.1 c
    refine wz_iconst C dX12_isGood_11 ?_
    exact wz_zret C (Or.inl rfl) dX12_isGood_12 ⟨_, rfl, (Or.inl rfl), h⟩
  · replace h := h.2 c
    refine wz_iconst C dX12_isGood_7 ?_
    refine wz_goto C dX12_isGood_8 (tgt := 12) (by decide) ?_
    exact wz_zret C (Or.inr rfl) dX12_isGood_12 ⟨_, rfl, (Or.inr rfl), h⟩
theorem in_X12_isWord_X12 : ∀ w ∈ wsX120, w ∈ wsX12_isWord := by decide +kernel
theorem f_X12_isWord_132 : FLk wsX12_isWord RX12 132 12 6 := flk 12 6 rfl tyX12_ok nmX12 in_X12_isWord_X12 (by decide) (by decide +kernel)
theorem f_X12_isWord_125 : FLk wsX12_isWord RX12 125 12 14 := flk 12 14 rfl tyX12_ok nmX12 in_X12_isWord_X12 (by decide) (by decide +kernel)
def rm_X12_isWord : Room := { frames := 1, cells := 0, slots := 0, locals := 20 }
set_option maxHeartbeats 4000000 in
set_option maxRecDepth 100000 in
theorem k_X12_isWord (G : KG) (hG : Kok G) (l1 : Int64) (I : Ii) (J : Jj) (Q : Int → Ii → Jj → Prop) (h : wp_X12_isWord l1 I J Q) : Ctr G yX12_isWord wsX12_isWord rm_X12_isWord [.ref (kadr G 0), .long l1] (I, J) (QsB Q) := by
  unfold wp_X12_isWord at h
  skip
  refine Ctr.ofZ (cc := cX12_isWord) (nL := 3) (ret := (some .boolean)) [some (.ref (kadr G 0)), some (.long l1), none] hG (by decide +kernel) rfl (Nat.le_of_ble_eq_true rfl) (Nat.le_of_ble_eq_true rfl) (by simp [lvA, lv_args, Value.category]) ?_
  intro X hX C
  refine wz_aload_n C rfl rfl dX12_isWord_0 ?_
  refine wm_callV C (o := 0) (As := []) (st := []) (a' := 0) (b' := 0) rfl rfl (k_X12_isGood G hG I J _ h) 0 gX12_isWord_X12_isGood rfl (by decide +kernel) (by rw [hX]; exact ⟨Nat.le_of_ble_eq_true rfl, Nat.le_of_ble_eq_true rfl⟩) rfl (Nat.le_of_ble_eq_true rfl) rfl rfl rfl dX12_isWord_1 (kk_sB (fun v1 I1 J1 hb1 h => ?_))
  refine wz_if_eq C (tgt := 28) (rgB hb1) dX12_isWord_4 (by decide) (fun c => ?_) (fun c => ?_)
  · replace h := h.1 c
    refine wz_iconst C dX12_isWord_28 ?_
    exact wz_zret C (Or.inl rfl) dX12_isWord_29 ⟨_, rfl, (Or.inl rfl), h⟩
  · replace h := h.2 c
    refine wz_aload_n C rfl rfl dX12_isWord_7 ?_
    refine wz_getI C rfl f_X12_isWord_132 rfl dX12_isWord_8 ?_
    refine wz_iconst C dX12_isWord_11 ?_
    obtain ⟨g2, h⟩ := h
    refine wz_icmp_ne C (tgt := 28) g2 (by decide) dX12_isWord_12 (by decide) (fun c => ?_) (fun c => ?_)
    · replace h := h.1 c
      refine wz_iconst C dX12_isWord_28 ?_
      exact wz_zret C (Or.inl rfl) dX12_isWord_29 ⟨_, rfl, (Or.inl rfl), h⟩
    · replace h := h.2 c
      refine wz_aload_n C rfl rfl dX12_isWord_15 ?_
      refine wz_getJ C rfl f_X12_isWord_125 rfl dX12_isWord_16 ?_
      refine wz_lload_n C rfl rfl dX12_isWord_19 ?_
      refine wd_lcmp C dX12_isWord_20 ?_
      refine wz_if_ne C (tgt := 28) (toInt_rg _) dX12_isWord_21 (by decide) (fun c => ?_) (fun c => ?_)
      · replace h := h.1 c
        refine wz_iconst C dX12_isWord_28 ?_
        exact wz_zret C (Or.inl rfl) dX12_isWord_29 ⟨_, rfl, (Or.inl rfl), h⟩
      · replace h := h.2 c
        refine wz_iconst C dX12_isWord_24 ?_
        refine wz_goto C dX12_isWord_25 (tgt := 29) (by decide) ?_
        exact wz_zret C (Or.inr rfl) dX12_isWord_29 ⟨_, rfl, (Or.inr rfl), h⟩
theorem in_X12_isSign_X12 : ∀ w ∈ wsX120, w ∈ wsX12_isSign := by decide +kernel
theorem f_X12_isSign_132 : FLk wsX12_isSign RX12 132 12 6 := flk 12 6 rfl tyX12_ok nmX12 in_X12_isSign_X12 (by decide) (by decide +kernel)
theorem f_X12_isSign_129 : FLk wsX12_isSign RX12 129 12 7 := flk 12 7 rfl tyX12_ok nmX12 in_X12_isSign_X12 (by decide) (by decide +kernel)
def rm_X12_isSign : Room := { frames := 1, cells := 0, slots := 0, locals := 20 }
set_option maxHeartbeats 4000000 in
set_option maxRecDepth 100000 in
theorem k_X12_isSign (G : KG) (hG : Kok G) (l1 : Int) (I : Ii) (J : Jj) (Q : Int → Ii → Jj → Prop) (h : wp_X12_isSign l1 I J Q) : Ctr G yX12_isSign wsX12_isSign rm_X12_isSign [.ref (kadr G 0), .int (iZ l1)] (I, J) (QsB Q) := by
  unfold wp_X12_isSign at h
  skip
  refine Ctr.ofZ (cc := cX12_isSign) (nL := 2) (ret := (some .boolean)) [some (.ref (kadr G 0)), some (.int (iZ l1))] hG (by decide +kernel) rfl (Nat.le_of_ble_eq_true rfl) (Nat.le_of_ble_eq_true rfl) (by simp [lvA, lv_args, Value.category]) ?_
  intro X hX C
  refine wz_aload_n C rfl rfl dX12_isSign_0 ?_
  refine wm_callV C (o := 0) (As := []) (st := []) (a' := 0) (b' := 0) rfl rfl (k_X12_isGood G hG I J _ h) 0 gX12_isSign_X12_isGood rfl (by decide +kernel) (by rw [hX]; exact ⟨Nat.le_of_ble_eq_true rfl, Nat.le_of_ble_eq_true rfl⟩) rfl (Nat.le_of_ble_eq_true rfl) rfl rfl rfl dX12_isSign_1 (kk_sB (fun v1 I1 J1 hb1 h => ?_))
  refine wz_if_eq C (tgt := 27) (rgB hb1) dX12_isSign_4 (by decide) (fun c => ?_) (fun c => ?_)
  · replace h := h.1 c
    refine wz_iconst C dX12_isSign_27 ?_
    exact wz_zret C (Or.inl rfl) dX12_isSign_28 ⟨_, rfl, (Or.inl rfl), h⟩
  · replace h := h.2 c
    refine wz_aload_n C rfl rfl dX12_isSign_7 ?_
    refine wz_getI C rfl f_X12_isSign_132 rfl dX12_isSign_8 ?_
    refine wz_iconst C dX12_isSign_11 ?_
    obtain ⟨g2, h⟩ := h
    refine wz_icmp_ne C (tgt := 27) g2 (by decide) dX12_isSign_12 (by decide) (fun c => ?_) (fun c => ?_)
    · replace h := h.1 c
      refine wz_iconst C dX12_isSign_27 ?_
      exact wz_zret C (Or.inl rfl) dX12_isSign_28 ⟨_, rfl, (Or.inl rfl), h⟩
    · replace h := h.2 c
      refine wz_aload_n C rfl rfl dX12_isSign_15 ?_
      refine wz_getI C rfl f_X12_isSign_129 rfl dX12_isSign_16 ?_
      refine wz_iload_n C rfl rfl dX12_isSign_19 ?_
      obtain ⟨g3, h⟩ := h
      obtain ⟨g4, h⟩ := h
      refine wz_icmp_ne C (tgt := 27) g3 g4 dX12_isSign_20 (by decide) (fun c => ?_) (fun c => ?_)
      · replace h := h.1 c
        refine wz_iconst C dX12_isSign_27 ?_
        exact wz_zret C (Or.inl rfl) dX12_isSign_28 ⟨_, rfl, (Or.inl rfl), h⟩
      · replace h := h.2 c
        refine wz_iconst C dX12_isSign_23 ?_
        refine wz_goto C dX12_isSign_24 (tgt := 28) (by decide) ?_
        exact wz_zret C (Or.inr rfl) dX12_isSign_28 ⟨_, rfl, (Or.inr rfl), h⟩
def rm_X12_mustSign : Room := { frames := 2, cells := 0, slots := 0, locals := 43 }
set_option maxHeartbeats 4000000 in
set_option maxRecDepth 100000 in
theorem bk_X12_mustSign_20 (G : KG) (hG : Kok G) (X : KX) (hX : KR X = rm_X12_mustSign) (C : Fr G X cX12_mustSign 2 yX12_mustSign.cls none wsX12_mustSign) (l1 : Int) (Q : Ii → Jj → Prop)  (I : Ii) (J : Jj) (h : B_X12_mustSign_20 l1 Q  I J) : Wz G X 2 (QsU G X (QsV Q)) 0 0 20 [some (.ref (kadr G 0)), none] [] I J := by
  unfold B_X12_mustSign_20 at h
  refine wz_aload_n C rfl rfl dX12_mustSign_20 ?_
  refine wm_callV C (o := 0) (As := []) (st := []) (a' := 0) (b' := 0) rfl rfl (k_X12_isGood G hG I J _ h) 0 gX12_mustSign_X12_isGood rfl (by decide +kernel) (by rw [hX]; exact ⟨Nat.le_of_ble_eq_true rfl, Nat.le_of_ble_eq_true rfl⟩) rfl (Nat.le_of_ble_eq_true rfl) rfl rfl rfl dX12_mustSign_21 (kk_sB (fun v4 I4 J4 hb4 h => ?_))
  refine wz_if_eq C (tgt := 31) (rgB hb4) dX12_mustSign_24 (by decide) (fun c => ?_) (fun c => ?_)
  · replace h := h.1 c
    exact wz_vret C dX12_mustSign_31 ⟨rfl, h⟩
  · replace h := h.2 c
    refine wz_aload_n C rfl rfl dX12_mustSign_27 ?_
    refine wm_callV C (o := 0) (As := []) (st := []) (a' := 0) (b' := 0) rfl rfl (k_X12_goOn G hG I4 J4 _ h) 0 gX12_mustSign_X12_goOn rfl (by decide +kernel) (by rw [hX]; exact ⟨Nat.le_of_ble_eq_true rfl, Nat.le_of_ble_eq_true rfl⟩) rfl (Nat.le_of_ble_eq_true rfl) rfl rfl rfl dX12_mustSign_28 (kk_sV (fun I5 J5 h => ?_))
    exact wz_vret C dX12_mustSign_31 ⟨rfl, h⟩
set_option maxHeartbeats 4000000 in
set_option maxRecDepth 100000 in
theorem k_X12_mustSign (G : KG) (hG : Kok G) (l1 : Int) (I : Ii) (J : Jj) (Q : Ii → Jj → Prop) (h : wp_X12_mustSign l1 I J Q) : Ctr G yX12_mustSign wsX12_mustSign rm_X12_mustSign [.ref (kadr G 0), .int (iZ l1)] (I, J) (QsV Q) := by
  unfold wp_X12_mustSign at h
  skip
  refine Ctr.ofZ (cc := cX12_mustSign) (nL := 2) (ret := none) [some (.ref (kadr G 0)), some (.int (iZ l1))] hG (by decide +kernel) rfl (Nat.le_of_ble_eq_true rfl) (Nat.le_of_ble_eq_true rfl) (by simp [lvA, lv_args, Value.category]) ?_
  intro X hX C
  refine wz_aload_n C rfl rfl dX12_mustSign_0 ?_
  refine wm_callV C (o := 0) (As := []) (st := []) (a' := 0) (b' := 0) rfl rfl (k_X12_isGood G hG I J _ h) 0 gX12_mustSign_X12_isGood rfl (by decide +kernel) (by rw [hX]; exact ⟨Nat.le_of_ble_eq_true rfl, Nat.le_of_ble_eq_true rfl⟩) rfl (Nat.le_of_ble_eq_true rfl) rfl rfl rfl dX12_mustSign_1 (kk_sB (fun v1 I1 J1 hb1 h => ?_))
  refine wz_if_eq C (tgt := 20) (rgB hb1) dX12_mustSign_4 (by decide) (fun c => ?_) (fun c => ?_)
  · replace h := h.1 c
    exact Wz.drop (bk_X12_mustSign_20 G hG X hX C l1 Q I1 J1 h) (And.intro rfl trivial)
  · replace h := h.2 c
    refine wz_aload_n C rfl rfl dX12_mustSign_7 ?_
    refine wz_iload_n C rfl rfl dX12_mustSign_8 ?_
    refine wm_callV C (o := 0) (As := [.int (iZ l1)]) (st := []) (a' := 0) (b' := 0) rfl rfl (k_X12_isSign G hG l1 I1 J1 _ h) 1 gX12_mustSign_X12_isSign rfl (by decide +kernel) (by rw [hX]; exact ⟨Nat.le_of_ble_eq_true rfl, Nat.le_of_ble_eq_true rfl⟩) rfl (Nat.le_of_ble_eq_true rfl) rfl rfl rfl dX12_mustSign_9 (kk_sB (fun v2 I2 J2 hb2 h => ?_))
    refine wz_if_ne C (tgt := 20) (rgB hb2) dX12_mustSign_12 (by decide) (fun c => ?_) (fun c => ?_)
    · replace h := h.1 c
      exact Wz.drop (bk_X12_mustSign_20 G hG X hX C l1 Q I2 J2 h) (And.intro rfl trivial)
    · replace h := h.2 c
      refine wz_aload_n C rfl rfl dX12_mustSign_15 ?_
      refine wz_iconst C dX12_mustSign_16 ?_
      refine wm_callV C (o := 0) (As := [.int (iZ 1)]) (st := []) (a' := 0) (b' := 0) rfl rfl (k_X12_wrong G hG 1 I2 J2 _ h) 1 gX12_mustSign_X12_wrong rfl (by decide +kernel) (by rw [hX]; exact ⟨Nat.le_of_ble_eq_true rfl, Nat.le_of_ble_eq_true rfl⟩) rfl (Nat.le_of_ble_eq_true rfl) rfl rfl rfl dX12_mustSign_17 (kk_sV (fun I3 J3 h => ?_))
      exact Wz.drop (bk_X12_mustSign_20 G hG X hX C l1 Q I3 J3 h) (And.intro rfl trivial)
theorem in_X12_number_X12 : ∀ w ∈ wsX120, w ∈ wsX12_number := by decide +kernel
theorem f_X12_number_132 : FLk wsX12_number RX12 132 12 6 := flk 12 6 rfl tyX12_ok nmX12 in_X12_number_X12 (by decide) (by decide +kernel)
theorem f_X12_number_129 : FLk wsX12_number RX12 129 12 7 := flk 12 7 rfl tyX12_ok nmX12 in_X12_number_X12 (by decide) (by decide +kernel)
def rm_X12_number : Room := { frames := 2, cells := 0, slots := 0, locals := 43 }
set_option maxHeartbeats 4000000 in
set_option maxRecDepth 100000 in
theorem bk_X12_number_49 (G : KG) (hG : Kok G) (X : KX) (hX : KR X = rm_X12_number) (C : Fr G X cX12_number 4 yX12_number.cls (some .int) wsX12_number) (l1 : Int) (l2 : Int) (Q : Int → Ii → Jj → Prop) (l3 : Int) (I : Ii) (J : Jj) (h : B_X12_number_49 l1 l2 Q l3 I J) : Wz G X 4 (QsU G X (QsI Q)) 0 0 49 [some (.ref (kadr G 0)), none, none, some (.int (iZ l3))] [] I J := by
  unfold B_X12_number_49 at h
  refine wz_aload_n C rfl rfl dX12_number_49 ?_
  refine wm_callV C (o := 0) (As := []) (st := []) (a' := 0) (b' := 0) rfl rfl (k_X12_isGood G hG I J _ h) 0 gX12_number_X12_isGood rfl (by decide +kernel) (by rw [hX]; exact ⟨Nat.le_of_ble_eq_true rfl, Nat.le_of_ble_eq_true rfl⟩) rfl (Nat.le_of_ble_eq_true rfl) rfl rfl rfl dX12_number_50 (kk_sB (fun v7 I7 J7 hb7 h => ?_))
  refine wz_if_eq C (tgt := 60) (rgB hb7) dX12_number_53 (by decide) (fun c => ?_) (fun c => ?_)
  · replace h := h.1 c
    refine wz_iload_n C rfl rfl dX12_number_60 ?_
    exact wz_iret C dX12_number_61 ⟨_, rfl, h⟩
  · replace h := h.2 c
    refine wz_aload_n C rfl rfl dX12_number_56 ?_
    refine wm_callV C (o := 0) (As := []) (st := []) (a' := 0) (b' := 0) rfl rfl (k_X12_goOn G hG I7 J7 _ h) 0 gX12_number_X12_goOn rfl (by decide +kernel) (by rw [hX]; exact ⟨Nat.le_of_ble_eq_true rfl, Nat.le_of_ble_eq_true rfl⟩) rfl (Nat.le_of_ble_eq_true rfl) rfl rfl rfl dX12_number_57 (kk_sV (fun I8 J8 h => ?_))
    refine wz_iload_n C rfl rfl dX12_number_60 ?_
    exact wz_iret C dX12_number_61 ⟨_, rfl, h⟩
set_option maxHeartbeats 4000000 in
set_option maxRecDepth 100000 in
theorem bk_X12_number_20 (G : KG) (hG : Kok G) (X : KX) (hX : KR X = rm_X12_number) (C : Fr G X cX12_number 4 yX12_number.cls (some .int) wsX12_number) (l1 : Int) (l2 : Int) (Q : Int → Ii → Jj → Prop)  (I : Ii) (J : Jj) (h : B_X12_number_20 l1 l2 Q  I J) : Wz G X 4 (QsU G X (QsI Q)) 0 0 20 [some (.ref (kadr G 0)), some (.int (iZ l1)), some (.int (iZ l2)), none] [] I J := by
  unfold B_X12_number_20 at h
  refine wz_aload_n C rfl rfl dX12_number_20 ?_
  refine wz_getI C rfl f_X12_number_129 rfl dX12_number_21 ?_
  refine wz_istore_3 C rfl dX12_number_24 ?_
  refine wz_aload_n C rfl rfl dX12_number_25 ?_
  refine wm_callV C (o := 0) (As := []) (st := []) (a' := 0) (b' := 0) rfl rfl (k_X12_isGood G hG I J _ h) 0 gX12_number_X12_isGood rfl (by decide +kernel) (by rw [hX]; exact ⟨Nat.le_of_ble_eq_true rfl, Nat.le_of_ble_eq_true rfl⟩) rfl (Nat.le_of_ble_eq_true rfl) rfl rfl rfl dX12_number_26 (kk_sB (fun v4 I4 J4 hb4 h => ?_))
  refine wz_if_eq C (tgt := 49) (rgB hb4) dX12_number_29 (by decide) (fun c => ?_) (fun c => ?_)
  · replace h := h.1 c
    exact Wz.drop (bk_X12_number_49 G hG X hX C l1 l2 Q (I 0 7) I4 J4 h) (And.intro rfl (And.intro rfl trivial))
  · replace h := h.2 c
    refine wz_iload_n C rfl rfl dX12_number_32 ?_
    refine wd_i2l C dX12_number_33 ?_
    refine wz_iload_n C rfl rfl dX12_number_34 ?_
    refine wd_i2l C dX12_number_35 ?_
    refine wz_iload_n C rfl rfl dX12_number_36 ?_
    refine wd_i2l C dX12_number_37 ?_
    refine wm_callS C (As := [.long (i2lZ (I 0 7)), .long (i2lZ l1), .long (i2lZ l2)]) (st := []) (a' := 0) (b' := 0) (k_X12_isIn G hG (i2lZ (I 0 7)) (i2lZ l1) (i2lZ l2) I4 J4 _ h) 3 gX12_number_X12_isIn rfl (by decide +kernel) (by rw [hX]; exact ⟨Nat.le_of_ble_eq_true rfl, Nat.le_of_ble_eq_true rfl⟩) rfl (Nat.le_of_ble_eq_true rfl) rfl rfl rfl dX12_number_38 (kk_sB (fun v5 I5 J5 hb5 h => ?_))
    refine wz_if_ne C (tgt := 49) (rgB hb5) dX12_number_41 (by decide) (fun c => ?_) (fun c => ?_)
    · replace h := h.1 c
      exact Wz.drop (bk_X12_number_49 G hG X hX C l1 l2 Q (I 0 7) I5 J5 h) (And.intro rfl (And.intro rfl trivial))
    · replace h := h.2 c
      refine wz_aload_n C rfl rfl dX12_number_44 ?_
      refine wz_iconst C dX12_number_45 ?_
      refine wm_callV C (o := 0) (As := [.int (iZ 2)]) (st := []) (a' := 0) (b' := 0) rfl rfl (k_X12_wrong G hG 2 I5 J5 _ h) 1 gX12_number_X12_wrong rfl (by decide +kernel) (by rw [hX]; exact ⟨Nat.le_of_ble_eq_true rfl, Nat.le_of_ble_eq_true rfl⟩) rfl (Nat.le_of_ble_eq_true rfl) rfl rfl rfl dX12_number_46 (kk_sV (fun I6 J6 h => ?_))
      exact Wz.drop (bk_X12_number_49 G hG X hX C l1 l2 Q (I 0 7) I6 J6 h) (And.intro rfl (And.intro rfl trivial))
set_option maxHeartbeats 4000000 in
set_option maxRecDepth 100000 in
theorem k_X12_number (G : KG) (hG : Kok G) (l1 : Int) (l2 : Int) (I : Ii) (J : Jj) (Q : Int → Ii → Jj → Prop) (h : wp_X12_number l1 l2 I J Q) : Ctr G yX12_number wsX12_number rm_X12_number [.ref (kadr G 0), .int (iZ l1), .int (iZ l2)] (I, J) (QsI Q) := by
  unfold wp_X12_number at h
  skip
  refine Ctr.ofZ (cc := cX12_number) (nL := 4) (ret := (some .int)) [some (.ref (kadr G 0)), some (.int (iZ l1)), some (.int (iZ l2)), none] hG (by decide +kernel) rfl (Nat.le_of_ble_eq_true rfl) (Nat.le_of_ble_eq_true rfl) (by simp [lvA, lv_args, Value.category]) ?_
  intro X hX C
  refine wz_aload_n C rfl rfl dX12_number_0 ?_
  refine wm_callV C (o := 0) (As := []) (st := []) (a' := 0) (b' := 0) rfl rfl (k_X12_isGood G hG I J _ h) 0 gX12_number_X12_isGood rfl (by decide +kernel) (by rw [hX]; exact ⟨Nat.le_of_ble_eq_true rfl, Nat.le_of_ble_eq_true rfl⟩) rfl (Nat.le_of_ble_eq_true rfl) rfl rfl rfl dX12_number_1 (kk_sB (fun v1 I1 J1 hb1 h => ?_))
  refine wz_if_eq C (tgt := 20) (rgB hb1) dX12_number_4 (by decide) (fun c => ?_) (fun c => ?_)
  · replace h := h.1 c
    exact bk_X12_number_20 G hG X hX C l1 l2 Q I1 J1 h
  · replace h := h.2 c
    refine wz_aload_n C rfl rfl dX12_number_7 ?_
    refine wz_getI C rfl f_X12_number_132 rfl dX12_number_8 ?_
    refine wz_iconst C dX12_number_11 ?_
    obtain ⟨g2, h⟩ := h
    refine wz_icmp_eq C (tgt := 20) g2 (by decide) dX12_number_12 (by decide) (fun c => ?_) (fun c => ?_)
    · replace h := h.1 c
      exact bk_X12_number_20 G hG X hX C l1 l2 Q I1 J1 h
    · replace h := h.2 c
      refine wz_aload_n C rfl rfl dX12_number_15 ?_
      refine wz_iconst C dX12_number_16 ?_
      refine wm_callV C (o := 0) (As := [.int (iZ 1)]) (st := []) (a' := 0) (b' := 0) rfl rfl (k_X12_wrong G hG 1 I1 J1 _ h) 1 gX12_number_X12_wrong rfl (by decide +kernel) (by rw [hX]; exact ⟨Nat.le_of_ble_eq_true rfl, Nat.le_of_ble_eq_true rfl⟩) rfl (Nat.le_of_ble_eq_true rfl) rfl rfl rfl dX12_number_17 (kk_sV (fun I3 J3 h => ?_))
      exact bk_X12_number_20 G hG X hX C l1 l2 Q I3 J3 h
theorem in_X12_beginsText_X12 : ∀ w ∈ wsX120, w ∈ wsX12_beginsText := by decide +kernel
theorem f_X12_beginsText_97 : FLk wsX12_beginsText RX12 97 12 2 := flk 12 2 rfl tyX12_ok nmX12 in_X12_beginsText_X12 (by decide) (by decide +kernel)
theorem f_X12_beginsText_115 : FLk wsX12_beginsText RX12 115 12 3 := flk 12 3 rfl tyX12_ok nmX12 in_X12_beginsText_X12 (by decide) (by decide +kernel)
theorem fp_X12_3 : FPk 12 3 .int := fun C9 T9 N9 h => by
  have h : some (RX12, TX12, 48) = some (C9, T9, N9) := h
  cases h
  exact ⟨rfl, by decide +kernel⟩
theorem f_X12_beginsText_112 : FLk wsX12_beginsText RX12 112 12 4 := flk 12 4 rfl tyX12_ok nmX12 in_X12_beginsText_X12 (by decide) (by decide +kernel)
theorem f_X12_beginsText_142 : FLk wsX12_beginsText RX12 142 12 8 := flk 12 8 rfl tyX12_ok nmX12 in_X12_beginsText_X12 (by decide) (by decide +kernel)
theorem f_X12_beginsText_13 : FLk wsX12_beginsText RX12 13 12 9 := flk 12 9 rfl tyX12_ok nmX12 in_X12_beginsText_X12 (by decide) (by decide +kernel)
theorem f_X12_beginsText_17 : FLk wsX12_beginsText RX12 17 12 10 := flk 12 10 rfl tyX12_ok nmX12 in_X12_beginsText_X12 (by decide) (by decide +kernel)
theorem f_X12_beginsText_145 : FLk wsX12_beginsText RX12 145 12 43 := flk 12 43 rfl tyX12_ok nmX12 in_X12_beginsText_X12 (by decide) (by decide +kernel)
theorem fp_X12_43 : FPk 12 43 .int := fun C9 T9 N9 h => by
  have h : some (RX12, TX12, 48) = some (C9, T9, N9) := h
  cases h
  exact ⟨rfl, by decide +kernel⟩
def rm_X12_beginsText : Room := { frames := 2, cells := 0, slots := 0, locals := 43 }
set_option maxHeartbeats 4000000 in
set_option maxRecDepth 100000 in
theorem k_X12_beginsText (G : KG) (hG : Kok G) (I : Ii) (J : Jj) (Q : Ii → Jj → Prop) (h : wp_X12_beginsText I J Q) : Ctr G yX12_beginsText wsX12_beginsText rm_X12_beginsText [.ref (kadr G 0)] (I, J) (QsV Q) := by
  unfold wp_X12_beginsText at h
  skip
  refine Ctr.ofZ (cc := cX12_beginsText) (nL := 1) (ret := none) [some (.ref (kadr G 0))] hG (by decide +kernel) rfl (Nat.le_of_ble_eq_true rfl) (Nat.le_of_ble_eq_true rfl) (by simp [lvA, lv_args, Value.category]) ?_
  intro X hX C
  refine wz_aload_n C rfl rfl dX12_beginsText_0 ?_
  refine wz_aload_n C rfl rfl dX12_beginsText_1 ?_
  refine wz_getI C rfl f_X12_beginsText_97 rfl dX12_beginsText_2 ?_
  refine wd_putI C f_X12_beginsText_115 fp_X12_3 rfl dX12_beginsText_5 (fun I1 e => ?_)
  replace h := h I1 e
  refine wz_aload_n C rfl rfl dX12_beginsText_8 ?_
  refine wz_iconst C dX12_beginsText_9 ?_
  refine wd_putI C f_X12_beginsText_97 fp_X12_2 rfl dX12_beginsText_10 (fun I2 e => ?_)
  replace h := h I2 e
  refine wz_aload_n C rfl rfl dX12_beginsText_13 ?_
  refine wz_iconst C dX12_beginsText_14 ?_
  refine wd_putI C f_X12_beginsText_112 fp_X12_4 rfl dX12_beginsText_15 (fun I3 e => ?_)
  replace h := h I3 e
  refine wz_aload_n C rfl rfl dX12_beginsText_18 ?_
  refine wz_iconst C dX12_beginsText_19 ?_
  refine wd_putI C f_X12_beginsText_142 fp_X12_8 rfl dX12_beginsText_20 (fun I4 e => ?_)
  replace h := h I4 e
  refine wz_aload_n C rfl rfl dX12_beginsText_23 ?_
  refine wz_iconst C dX12_beginsText_24 ?_
  refine wd_putI C f_X12_beginsText_13 fp_X12_9 rfl dX12_beginsText_25 (fun I5 e => ?_)
  replace h := h I5 e
  refine wz_aload_n C rfl rfl dX12_beginsText_28 ?_
  refine wz_iconst C dX12_beginsText_29 ?_
  refine wd_putI C f_X12_beginsText_17 fp_X12_10 rfl dX12_beginsText_30 (fun I6 e => ?_)
  replace h := h I6 e
  refine wz_aload_n C rfl rfl dX12_beginsText_33 ?_
  refine wz_iconst C dX12_beginsText_34 ?_
  refine wd_putI C f_X12_beginsText_145 fp_X12_43 rfl dX12_beginsText_35 (fun I7 e => ?_)
  replace h := h I7 e
  refine wz_aload_n C rfl rfl dX12_beginsText_38 ?_
  refine wm_callV C (o := 0) (As := []) (st := []) (a' := 0) (b' := 0) rfl rfl (k_X12_goOn G hG I7 J _ h) 0 gX12_beginsText_X12_goOn rfl (by decide +kernel) (by rw [hX]; exact ⟨Nat.le_of_ble_eq_true rfl, Nat.le_of_ble_eq_true rfl⟩) rfl (Nat.le_of_ble_eq_true rfl) rfl rfl rfl dX12_beginsText_39 (kk_sV (fun I8 J8 h => ?_))
  exact wz_vret C dX12_beginsText_42 ⟨rfl, h⟩
theorem in_X12_endsText_X12 : ∀ w ∈ wsX120, w ∈ wsX12_endsText := by decide +kernel
theorem f_X12_endsText_142 : FLk wsX12_endsText RX12 142 12 8 := flk 12 8 rfl tyX12_ok nmX12 in_X12_endsText_X12 (by decide) (by decide +kernel)
theorem f_X12_endsText_161 : FLk wsX12_endsText RX12 161 12 11 := flk 12 11 rfl tyX12_ok nmX12 in_X12_endsText_X12 (by decide) (by decide +kernel)
theorem fp_X12_11 : FPk 12 11 .int := fun C9 T9 N9 h => by
  have h : some (RX12, TX12, 48) = some (C9, T9, N9) := h
  cases h
  exact ⟨rfl, by decide +kernel⟩
theorem f_X12_endsText_13 : FLk wsX12_endsText RX12 13 12 9 := flk 12 9 rfl tyX12_ok nmX12 in_X12_endsText_X12 (by decide) (by decide +kernel)
theorem f_X12_endsText_20 : FLk wsX12_endsText RX12 20 12 12 := flk 12 12 rfl tyX12_ok nmX12 in_X12_endsText_X12 (by decide) (by decide +kernel)
theorem fp_X12_12 : FPk 12 12 .int := fun C9 T9 N9 h => by
  have h : some (RX12, TX12, 48) = some (C9, T9, N9) := h
  cases h
  exact ⟨rfl, by decide +kernel⟩
theorem f_X12_endsText_17 : FLk wsX12_endsText RX12 17 12 10 := flk 12 10 rfl tyX12_ok nmX12 in_X12_endsText_X12 (by decide) (by decide +kernel)
theorem f_X12_endsText_23 : FLk wsX12_endsText RX12 23 12 13 := flk 12 13 rfl tyX12_ok nmX12 in_X12_endsText_X12 (by decide) (by decide +kernel)
theorem fp_X12_13 : FPk 12 13 .int := fun C9 T9 N9 h => by
  have h : some (RX12, TX12, 48) = some (C9, T9, N9) := h
  cases h
  exact ⟨rfl, by decide +kernel⟩
def rm_X12_endsText : Room := { frames := 2, cells := 0, slots := 0, locals := 41 }
set_option maxHeartbeats 4000000 in
set_option maxRecDepth 100000 in
theorem bk_X12_endsText_37 (G : KG) (hG : Kok G) (X : KX) (hX : KR X = rm_X12_endsText) (C : Fr G X cX12_endsText 1 yX12_endsText.cls (some .boolean) wsX12_endsText) (Q : Int → Ii → Jj → Prop) (t1 : Int) (I : Ii) (J : Jj) (h : B_X12_endsText_37 Q t1 I J) : Wz G X 1 (QsU G X (QsB Q)) 0 0 37 [none] [.int (iZ t1), .ref (kadr G 0)] I J := by
  unfold B_X12_endsText_37 at h
  refine wm_callV C (o := 0) (As := [.int (iZ t1)]) (st := []) (a' := 0) (b' := 0) rfl rfl (k_X12_goes G hG t1 I J _ h) 1 gX12_endsText_X12_goes rfl (by decide +kernel) (by rw [hX]; exact ⟨Nat.le_of_ble_eq_true rfl, Nat.le_of_ble_eq_true rfl⟩) rfl (Nat.le_of_ble_eq_true rfl) rfl rfl rfl dX12_endsText_37 (kk_sB (fun v5 I5 J5 hb5 h => ?_))
  exact wz_zret C h.1 dX12_endsText_40 ⟨_, rfl, h.1, h.2⟩
set_option maxHeartbeats 4000000 in
set_option maxRecDepth 100000 in
theorem k_X12_endsText (G : KG) (hG : Kok G) (I : Ii) (J : Jj) (Q : Int → Ii → Jj → Prop) (h : wp_X12_endsText I J Q) : Ctr G yX12_endsText wsX12_endsText rm_X12_endsText [.ref (kadr G 0)] (I, J) (QsB Q) := by
  unfold wp_X12_endsText at h
  skip
  refine Ctr.ofZ (cc := cX12_endsText) (nL := 1) (ret := (some .boolean)) [some (.ref (kadr G 0))] hG (by decide +kernel) rfl (Nat.le_of_ble_eq_true rfl) (Nat.le_of_ble_eq_true rfl) (by simp [lvA, lv_args, Value.category]) ?_
  intro X hX C
  refine wz_aload_n C rfl rfl dX12_endsText_0 ?_
  refine wz_aload_n C rfl rfl dX12_endsText_1 ?_
  refine wz_getI C rfl f_X12_endsText_142 rfl dX12_endsText_2 ?_
  refine wd_putI C f_X12_endsText_161 fp_X12_11 rfl dX12_endsText_5 (fun I1 e => ?_)
  replace h := h I1 e
  refine wz_aload_n C rfl rfl dX12_endsText_8 ?_
  refine wz_aload_n C rfl rfl dX12_endsText_9 ?_
  refine wz_getI C rfl f_X12_endsText_13 rfl dX12_endsText_10 ?_
  refine wd_putI C f_X12_endsText_20 fp_X12_12 rfl dX12_endsText_13 (fun I2 e => ?_)
  replace h := h I2 e
  refine wz_aload_n C rfl rfl dX12_endsText_16 ?_
  refine wz_aload_n C rfl rfl dX12_endsText_17 ?_
  refine wz_getI C rfl f_X12_endsText_17 rfl dX12_endsText_18 ?_
  refine wd_putI C f_X12_endsText_23 fp_X12_13 rfl dX12_endsText_21 (fun I3 e => ?_)
  replace h := h I3 e
  refine wz_aload_n C rfl rfl dX12_endsText_24 ?_
  refine wz_aload_n C rfl rfl dX12_endsText_25 ?_
  refine wz_getI C rfl f_X12_endsText_142 rfl dX12_endsText_26 ?_
  obtain ⟨g4, h⟩ := h
  refine wz_if_ne C (tgt := 36) g4 dX12_endsText_29 (by decide) (fun c => ?_) (fun c => ?_)
  · replace h := h.1 c
    refine wz_iconst C dX12_endsText_36 ?_
    exact Wz.drop (bk_X12_endsText_37 G hG X hX C Q 0 I3 J h) trivial
  · replace h := h.2 c
    refine wz_iconst C dX12_endsText_32 ?_
    refine wz_goto C dX12_endsText_33 (tgt := 37) (by decide) ?_
    exact Wz.drop (bk_X12_endsText_37 G hG X hX C Q 1 I3 J h) trivial
theorem in_X12_error_X12 : ∀ w ∈ wsX120, w ∈ wsX12_error := by decide +kernel
theorem f_X12_error_23 : FLk wsX12_error RX12 23 12 13 := flk 12 13 rfl tyX12_ok nmX12 in_X12_error_X12 (by decide) (by decide +kernel)
theorem f_X12_error_20 : FLk wsX12_error RX12 20 12 12 := flk 12 12 rfl tyX12_ok nmX12 in_X12_error_X12 (by decide) (by decide +kernel)
theorem f_X12_error_161 : FLk wsX12_error RX12 161 12 11 := flk 12 11 rfl tyX12_ok nmX12 in_X12_error_X12 (by decide) (by decide +kernel)
def rm_X12_error : Room := { frames := 2, cells := 0, slots := 0, locals := 41 }
set_option maxHeartbeats 4000000 in
set_option maxRecDepth 100000 in
theorem k_X12_error (G : KG) (hG : Kok G) (l1 : Int) (I : Ii) (J : Jj) (Q : Int → Ii → Jj → Prop) (h : wp_X12_error l1 I J Q) : Ctr G yX12_error wsX12_error rm_X12_error [.ref (kadr G 0), .int (iZ l1)] (I, J) (QsI Q) := by
  unfold wp_X12_error at h
  skip
  refine Ctr.ofZ (cc := cX12_error) (nL := 2) (ret := (some .int)) [some (.ref (kadr G 0)), some (.int (iZ l1))] hG (by decide +kernel) rfl (Nat.le_of_ble_eq_true rfl) (Nat.le_of_ble_eq_true rfl) (by simp [lvA, lv_args, Value.category]) ?_
  intro X hX C
  refine wz_aload_n C rfl rfl dX12_error_0 ?_
  refine wz_iload_n C rfl rfl dX12_error_1 ?_
  refine wd_i2l C dX12_error_2 ?_
  refine wz_lconst C (v := lZ 0) (by decide) dX12_error_3 ?_
  refine wz_ldc2_w C (v := lZ 2) (by decide +kernel) dX12_error_4 ?_
  refine wm_callS C (As := [.long (i2lZ l1), .long (lZ 0), .long (lZ 2)]) (st := [.ref (kadr G 0)]) (a' := 0) (b' := 0) (k_X12_isIn G hG (i2lZ l1) (lZ 0) (lZ 2) I J _ h) 3 gX12_error_X12_isIn rfl (by decide +kernel) (by rw [hX]; exact ⟨Nat.le_of_ble_eq_true rfl, Nat.le_of_ble_eq_true rfl⟩) rfl (Nat.le_of_ble_eq_true rfl) rfl rfl rfl dX12_error_7 (kk_sB (fun v1 I1 J1 hb1 h => ?_))
  refine wm_callV C (o := 0) (As := [.int (iZ v1)]) (st := []) (a' := 0) (b' := 0) rfl rfl (k_X12_goes G hG v1 I1 J1 _ h) 1 gX12_error_X12_goes rfl (by decide +kernel) (by rw [hX]; exact ⟨Nat.le_of_ble_eq_true rfl, Nat.le_of_ble_eq_true rfl⟩) rfl (Nat.le_of_ble_eq_true rfl) rfl rfl rfl dX12_error_10 (kk_sB (fun v2 I2 J2 hb2 h => ?_))
  refine wz_if_ne C (tgt := 18) (rgB hb2) dX12_error_13 (by decide) (fun c => ?_) (fun c => ?_)
  · replace h := h.1 c
    refine wz_iload_n C rfl rfl dX12_error_18 ?_
    obtain ⟨g3, h⟩ := h
    refine wz_if_ne C (tgt := 29) g3 dX12_error_19 (by decide) (fun c => ?_) (fun c => ?_)
    · replace h := h.1 c
      refine wz_iload_n C rfl rfl dX12_error_29 ?_
      refine wz_iconst C dX12_error_30 ?_
      refine wz_icmp_ne C (tgt := 41) g3 (by decide) dX12_error_31 (by decide) (fun c => ?_) (fun c => ?_)
      · replace h := h.1 c
        refine wz_aload_n C rfl rfl dX12_error_41 ?_
        refine wz_getI C rfl f_X12_error_23 rfl dX12_error_42 ?_
        exact wz_iret C dX12_error_45 ⟨_, rfl, h⟩
      · replace h := h.2 c
        refine wz_aload_n C rfl rfl dX12_error_34 ?_
        refine wz_getI C rfl f_X12_error_20 rfl dX12_error_35 ?_
        refine wz_goto C dX12_error_38 (tgt := 45) (by decide) ?_
        exact wz_iret C dX12_error_45 ⟨_, rfl, h⟩
    · replace h := h.2 c
      refine wz_aload_n C rfl rfl dX12_error_22 ?_
      refine wz_getI C rfl f_X12_error_161 rfl dX12_error_23 ?_
      refine wz_goto C dX12_error_26 (tgt := 45) (by decide) ?_
      exact wz_iret C dX12_error_45 ⟨_, rfl, h⟩
  · replace h := h.2 c
    refine wz_iconst C dX12_error_16 ?_
    exact wz_iret C dX12_error_17 ⟨_, rfl, h⟩
theorem in_X12_clears_X12 : ∀ w ∈ wsX120, w ∈ wsX12_clears := by decide +kernel
theorem f_X12_clears_26 : FLk wsX12_clears RX12 26 12 15 := flk 12 15 rfl tyX12_ok nmX12 in_X12_clears_X12 (by decide) (by decide +kernel)
def rm_X12_clears : Room := { frames := 0, cells := 0, slots := 0, locals := 0 }
set_option maxHeartbeats 4000000 in
set_option maxRecDepth 100000 in
theorem lk_X12_clears_2 (G : KG) (hG : Kok G) (X : KX) (hX : KR X = rm_X12_clears) (C : Fr G X cX12_clears 2 yX12_clears.cls none wsX12_clears) (Q : Ii → Jj → Prop) : ∀ (n : Nat) (l1 : Int) (I : Ii) (J : Jj), L_X12_clears_2 Q n l1 I J → Wz G X 2 (QsU G X (QsV Q)) 0 0 2 [some (.ref (kadr G 0)), some (.int (iZ l1))] [] I J := by
  intro n
  induction n with
  | zero => intro l1 I J h; exact False.elim h
  | succ n w2 =>
    intro l1 I J h
    have h : Lb_X12_clears_2 Q (L_X12_clears_2 Q n) l1 I J := h
    unfold Lb_X12_clears_2 at h
    generalize L_X12_clears_2 Q n = r2 at h w2
    refine wz_iload_n C rfl rfl dX12_clears_2 ?_
    refine wz_sipush C (by decide) dX12_clears_3 ?_
    obtain ⟨g1, h⟩ := h
    refine wz_icmp_ge C (tgt := 22) g1 (by decide) dX12_clears_6 (by decide) (fun c => ?_) (fun c => ?_)
    · replace h := h.1 c
      refine wz_aload_n C rfl rfl dX12_clears_22 ?_
      refine wz_getR C (j := 2) f_X12_clears_26 rfl dX12_clears_23 ?_
      refine wz_iconst C dX12_clears_26 ?_
      refine wz_iconst C dX12_clears_27 ?_
      refine wd_iastore C 2 (n := 350) rfl rfl (by decide) (by decide) dX12_clears_28 (fun I2 e => ?_)
      replace h := h I2 e
      exact wz_vret C dX12_clears_29 ⟨rfl, h⟩
    · replace h := h.2 c
      refine wz_aload_n C rfl rfl dX12_clears_9 ?_
      refine wz_getR C (j := 2) f_X12_clears_26 rfl dX12_clears_10 ?_
      refine wz_iload_n C rfl rfl dX12_clears_13 ?_
      refine wz_iconst C dX12_clears_14 ?_
      obtain ⟨g3, h⟩ := h
      refine wd_iastore C l1.toNat (n := 350) rfl (zN g3) (zL g3) (by decide) dX12_clears_15 (fun I4 e => ?_)
      replace h := h I4 e
      refine wz_iinc_1 C rfl dX12_clears_16 ?_
      refine wz_goto C dX12_clears_19 (tgt := 2) (by decide) ?_
      exact w2 (l1 + 1) I4 J h
set_option maxHeartbeats 4000000 in
set_option maxRecDepth 100000 in
theorem k_X12_clears (G : KG) (hG : Kok G) (I : Ii) (J : Jj) (Q : Ii → Jj → Prop) (h : wp_X12_clears I J Q) : Ctr G yX12_clears wsX12_clears rm_X12_clears [.ref (kadr G 0)] (I, J) (QsV Q) := by
  unfold wp_X12_clears at h
  skip
  refine Ctr.ofZ (cc := cX12_clears) (nL := 2) (ret := none) [some (.ref (kadr G 0)), none] hG (by decide +kernel) rfl (Nat.le_of_ble_eq_true rfl) (Nat.le_of_ble_eq_true rfl) (by simp [lvA, lv_args, Value.category]) ?_
  intro X hX C
  refine wz_iconst C dX12_clears_0 ?_
  refine wz_istore_1 C rfl dX12_clears_1 ?_
  obtain ⟨n, h⟩ := h
  exact lk_X12_clears_2 G hG X hX C Q n 0 I J h
theorem in_X12_laysAside_X12 : ∀ w ∈ wsX120, w ∈ wsX12_laysAside := by decide +kernel
theorem f_X12_laysAside_35 : FLk wsX12_laysAside RX12 35 12 18 := flk 12 18 rfl tyX12_ok nmX12 in_X12_laysAside_X12 (by decide) (by decide +kernel)
theorem f_X12_laysAside_26 : FLk wsX12_laysAside RX12 26 12 15 := flk 12 15 rfl tyX12_ok nmX12 in_X12_laysAside_X12 (by decide) (by decide +kernel)
def rm_X12_laysAside : Room := { frames := 0, cells := 0, slots := 0, locals := 0 }
set_option maxHeartbeats 4000000 in
set_option maxRecDepth 100000 in
theorem lk_X12_laysAside_2 (G : KG) (hG : Kok G) (X : KX) (hX : KR X = rm_X12_laysAside) (C : Fr G X cX12_laysAside 2 yX12_laysAside.cls none wsX12_laysAside) (Q : Ii → Jj → Prop) : ∀ (n : Nat) (l1 : Int) (I : Ii) (J : Jj), L_X12_laysAside_2 Q n l1 I J → Wz G X 2 (QsU G X (QsV Q)) 0 0 2 [some (.ref (kadr G 0)), some (.int (iZ l1))] [] I J := by
  intro n
  induction n with
  | zero => intro l1 I J h; exact False.elim h
  | succ n w2 =>
    intro l1 I J h
    have h : Lb_X12_laysAside_2 Q (L_X12_laysAside_2 Q n) l1 I J := h
    unfold Lb_X12_laysAside_2 at h
    generalize L_X12_laysAside_2 Q n = r2 at h w2
    refine wz_iload_n C rfl rfl dX12_laysAside_2 ?_
    refine wz_sipush C (by decide) dX12_laysAside_3 ?_
    obtain ⟨g1, h⟩ := h
    refine wz_icmp_ge C (tgt := 27) g1 (by decide) dX12_laysAside_6 (by decide) (fun c => ?_) (fun c => ?_)
    · replace h := h.1 c
      exact wz_vret C dX12_laysAside_27 ⟨rfl, h⟩
    · replace h := h.2 c
      refine wz_aload_n C rfl rfl dX12_laysAside_9 ?_
      refine wz_getR C (j := 5) f_X12_laysAside_35 rfl dX12_laysAside_10 ?_
      refine wz_iload_n C rfl rfl dX12_laysAside_13 ?_
      refine wz_aload_n C rfl rfl dX12_laysAside_14 ?_
      refine wz_getR C (j := 2) f_X12_laysAside_26 rfl dX12_laysAside_15 ?_
      refine wz_iload_n C rfl rfl dX12_laysAside_18 ?_
      obtain ⟨g2, h⟩ := h
      refine wz_iaload C l1.toNat (n := 350) rfl (zN g2) (zL g2) (by decide) rfl dX12_laysAside_19 ?_
      obtain ⟨g3, h⟩ := h
      refine wd_iastore C l1.toNat (n := 350) rfl (zN g3) (zL g3) (by decide) dX12_laysAside_20 (fun I4 e => ?_)
      replace h := h I4 e
      refine wz_iinc_1 C rfl dX12_laysAside_21 ?_
      refine wz_goto C dX12_laysAside_24 (tgt := 2) (by decide) ?_
      exact w2 (l1 + 1) I4 J h
set_option maxHeartbeats 4000000 in
set_option maxRecDepth 100000 in
theorem k_X12_laysAside (G : KG) (hG : Kok G) (I : Ii) (J : Jj) (Q : Ii → Jj → Prop) (h : wp_X12_laysAside I J Q) : Ctr G yX12_laysAside wsX12_laysAside rm_X12_laysAside [.ref (kadr G 0)] (I, J) (QsV Q) := by
  unfold wp_X12_laysAside at h
  skip
  refine Ctr.ofZ (cc := cX12_laysAside) (nL := 2) (ret := none) [some (.ref (kadr G 0)), none] hG (by decide +kernel) rfl (Nat.le_of_ble_eq_true rfl) (Nat.le_of_ble_eq_true rfl) (by simp [lvA, lv_args, Value.category]) ?_
  intro X hX C
  refine wz_iconst C dX12_laysAside_0 ?_
  refine wz_istore_1 C rfl dX12_laysAside_1 ?_
  obtain ⟨n, h⟩ := h
  exact lk_X12_laysAside_2 G hG X hX C Q n 0 I J h
theorem in_X12_thinks_X12 : ∀ w ∈ wsX120, w ∈ wsX12_thinks := by decide +kernel
theorem f_X12_thinks_38 : FLk wsX12_thinks RX12 38 12 19 := flk 12 19 rfl tyX12_ok nmX12 in_X12_thinks_X12 (by decide) (by decide +kernel)
theorem f_X12_thinks_26 : FLk wsX12_thinks RX12 26 12 15 := flk 12 15 rfl tyX12_ok nmX12 in_X12_thinks_X12 (by decide) (by decide +kernel)
def rm_X12_thinks : Room := { frames := 0, cells := 0, slots := 0, locals := 0 }
set_option maxHeartbeats 4000000 in
set_option maxRecDepth 100000 in
theorem lk_X12_thinks_2 (G : KG) (hG : Kok G) (X : KX) (hX : KR X = rm_X12_thinks) (C : Fr G X cX12_thinks 2 yX12_thinks.cls none wsX12_thinks) (Q : Ii → Jj → Prop) : ∀ (n : Nat) (l1 : Int) (I : Ii) (J : Jj), L_X12_thinks_2 Q n l1 I J → Wz G X 2 (QsU G X (QsV Q)) 0 0 2 [some (.ref (kadr G 0)), some (.int (iZ l1))] [] I J := by
  intro n
  induction n with
  | zero => intro l1 I J h; exact False.elim h
  | succ n w2 =>
    intro l1 I J h
    have h : Lb_X12_thinks_2 Q (L_X12_thinks_2 Q n) l1 I J := h
    unfold Lb_X12_thinks_2 at h
    generalize L_X12_thinks_2 Q n = r2 at h w2
    refine wz_iload_n C rfl rfl dX12_thinks_2 ?_
    refine wz_sipush C (by decide) dX12_thinks_3 ?_
    obtain ⟨g1, h⟩ := h
    refine wz_icmp_ge C (tgt := 27) g1 (by decide) dX12_thinks_6 (by decide) (fun c => ?_) (fun c => ?_)
    · replace h := h.1 c
      exact wz_vret C dX12_thinks_27 ⟨rfl, h⟩
    · replace h := h.2 c
      refine wz_aload_n C rfl rfl dX12_thinks_9 ?_
      refine wz_getR C (j := 6) f_X12_thinks_38 rfl dX12_thinks_10 ?_
      refine wz_iload_n C rfl rfl dX12_thinks_13 ?_
      refine wz_aload_n C rfl rfl dX12_thinks_14 ?_
      refine wz_getR C (j := 2) f_X12_thinks_26 rfl dX12_thinks_15 ?_
      refine wz_iload_n C rfl rfl dX12_thinks_18 ?_
      obtain ⟨g2, h⟩ := h
      refine wz_iaload C l1.toNat (n := 350) rfl (zN g2) (zL g2) (by decide) rfl dX12_thinks_19 ?_
      obtain ⟨g3, h⟩ := h
      refine wd_iastore C l1.toNat (n := 350) rfl (zN g3) (zL g3) (by decide) dX12_thinks_20 (fun I4 e => ?_)
      replace h := h I4 e
      refine wz_iinc_1 C rfl dX12_thinks_21 ?_
      refine wz_goto C dX12_thinks_24 (tgt := 2) (by decide) ?_
      exact w2 (l1 + 1) I4 J h
set_option maxHeartbeats 4000000 in
set_option maxRecDepth 100000 in
theorem k_X12_thinks (G : KG) (hG : Kok G) (I : Ii) (J : Jj) (Q : Ii → Jj → Prop) (h : wp_X12_thinks I J Q) : Ctr G yX12_thinks wsX12_thinks rm_X12_thinks [.ref (kadr G 0)] (I, J) (QsV Q) := by
  unfold wp_X12_thinks at h
  skip
  refine Ctr.ofZ (cc := cX12_thinks) (nL := 2) (ret := none) [some (.ref (kadr G 0)), none] hG (by decide +kernel) rfl (Nat.le_of_ble_eq_true rfl) (Nat.le_of_ble_eq_true rfl) (by simp [lvA, lv_args, Value.category]) ?_
  intro X hX C
  refine wz_iconst C dX12_thinks_0 ?_
  refine wz_istore_1 C rfl dX12_thinks_1 ?_
  obtain ⟨n, h⟩ := h
  exact lk_X12_thinks_2 G hG X hX C Q n 0 I J h
theorem in_X12_thinksNoMore_X12 : ∀ w ∈ wsX120, w ∈ wsX12_thinksNoMore := by decide +kernel
theorem f_X12_thinksNoMore_26 : FLk wsX12_thinksNoMore RX12 26 12 15 := flk 12 15 rfl tyX12_ok nmX12 in_X12_thinksNoMore_X12 (by decide) (by decide +kernel)
theorem f_X12_thinksNoMore_38 : FLk wsX12_thinksNoMore RX12 38 12 19 := flk 12 19 rfl tyX12_ok nmX12 in_X12_thinksNoMore_X12 (by decide) (by decide +kernel)
def rm_X12_thinksNoMore : Room := { frames := 0, cells := 0, slots := 0, locals := 0 }
set_option maxHeartbeats 4000000 in
set_option maxRecDepth 100000 in
theorem lk_X12_thinksNoMore_2 (G : KG) (hG : Kok G) (X : KX) (hX : KR X = rm_X12_thinksNoMore) (C : Fr G X cX12_thinksNoMore 2 yX12_thinksNoMore.cls none wsX12_thinksNoMore) (Q : Ii → Jj → Prop) : ∀ (n : Nat) (l1 : Int) (I : Ii) (J : Jj), L_X12_thinksNoMore_2 Q n l1 I J → Wz G X 2 (QsU G X (QsV Q)) 0 0 2 [some (.ref (kadr G 0)), some (.int (iZ l1))] [] I J := by
  intro n
  induction n with
  | zero => intro l1 I J h; exact False.elim h
  | succ n w2 =>
    intro l1 I J h
    have h : Lb_X12_thinksNoMore_2 Q (L_X12_thinksNoMore_2 Q n) l1 I J := h
    unfold Lb_X12_thinksNoMore_2 at h
    generalize L_X12_thinksNoMore_2 Q n = r2 at h w2
    refine wz_iload_n C rfl rfl dX12_thinksNoMore_2 ?_
    refine wz_sipush C (by decide) dX12_thinksNoMore_3 ?_
    obtain ⟨g1, h⟩ := h
    refine wz_icmp_ge C (tgt := 27) g1 (by decide) dX12_thinksNoMore_6 (by decide) (fun c => ?_) (fun c => ?_)
    · replace h := h.1 c
      exact wz_vret C dX12_thinksNoMore_27 ⟨rfl, h⟩
    · replace h := h.2 c
      refine wz_aload_n C rfl rfl dX12_thinksNoMore_9 ?_
      refine wz_getR C (j := 2) f_X12_thinksNoMore_26 rfl dX12_thinksNoMore_10 ?_
      refine wz_iload_n C rfl rfl dX12_thinksNoMore_13 ?_
      refine wz_aload_n C rfl rfl dX12_thinksNoMore_14 ?_
      refine wz_getR C (j := 6) f_X12_thinksNoMore_38 rfl dX12_thinksNoMore_15 ?_
      refine wz_iload_n C rfl rfl dX12_thinksNoMore_18 ?_
      obtain ⟨g2, h⟩ := h
      refine wz_iaload C l1.toNat (n := 350) rfl (zN g2) (zL g2) (by decide) rfl dX12_thinksNoMore_19 ?_
      obtain ⟨g3, h⟩ := h
      refine wd_iastore C l1.toNat (n := 350) rfl (zN g3) (zL g3) (by decide) dX12_thinksNoMore_20 (fun I4 e => ?_)
      replace h := h I4 e
      refine wz_iinc_1 C rfl dX12_thinksNoMore_21 ?_
      refine wz_goto C dX12_thinksNoMore_24 (tgt := 2) (by decide) ?_
      exact w2 (l1 + 1) I4 J h
set_option maxHeartbeats 4000000 in
set_option maxRecDepth 100000 in
theorem k_X12_thinksNoMore (G : KG) (hG : Kok G) (I : Ii) (J : Jj) (Q : Ii → Jj → Prop) (h : wp_X12_thinksNoMore I J Q) : Ctr G yX12_thinksNoMore wsX12_thinksNoMore rm_X12_thinksNoMore [.ref (kadr G 0)] (I, J) (QsV Q) := by
  unfold wp_X12_thinksNoMore at h
  skip
  refine Ctr.ofZ (cc := cX12_thinksNoMore) (nL := 2) (ret := none) [some (.ref (kadr G 0)), none] hG (by decide +kernel) rfl (Nat.le_of_ble_eq_true rfl) (Nat.le_of_ble_eq_true rfl) (by simp [lvA, lv_args, Value.category]) ?_
  intro X hX C
  refine wz_iconst C dX12_thinksNoMore_0 ?_
  refine wz_istore_1 C rfl dX12_thinksNoMore_1 ?_
  obtain ⟨n, h⟩ := h
  exact lk_X12_thinksNoMore_2 G hG X hX C Q n 0 I J h
