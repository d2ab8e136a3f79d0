def rm_X9_readStatement : Room := { frames := 5, cells := 0, slots := 0, locals := 200 }
set_option maxHeartbeats 4000000 in
set_option maxRecDepth 100000 in
theorem k_X9_readStatement (G : KG) (hG : KokC G) (hW : KWx G) (k2 : Nat) (I : Ii) (J : Jj) (Q : Int → Ii → Jj → Prop) (hr5 : rg (I 101 5)) (h : wp_X9_readStatement k2 I J Q) : Ctr G yX9_readStatement wsX9_readStatement rm_X9_readStatement [.ref (kadr G 103), .ref (kadr G 101), .ref (kadr G k2)] (I, J) (QsB Q) := by
  unfold wp_X9_readStatement at h
  obtain ⟨hk2, h⟩ := h
  refine Ctr.ofZ (cc := cX9_readStatement) (nL := 3) (ret := (some .boolean)) [some (.ref (kadr G 103)), some (.ref (kadr G 101)), some (.ref (kadr G k2))] hG.1 (by decide +kernel) rfl (Nat.le_of_ble_eq_true rfl) (Nat.le_of_ble_eq_true rfl) (by simp [lvA, lv_args, Value.category]) ?_
  intro X hX C
  have hz := hG.2
  refine wz_aload_n C rfl rfl dX9_readStatement_0 ?_
  refine wd_isw C hG hW hr5 10 "vertex" 744050872 rfl (by decide +kernel) (by unfold lets; decide +kernel) (by decide +kernel) h gX9_readStatement_X10_isWord (by rw [hX]; exact ⟨Nat.le_of_ble_eq_true rfl, Nat.le_of_ble_eq_true rfl⟩) dX9_readStatement_1 dX9_readStatement_3 (fun v1 I1 J1 hb1 hr5 h => ?_)
  refine wz_if_eq C (tgt := 16) (rgB hb1) dX9_readStatement_6 (by decide) (fun c => ?_) (fun c => ?_)
  · replace h := h.1 c
    refine wz_aload_n C rfl rfl dX9_readStatement_16 ?_
    refine wd_isw C hG hW hr5 11 "edge" 168165 rfl (by decide +kernel) (by unfold lets; decide +kernel) (by decide +kernel) h gX9_readStatement_X10_isWord (by rw [hX]; exact ⟨Nat.le_of_ble_eq_true rfl, Nat.le_of_ble_eq_true rfl⟩) dX9_readStatement_17 dX9_readStatement_19 (fun v2 I2 J2 hb2 hr5 h => ?_)
    refine wz_if_eq C (tgt := 32) (rgB hb2) dX9_readStatement_22 (by decide) (fun c => ?_) (fun c => ?_)
    · replace h := h.1 c
      refine wz_aload_n C rfl rfl dX9_readStatement_32 ?_
      refine wd_isw C hG hW hr5 12 "parts" 16829075 rfl (by decide +kernel) (by unfold lets; decide +kernel) (by decide +kernel) h gX9_readStatement_X10_isWord (by rw [hX]; exact ⟨Nat.le_of_ble_eq_true rfl, Nat.le_of_ble_eq_true rfl⟩) dX9_readStatement_33 dX9_readStatement_35 (fun v3 I3 J3 hb3 hr5 h => ?_)
      refine wz_if_eq C (tgt := 48) (rgB hb3) dX9_readStatement_38 (by decide) (fun c => ?_) (fun c => ?_)
      · replace h := h.1 c
        refine wz_aload_n C rfl rfl dX9_readStatement_48 ?_
        refine wd_isw C hG hW hr5 13 "slack" 20317291 rfl (by decide +kernel) (by unfold lets; decide +kernel) (by decide +kernel) h gX9_readStatement_X10_isWord (by rw [hX]; exact ⟨Nat.le_of_ble_eq_true rfl, Nat.le_of_ble_eq_true rfl⟩) dX9_readStatement_49 dX9_readStatement_51 (fun v4 I4 J4 hb4 hr5 h => ?_)
        refine wz_if_eq C (tgt := 64) (rgB hb4) dX9_readStatement_54 (by decide) (fun c => ?_) (fun c => ?_)
        · replace h := h.1 c
          refine wz_aload_n C rfl rfl dX9_readStatement_64 ?_
          refine wd_isw C hG hW hr5 14 "credit" 119705908 rfl (by decide +kernel) (by unfold lets; decide +kernel) (by decide +kernel) h gX9_readStatement_X10_isWord (by rw [hX]; exact ⟨Nat.le_of_ble_eq_true rfl, Nat.le_of_ble_eq_true rfl⟩) dX9_readStatement_65 dX9_readStatement_67 (fun v5 I5 J5 hb5 hr5 h => ?_)
          refine wz_if_eq C (tgt := 80) (rgB hb5) dX9_readStatement_70 (by decide) (fun c => ?_) (fun c => ?_)
          · replace h := h.1 c
            refine wz_aload_n C rfl rfl dX9_readStatement_80 ?_
            refine wz_iconst C dX9_readStatement_81 ?_
            refine wm_callV C (o := 101) (As := [.int (iZ 1)]) (st := []) (a' := 0) (b' := 0) (shK_c hz rfl) rfl (k_X10_fail G hG 1 I5 J5 _ h) 1 gX9_readStatement_X10_fail rfl (by decide +kernel) (by rw [hX]; exact ⟨Nat.le_of_ble_eq_true rfl, Nat.le_of_ble_eq_true rfl⟩) rfl (Nat.le_of_ble_eq_true rfl) rfl rfl rfl dX9_readStatement_82 (kk_sB (fun v6 I6 J6 hb6 h => ?_))
            exact wz_zret C h.1 dX9_readStatement_85 ⟨_, rfl, h.1, h.2⟩
          · replace h := h.2 c
            refine wz_aload_n C rfl rfl dX9_readStatement_73 ?_
            refine wz_aload_n C rfl rfl dX9_readStatement_74 ?_
            refine wz_aload_n C rfl rfl dX9_readStatement_75 ?_
            refine wm_callV C (o := 103) (As := [.ref (kadr G 101), .ref (kadr G k2)]) (st := []) (a' := 0) (b' := 0) (shK_c hz rfl) rfl (k_X9_readCredit G hG k2 I5 J5 _ h) 2 gX9_readStatement_X9_readCredit rfl (by decide +kernel) (by rw [hX]; exact ⟨Nat.le_of_ble_eq_true rfl, Nat.le_of_ble_eq_true rfl⟩) rfl (Nat.le_of_ble_eq_true rfl) rfl rfl rfl dX9_readStatement_76 (kk_sB (fun v7 I7 J7 hb7 h => ?_))
            exact wz_zret C h.1 dX9_readStatement_79 ⟨_, rfl, h.1, h.2⟩
        · replace h := h.2 c
          refine wz_aload_n C rfl rfl dX9_readStatement_57 ?_
          refine wz_aload_n C rfl rfl dX9_readStatement_58 ?_
          refine wz_aload_n C rfl rfl dX9_readStatement_59 ?_
          refine wm_callV C (o := 103) (As := [.ref (kadr G 101), .ref (kadr G k2)]) (st := []) (a' := 0) (b' := 0) (shK_c hz rfl) rfl (k_X9_readSlack G hG k2 I4 J4 _ h) 2 gX9_readStatement_X9_readSlack rfl (by decide +kernel) (by rw [hX]; exact ⟨Nat.le_of_ble_eq_true rfl, Nat.le_of_ble_eq_true rfl⟩) rfl (Nat.le_of_ble_eq_true rfl) rfl rfl rfl dX9_readStatement_60 (kk_sB (fun v8 I8 J8 hb8 h => ?_))
          exact wz_zret C h.1 dX9_readStatement_63 ⟨_, rfl, h.1, h.2⟩
      · replace h := h.2 c
        refine wz_aload_n C rfl rfl dX9_readStatement_41 ?_
        refine wz_aload_n C rfl rfl dX9_readStatement_42 ?_
        refine wz_aload_n C rfl rfl dX9_readStatement_43 ?_
        refine wm_callV C (o := 103) (As := [.ref (kadr G 101), .ref (kadr G k2)]) (st := []) (a' := 0) (b' := 0) (shK_c hz rfl) rfl (k_X9_readParts G hG k2 I3 J3 _ h) 2 gX9_readStatement_X9_readParts rfl (by decide +kernel) (by rw [hX]; exact ⟨Nat.le_of_ble_eq_true rfl, Nat.le_of_ble_eq_true rfl⟩) rfl (Nat.le_of_ble_eq_true rfl) rfl rfl rfl dX9_readStatement_44 (kk_sB (fun v9 I9 J9 hb9 h => ?_))
        exact wz_zret C h.1 dX9_readStatement_47 ⟨_, rfl, h.1, h.2⟩
    · replace h := h.2 c
      refine wz_aload_n C rfl rfl dX9_readStatement_25 ?_
      refine wz_aload_n C rfl rfl dX9_readStatement_26 ?_
      refine wz_aload_n C rfl rfl dX9_readStatement_27 ?_
      refine wm_callV C (o := 103) (As := [.ref (kadr G 101), .ref (kadr G k2)]) (st := []) (a' := 0) (b' := 0) (shK_c hz rfl) rfl (k_X9_readEdge G hG k2 I2 J2 _ h) 2 gX9_readStatement_X9_readEdge rfl (by decide +kernel) (by rw [hX]; exact ⟨Nat.le_of_ble_eq_true rfl, Nat.le_of_ble_eq_true rfl⟩) rfl (Nat.le_of_ble_eq_true rfl) rfl rfl rfl dX9_readStatement_28 (kk_sB (fun v10 I10 J10 hb10 h => ?_))
      exact wz_zret C h.1 dX9_readStatement_31 ⟨_, rfl, h.1, h.2⟩
  · replace h := h.2 c
    refine wz_aload_n C rfl rfl dX9_readStatement_9 ?_
    refine wz_aload_n C rfl rfl dX9_readStatement_10 ?_
    refine wz_aload_n C rfl rfl dX9_readStatement_11 ?_
    refine wm_callV C (o := 103) (As := [.ref (kadr G 101), .ref (kadr G k2)]) (st := []) (a' := 0) (b' := 0) (shK_c hz rfl) rfl (k_X9_readVertex G hG k2 I1 J1 _ h) 2 gX9_readStatement_X9_readVertex rfl (by decide +kernel) (by rw [hX]; exact ⟨Nat.le_of_ble_eq_true rfl, Nat.le_of_ble_eq_true rfl⟩) rfl (Nat.le_of_ble_eq_true rfl) rfl rfl rfl dX9_readStatement_12 (kk_sB (fun v11 I11 J11 hb11 h => ?_))
    exact wz_zret C h.1 dX9_readStatement_15 ⟨_, rfl, h.1, h.2⟩
theorem in_X9_read_X10 : ∀ w ∈ wsX100, w ∈ wsX9_read := by decide +kernel
theorem in_X9_read_X9 : ∀ w ∈ wsX90, w ∈ wsX9_read := by decide +kernel
theorem f_X9_read_14 : FLk wsX9_read RX9 14 12 0 := flk 12 0 rfl tyX9_ok nmX9 in_X9_read_X9 (by decide) (by decide +kernel)
theorem f_X9_read_25 : FLk wsX9_read RX9 25 13 5 := flk 13 5 rfl tyX10_ok nmX10 in_X9_read_X10 (by decide) (by decide +kernel)
def rm_X9_read : Room := { frames := 6, cells := 0, slots := 0, locals := 222 }
set_option maxHeartbeats 4000000 in
set_option maxRecDepth 100000 in
theorem lk_X9_read_11 (G : KG) (hG : KokC G) (hW : KWx G) (X : KX) (hX : KR X = rm_X9_read) (C : Fr G X cX9_read 4 yX9_read.cls (some .boolean) wsX9_read) (k2 : Nat) (hk2 : gK k2) (Q : Int → Ii → Jj → Prop) : ∀ (n : Nat) (l3 : Int) (I : Ii) (J : Jj), L_X9_read_11 k2 Q n l3 I J → Wz G X 4 (QsU G X (QsB Q)) 0 0 11 [some (.ref (kadr G 103)), some (.ref (kadr G 101)), some (.ref (kadr G k2)), some (.int (iZ l3))] [] I J := by
  have hz := hG.2
  intro n
  induction n with
  | zero => intro l3 I J h; exact False.elim h
  | succ n w11 =>
    intro l3 I J h
    have h : Lb_X9_read_11 k2 Q (L_X9_read_11 k2 Q n) l3 I J := h
    unfold Lb_X9_read_11 at h
    generalize L_X9_read_11 k2 Q n = r11 at h w11
    refine wz_iload_n C rfl rfl dX9_read_11 ?_
    refine wz_sipush C (by decide) dX9_read_12 ?_
    obtain ⟨g3, h⟩ := h
    refine wz_icmp_gt C (tgt := 56) g3 (by decide) dX9_read_15 (by decide) (fun c => ?_) (fun c => ?_)
    · replace h := h.1 c
      refine wz_iconst C dX9_read_56 ?_
      exact wz_zret C (Or.inl rfl) dX9_read_57 ⟨_, rfl, (Or.inl rfl), h⟩
    · replace h := h.2 c
      refine wz_aload_n C rfl rfl dX9_read_18 ?_
      refine wm_callV C (o := 101) (As := []) (st := []) (a' := 0) (b' := 0) (shK_c hz rfl) rfl (k_X10_advance G hG I J _ h) 0 gX9_read_X10_advance rfl (by decide +kernel) (by rw [hX]; exact ⟨Nat.le_of_ble_eq_true rfl, Nat.le_of_ble_eq_true rfl⟩) rfl (Nat.le_of_ble_eq_true rfl) rfl rfl rfl dX9_read_19 (kk_sV (fun I4 J4 h => ?_))
      refine wz_aload_n C rfl rfl dX9_read_22 ?_
      refine wz_getI C rfl f_X9_read_25 (sOc hz rfl) dX9_read_23 ?_
      obtain ⟨g5, h⟩ := h
      refine wz_if_ne C (tgt := 31) g5 dX9_read_26 (by decide) (fun c => ?_) (fun c => ?_)
      · replace h := h.1 c
        refine wz_aload_n C rfl rfl dX9_read_31 ?_
        refine wz_aload_n C rfl rfl dX9_read_32 ?_
        refine wz_aload_n C rfl rfl dX9_read_33 ?_
        refine wm_callV C (o := 103) (As := [.ref (kadr G 101), .ref (kadr G k2)]) (st := []) (a' := 0) (b' := 0) (shK_c hz rfl) rfl (k_X9_readStatement G hG hW k2 I4 J4 _ g5 h) 2 gX9_read_X9_readStatement rfl (by decide +kernel) (by rw [hX]; exact ⟨Nat.le_of_ble_eq_true rfl, Nat.le_of_ble_eq_true rfl⟩) rfl (Nat.le_of_ble_eq_true rfl) rfl rfl rfl dX9_read_34 (kk_sB (fun v6 I6 J6 hb6 h => ?_))
        refine wz_if_eq C (tgt := 48) (rgB hb6) dX9_read_37 (by decide) (fun c => ?_) (fun c => ?_)
        · replace h := h.1 c
          refine wz_iconst C dX9_read_48 ?_
          exact wz_zret C (Or.inl rfl) dX9_read_49 ⟨_, rfl, (Or.inl rfl), h⟩
        · replace h := h.2 c
          refine wz_aload_n C rfl rfl dX9_read_40 ?_
          refine wz_iconst C dX9_read_41 ?_
          refine wm_callV C (o := 101) (As := [.int (iZ 3)]) (st := []) (a' := 0) (b' := 0) (shK_c hz rfl) rfl (k_X10_takes G hG 3 I6 J6 _ h) 1 gX9_read_X10_takes rfl (by decide +kernel) (by rw [hX]; exact ⟨Nat.le_of_ble_eq_true rfl, Nat.le_of_ble_eq_true rfl⟩) rfl (Nat.le_of_ble_eq_true rfl) rfl rfl rfl dX9_read_42 (kk_sB (fun v7 I7 J7 hb7 h => ?_))
          refine wz_if_ne C (tgt := 50) (rgB hb7) dX9_read_45 (by decide) (fun c => ?_) (fun c => ?_)
          · replace h := h.1 c
            refine wz_iinc_3 C rfl dX9_read_50 ?_
            refine wz_goto C dX9_read_53 (tgt := 11) (by decide) ?_
            exact w11 (l3 + 1) I7 J7 h
          · replace h := h.2 c
            refine wz_iconst C dX9_read_48 ?_
            exact wz_zret C (Or.inl rfl) dX9_read_49 ⟨_, rfl, (Or.inl rfl), h⟩
      · replace h := h.2 c
        refine wz_iconst C dX9_read_29 ?_
        exact wz_zret C (Or.inr rfl) dX9_read_30 ⟨_, rfl, (Or.inr rfl), h⟩
set_option maxHeartbeats 4000000 in
set_option maxRecDepth 100000 in
theorem k_X9_read (G : KG) (hG : KokC G) (hW : KWx G) (k2 : Nat) (I : Ii) (J : Jj) (Q : Int → Ii → Jj → Prop) (h : wp_X9_read k2 I J Q) : Ctr G yX9_read wsX9_read rm_X9_read [.ref (kadr G 103), .ref (kadr G 101), .ref (kadr G k2)] (I, J) (QsB Q) := by
  unfold wp_X9_read at h
  obtain ⟨hk2, h⟩ := h
  refine Ctr.ofZ (cc := cX9_read) (nL := 4) (ret := (some .boolean)) [some (.ref (kadr G 103)), some (.ref (kadr G 101)), some (.ref (kadr G k2)), none] hG.1 (by decide +kernel) rfl (Nat.le_of_ble_eq_true rfl) (Nat.le_of_ble_eq_true rfl) (by simp [lvA, lv_args, Value.category]) ?_
  intro X hX C
  have hz := hG.2
  refine wz_aload_n C rfl rfl dX9_read_0 ?_
  refine wm_callV C (o := k2) (As := []) (st := []) (a' := 0) (b' := 0) (shK_c hz (spX2 hk2)) rfl (k_X2_clear G hG k2 I J _ h) 0 gX9_read_X2_clear rfl (by decide +kernel) (by rw [hX]; exact ⟨Nat.le_of_ble_eq_true rfl, Nat.le_of_ble_eq_true rfl⟩) rfl (Nat.le_of_ble_eq_true rfl) rfl rfl rfl dX9_read_1 (kk_sV (fun I1 J1 h => ?_))
  refine wz_aload_n C rfl rfl dX9_read_4 ?_
  refine wz_iconst C dX9_read_5 ?_
  refine wd_putI C f_X9_read_14 fp_X9_0 (sOc hz rfl) dX9_read_6 (fun I2 e => ?_)
  replace h := h I2 e
  refine wz_iconst C dX9_read_9 ?_
  refine wz_istore_3 C rfl dX9_read_10 ?_
  obtain ⟨n, h⟩ := h
  exact lk_X9_read_11 G hG hW X hX C k2 hk2 Q n 0 I2 J1 h
theorem in_X11_readText_X11 : ∀ w ∈ wsX110, w ∈ wsX11_readText := by decide +kernel
theorem in_X11_readText_X2 : ∀ w ∈ wsX20, w ∈ wsX11_readText := by decide +kernel
theorem f_X11_readText_12 : FLk wsX11_readText RX11 12 14 0 := flk 14 0 rfl tyX11_ok nmX11 in_X11_readText_X11 (by decide) (by decide +kernel)
theorem f_X11_readText_19 : FLk wsX11_readText RX11 19 14 1 := flk 14 1 rfl tyX11_ok nmX11 in_X11_readText_X11 (by decide) (by decide +kernel)
theorem f_X11_readText_44 : FLk wsX11_readText RX11 44 14 5 := flk 14 5 rfl tyX11_ok nmX11 in_X11_readText_X11 (by decide) (by decide +kernel)
theorem f_X11_readText_40 : FLk wsX11_readText RX11 40 14 4 := flk 14 4 rfl tyX11_ok nmX11 in_X11_readText_X11 (by decide) (by decide +kernel)
theorem f_X11_readText_53 : FLk wsX11_readText RX11 53 14 7 := flk 14 7 rfl tyX11_ok nmX11 in_X11_readText_X11 (by decide) (by decide +kernel)
theorem f_X11_readText_66 : FLk wsX11_readText RX11 66 14 11 := flk 14 11 rfl tyX11_ok nmX11 in_X11_readText_X11 (by decide) (by decide +kernel)
theorem f_X11_readText_141 : FLk wsX11_readText RX11 141 5 0 := flk 5 0 rfl tyX2_ok nmX2 in_X11_readText_X2 (by decide) (by decide +kernel)
def rm_X11_readText : Room := { frames := 7, cells := 0, slots := 0, locals := 245 }
set_option maxHeartbeats 4000000 in
set_option maxRecDepth 100000 in
theorem k_X11_readText (G : KG) (hG : KokC G) (hW : KWx G) (I : Ii) (J : Jj) (Q : Int → Ii → Jj → Prop) (h : wp_X11_readText I J Q) : Ctr G yX11_readText wsX11_readText rm_X11_readText [.ref (kadr G 100)] (I, J) (QsI Q) := by
  unfold wp_X11_readText at h
  skip
  refine Ctr.ofZ (cc := cX11_readText) (nL := 1) (ret := (some .int)) [some (.ref (kadr G 100))] hG.1 (by decide +kernel) rfl (Nat.le_of_ble_eq_true rfl) (Nat.le_of_ble_eq_true rfl) (by simp [lvA, lv_args, Value.category]) ?_
  intro X hX C
  have hz := hG.2
  refine wz_aload_n C rfl rfl dX11_readText_0 ?_
  refine wz_getR C (j := 101) f_X11_readText_12 (sOc hz rfl) (by decide) dX11_readText_1 ?_
  refine wm_callV C (o := 101) (As := []) (st := []) (a' := 0) (b' := 0) (shK_c hz rfl) rfl (k_X10_begin G hG I J _ h) 0 gX11_readText_X10_begin rfl (by decide +kernel) (by rw [hX]; exact ⟨Nat.le_of_ble_eq_true rfl, Nat.le_of_ble_eq_true rfl⟩) rfl (Nat.le_of_ble_eq_true rfl) rfl rfl rfl dX11_readText_4 (kk_sV (fun I1 J1 h => ?_))
  refine wz_aload_n C rfl rfl dX11_readText_7 ?_
  refine wz_getR C (j := 103) f_X11_readText_19 (sOc hz rfl) (by decide) dX11_readText_8 ?_
  refine wz_aload_n C rfl rfl dX11_readText_11 ?_
  refine wz_getR C (j := 101) f_X11_readText_12 (sOc hz rfl) (by decide) dX11_readText_12 ?_
  refine wz_aload_n C rfl rfl dX11_readText_15 ?_
  refine wz_getR C (j := 210) f_X11_readText_44 (sOc hz rfl) (by decide) dX11_readText_16 ?_
  refine wm_callV C (o := 103) (As := [.ref (kadr G 101), .ref (kadr G 210)]) (st := []) (a' := 0) (b' := 0) (shK_c hz rfl) rfl (k_X9_read G hG hW 210 I1 J1 _ h) 2 gX11_readText_X9_read rfl (by decide +kernel) (by rw [hX]; exact ⟨Nat.le_of_ble_eq_true rfl, Nat.le_of_ble_eq_true rfl⟩) rfl (Nat.le_of_ble_eq_true rfl) rfl rfl rfl dX11_readText_19 (kk_sB (fun v2 I2 J2 hb2 h => ?_))
  refine wz_if_ne C (tgt := 35) (rgB hb2) dX11_readText_22 (by decide) (fun c => ?_) (fun c => ?_)
  · replace h := h.1 c
    refine wz_aload_n C rfl rfl dX11_readText_35 ?_
    refine wz_getR C (j := 200) f_X11_readText_40 (sOc hz rfl) (by decide) dX11_readText_36 ?_
    refine wz_aload_n C rfl rfl dX11_readText_39 ?_
    refine wz_getR C (j := 210) f_X11_readText_44 (sOc hz rfl) (by decide) dX11_readText_40 ?_
    refine wm_callV C (o := 200) (As := [.ref (kadr G 210)]) (st := []) (a' := 0) (b' := 0) (shK_c hz rfl) rfl (k_X2_copyFrom G hG 200 210 I2 J2 _ h) 1 gX11_readText_X2_copyFrom rfl (by decide +kernel) (by rw [hX]; exact ⟨Nat.le_of_ble_eq_true rfl, Nat.le_of_ble_eq_true rfl⟩) rfl (Nat.le_of_ble_eq_true rfl) rfl rfl rfl dX11_readText_43 (kk_sV (fun I3 J3 h => ?_))
    refine wz_aload_n C rfl rfl dX11_readText_46 ?_
    refine wz_getR C (j := 300) f_X11_readText_53 (sOc hz rfl) (by decide) dX11_readText_47 ?_
    refine wz_aload_n C rfl rfl dX11_readText_50 ?_
    refine wz_getR C (j := 200) f_X11_readText_40 (sOc hz rfl) (by decide) dX11_readText_51 ?_
    refine wm_callV C (o := 300) (As := [.ref (kadr G 200)]) (st := []) (a' := 0) (b' := 0) (shK_c hz rfl) rfl (k_X8_start G hG 300 200 I3 J3 _ h) 1 gX11_readText_X8_start rfl (by decide +kernel) (by rw [hX]; exact ⟨Nat.le_of_ble_eq_true rfl, Nat.le_of_ble_eq_true rfl⟩) rfl (Nat.le_of_ble_eq_true rfl) rfl rfl rfl dX11_readText_54 (kk_sV (fun I4 J4 h => ?_))
    refine wz_aload_n C rfl rfl dX11_readText_57 ?_
    refine wz_getR C (j := 111) f_X11_readText_66 (sOc hz rfl) (by decide) dX11_readText_58 ?_
    refine wm_callV C (o := 111) (As := []) (st := []) (a' := 0) (b' := 0) (shK_c hz rfl) rfl (k_X3_forget G hG I4 J4 _ h) 0 gX11_readText_X3_forget rfl (by decide +kernel) (by rw [hX]; exact ⟨Nat.le_of_ble_eq_true rfl, Nat.le_of_ble_eq_true rfl⟩) rfl (Nat.le_of_ble_eq_true rfl) rfl rfl rfl dX11_readText_61 (kk_sV (fun I5 J5 h => ?_))
    refine wz_aload_n C rfl rfl dX11_readText_64 ?_
    refine wz_getR C (j := 200) f_X11_readText_40 (sOc hz rfl) (by decide) dX11_readText_65 ?_
    refine wz_getI C rfl f_X11_readText_141 (sOc hz rfl) dX11_readText_68 ?_
    exact wz_iret C dX11_readText_71 ⟨_, rfl, h⟩
  · replace h := h.2 c
    exact False.elim h
