theorem in_X8_raiseLevel_X5 : ∀ w ∈ wsX50, w ∈ wsX8_raiseLevel := by decide +kernel
theorem in_X8_raiseLevel_X8 : ∀ w ∈ wsX80, w ∈ wsX8_raiseLevel := by decide +kernel
theorem f_X8_raiseLevel_24 : FLk wsX8_raiseLevel RX8 24 11 0 := flk 11 0 rfl tyX8_ok nmX8 in_X8_raiseLevel_X8 (by decide) (by decide +kernel)
theorem f_X8_raiseLevel_15 : FLk wsX8_raiseLevel RX8 15 11 4 := flk 11 4 rfl tyX8_ok nmX8 in_X8_raiseLevel_X8 (by decide) (by decide +kernel)
theorem f_X8_raiseLevel_67 : FLk wsX8_raiseLevel RX8 67 8 3 := flk 8 3 rfl tyX5_ok nmX5 in_X8_raiseLevel_X5 (by decide) (by decide +kernel)
theorem f_X8_raiseLevel_18 : FLk wsX8_raiseLevel RX8 18 11 5 := flk 11 5 rfl tyX8_ok nmX8 in_X8_raiseLevel_X8 (by decide) (by decide +kernel)
theorem f_X8_raiseLevel_62 : FLk wsX8_raiseLevel RX8 62 8 2 := flk 8 2 rfl tyX5_ok nmX5 in_X8_raiseLevel_X5 (by decide) (by decide +kernel)
def rm_X8_raiseLevel : Room := { frames := 1, cells := 0, slots := 0, locals := 22 }
set_option maxHeartbeats 4000000 in
set_option maxRecDepth 100000 in
theorem lk_X8_raiseLevel_8 (G : KG) (hG : KokC G) (X : KX) (hX : KR X = rm_X8_raiseLevel) (C : Fr G X cX8_raiseLevel 6 yX8_raiseLevel.cls none wsX8_raiseLevel) (k0 : Nat) (l1 : Int) (hk0 : sK k0) (Q : Ii → Jj → Prop) : ∀ (n : Nat) (l3 : Int) (l4 : Int) (I : Ii) (J : Jj), L_X8_raiseLevel_8 k0 l1 Q n l3 l4 I J → Wz G X 6 (QsU G X (QsV Q)) 0 0 8 [some (.ref (kadr G k0)), some (.int (iZ l1)), some (.ref (kadr G 120)), some (.int (iZ l3)), some (.int (iZ l4)), none] [] I J := by
  have hz := hG.2
  intro n
  induction n with
  | zero => intro l3 l4 I J h; exact False.elim h
  | succ n w8 =>
    intro l3 l4 I J h
    have h : Lb_X8_raiseLevel_8 k0 l1 Q (L_X8_raiseLevel_8 k0 l1 Q n) l3 l4 I J := h
    unfold Lb_X8_raiseLevel_8 at h
    generalize L_X8_raiseLevel_8 k0 l1 Q n = r8 at h w8
    refine wz_iload C rfl dX8_raiseLevel_8 ?_
    refine wz_iload_n C rfl rfl dX8_raiseLevel_10 ?_
    obtain ⟨g2, h⟩ := h
    obtain ⟨g3, h⟩ := h
    refine wz_icmp_ge C (tgt := 56) g2 g3 dX8_raiseLevel_11 (by decide) (fun c => ?_) (fun c => ?_)
    · replace h := h.1 c
      refine wz_aload_n C rfl rfl dX8_raiseLevel_56 ?_
      refine wz_dup C rfl dX8_raiseLevel_57 ?_
      refine wz_getI C rfl f_X8_raiseLevel_24 (sOc hz (soX8_0 hk0)) dX8_raiseLevel_58 ?_
      refine wz_iconst C dX8_raiseLevel_61 ?_
      refine wz_iadd C dX8_raiseLevel_62 ?_
      refine wd_putI C f_X8_raiseLevel_24 fp_X8_0 (sOc hz (soX8_0 hk0)) dX8_raiseLevel_63 (fun I4 e => ?_)
      replace h := h I4 e
      refine wz_aload_n C rfl rfl dX8_raiseLevel_66 ?_
      refine wz_getR C (j := k0 + 2) f_X8_raiseLevel_15 (sOc hz (soX8_4 hk0)) (by have := sK_ge hk0; omega) dX8_raiseLevel_67 ?_
      refine wz_aload_n C rfl rfl dX8_raiseLevel_70 ?_
      refine wz_getI C rfl f_X8_raiseLevel_24 (sOc hz (soX8_0 hk0)) dX8_raiseLevel_71 ?_
      refine wz_aload_n C rfl rfl dX8_raiseLevel_74 ?_
      refine wz_getI C rfl f_X8_raiseLevel_67 (sOc hz rfl) dX8_raiseLevel_75 ?_
      refine wm_callSN C (As := [.ref (kadr G (k0 + 2)), .int (iZ (I4 k0 0)), .int (iZ (I4 120 3))]) (st := []) (a' := 0) (b' := 0) (host := "ShareGraph") (k_X11_put G hG (k0 + 2) (I4 k0 0) (I4 120 3) I4 J _ h) 3 gX8_raiseLevel_X11_put_n46 (by decide +kernel) (by decide +kernel) (by decide +kernel) rfl (by decide +kernel) (by rw [hX]; exact ⟨Nat.le_of_ble_eq_true rfl, Nat.le_of_ble_eq_true rfl⟩) rfl (Nat.le_of_ble_eq_true rfl) rfl rfl rfl dX8_raiseLevel_78 (kk_sV (fun I5 J5 h => ?_))
      exact wz_vret C dX8_raiseLevel_81 ⟨rfl, h⟩
    · replace h := h.2 c
      refine wz_aload_n C rfl rfl dX8_raiseLevel_14 ?_
      refine wz_getR C (j := k0 + 3) f_X8_raiseLevel_18 (sOc hz (soX8_5 hk0)) (by have := sK_ge hk0; omega) dX8_raiseLevel_15 ?_
      refine wz_iload_n C rfl rfl dX8_raiseLevel_18 ?_
      refine wz_iload C rfl dX8_raiseLevel_19 ?_
      refine wz_iadd C dX8_raiseLevel_21 ?_
      refine wm_callSN C (As := [.ref (kadr G (k0 + 3)), .int (iZ (l3 + l4))]) (st := []) (a' := 0) (b' := 0) (host := "ShareGraph") (k_X11_at G hG (k0 + 3) (l3 + l4) I J _ h) 2 gX8_raiseLevel_X11_at_n54 (by decide +kernel) (by decide +kernel) (by decide +kernel) rfl (by decide +kernel) (by rw [hX]; exact ⟨Nat.le_of_ble_eq_true rfl, Nat.le_of_ble_eq_true rfl⟩) rfl (Nat.le_of_ble_eq_true rfl) rfl rfl rfl dX8_raiseLevel_22 (kk_sI (fun v6 I6 J6 h => ?_))
      refine wz_istore_5 C rfl dX8_raiseLevel_25 ?_
      refine wz_aload_n C rfl rfl dX8_raiseLevel_27 ?_
      refine wz_getR C (j := k0 + 3) f_X8_raiseLevel_18 (sOc hz (soX8_5 hk0)) (by have := sK_ge hk0; omega) dX8_raiseLevel_28 ?_
      refine wz_iload_n C rfl rfl dX8_raiseLevel_31 ?_
      refine wz_bipush C (by decide) dX8_raiseLevel_32 ?_
      refine wz_iadd C dX8_raiseLevel_34 ?_
      refine wz_iload C rfl dX8_raiseLevel_35 ?_
      refine wz_iadd C dX8_raiseLevel_37 ?_
      refine wz_aload_n C rfl rfl dX8_raiseLevel_38 ?_
      refine wz_getR C (j := 123) f_X8_raiseLevel_62 (sOc hz rfl) (by decide) dX8_raiseLevel_39 ?_
      refine wz_iload C rfl dX8_raiseLevel_42 ?_
      refine wm_callSN C (As := [.ref (kadr G 123), .int (iZ v6)]) (st := [.int (iZ ((l3 + 14) + l4)), .ref (kadr G (k0 + 3))]) (a' := 0) (b' := 0) (host := "ShareGraph") (k_X11_at G hG 123 v6 I6 J6 _ h) 2 gX8_raiseLevel_X11_at_n54 (by decide +kernel) (by decide +kernel) (by decide +kernel) rfl (by decide +kernel) (by rw [hX]; exact ⟨Nat.le_of_ble_eq_true rfl, Nat.le_of_ble_eq_true rfl⟩) rfl (Nat.le_of_ble_eq_true rfl) rfl rfl rfl dX8_raiseLevel_44 (kk_sI (fun v7 I7 J7 h => ?_))
      refine wm_callSN C (As := [.ref (kadr G (k0 + 3)), .int (iZ ((l3 + 14) + l4)), .int (iZ v7)]) (st := []) (a' := 0) (b' := 0) (host := "ShareGraph") (k_X11_put G hG (k0 + 3) ((l3 + 14) + l4) v7 I7 J7 _ h) 3 gX8_raiseLevel_X11_put_n46 (by decide +kernel) (by decide +kernel) (by decide +kernel) rfl (by decide +kernel) (by rw [hX]; exact ⟨Nat.le_of_ble_eq_true rfl, Nat.le_of_ble_eq_true rfl⟩) rfl (Nat.le_of_ble_eq_true rfl) rfl rfl rfl dX8_raiseLevel_47 (kk_sV (fun I8 J8 h => ?_))
      refine wz_iinc_4 C rfl dX8_raiseLevel_50 ?_
      refine wz_goto C dX8_raiseLevel_53 (tgt := 8) (by decide) ?_
      exact Wz.drop (w8 l3 (l4 + 1) I8 J8 h) (And.intro rfl (And.intro rfl (And.intro rfl (And.intro rfl (And.intro rfl trivial)))))
set_option maxHeartbeats 4000000 in
set_option maxRecDepth 100000 in
theorem k_X8_raiseLevel (G : KG) (hG : KokC G) (k0 : Nat) (l1 : Int) (I : Ii) (J : Jj) (Q : Ii → Jj → Prop) (h : wp_X8_raiseLevel k0 l1 I J Q) : Ctr G yX8_raiseLevel wsX8_raiseLevel rm_X8_raiseLevel [.ref (kadr G k0), .int (iZ l1), .ref (kadr G 120)] (I, J) (QsV Q) := by
  unfold wp_X8_raiseLevel at h
  obtain ⟨hk0, h⟩ := h
  refine Ctr.ofZ (cc := cX8_raiseLevel) (nL := 6) (ret := none) [some (.ref (kadr G k0)), some (.int (iZ l1)), some (.ref (kadr G 120)), none, none, none] hG.1 (by decide +kernel) rfl (Nat.le_of_ble_eq_true rfl) (Nat.le_of_ble_eq_true rfl) (by simp [lvA, lv_args, Value.category]) ?_
  intro X hX C
  have hz := hG.2
  refine wz_aload_n C rfl rfl dX8_raiseLevel_0 ?_
  refine wm_callV C (o := k0) (As := []) (st := []) (a' := 0) (b' := 0) (shK_c hz (spX8 hk0)) rfl (k_X8_groupRow G hG k0 I J _ h) 0 gX8_raiseLevel_X8_groupRow rfl (by decide +kernel) (by rw [hX]; exact ⟨Nat.le_of_ble_eq_true rfl, Nat.le_of_ble_eq_true rfl⟩) rfl (Nat.le_of_ble_eq_true rfl) rfl rfl rfl dX8_raiseLevel_1 (kk_sI (fun v1 I1 J1 h => ?_))
  refine wz_istore_3 C rfl dX8_raiseLevel_4 ?_
  refine wz_iconst C dX8_raiseLevel_5 ?_
  refine wz_istore_4 C rfl dX8_raiseLevel_6 ?_
  obtain ⟨n, h⟩ := h
  exact lk_X8_raiseLevel_8 G hG X hX C k0 l1 hk0 Q n v1 0 I1 J1 h
theorem in_X8_place_X8 : ∀ w ∈ wsX80, w ∈ wsX8_place := by decide +kernel
theorem f_X8_place_9 : FLk wsX8_place RX8 9 11 3 := flk 11 3 rfl tyX8_ok nmX8 in_X8_place_X8 (by decide) (by decide +kernel)
def rm_X8_place : Room := { frames := 1, cells := 0, slots := 0, locals := 22 }
set_option maxHeartbeats 4000000 in
set_option maxRecDepth 100000 in
theorem lk_X8_place_2 (G : KG) (hG : KokC G) (X : KX) (hX : KR X = rm_X8_place) (C : Fr G X cX8_place 4 yX8_place.cls none wsX8_place) (k0 : Nat) (l1 : Int) (l2 : Int) (hk0 : sK k0) (Q : Ii → Jj → Prop) : ∀ (n : Nat) (l3 : Int) (I : Ii) (J : Jj), L_X8_place_2 k0 l1 l2 Q n l3 I J → Wz G X 4 (QsU G X (QsV Q)) 0 0 2 [some (.ref (kadr G k0)), some (.int (iZ l1)), some (.int (iZ l2)), some (.int (iZ l3))] [] I J := by
  have hz := hG.2
  intro n
  induction n with
  | zero => intro l3 I J h; exact False.elim h
  | succ n w2 =>
    intro l3 I J h
    have h : Lb_X8_place_2 k0 l1 l2 Q (L_X8_place_2 k0 l1 l2 Q n) l3 I J := h
    unfold Lb_X8_place_2 at h
    generalize L_X8_place_2 k0 l1 l2 Q n = r2 at h w2
    refine wz_iload_n C rfl rfl dX8_place_2 ?_
    refine wz_bipush C (by decide) dX8_place_3 ?_
    obtain ⟨g1, h⟩ := h
    refine wz_icmp_ge C (tgt := 31) g1 (by decide) dX8_place_5 (by decide) (fun c => ?_) (fun c => ?_)
    · replace h := h.1 c
      exact wz_vret C dX8_place_31 ⟨rfl, h⟩
    · replace h := h.2 c
      refine wz_iload_n C rfl rfl dX8_place_8 ?_
      refine wz_iload_n C rfl rfl dX8_place_9 ?_
      refine wm_callSN C (As := [.int (iZ l1), .int (iZ l3)]) (st := []) (a' := 0) (b' := 0) (host := "ShareGraph") (k_X11_isIn G hG l1 l3 I J _ h) 2 gX8_place_X11_isIn_n70 (by decide +kernel) (by decide +kernel) (by decide +kernel) rfl (by decide +kernel) (by rw [hX]; exact ⟨Nat.le_of_ble_eq_true rfl, Nat.le_of_ble_eq_true rfl⟩) rfl (Nat.le_of_ble_eq_true rfl) rfl rfl rfl dX8_place_10 (kk_sB (fun v2 I2 J2 hb2 h => ?_))
      refine wz_if_eq C (tgt := 25) (rgB hb2) dX8_place_13 (by decide) (fun c => ?_) (fun c => ?_)
      · replace h := h.1 c
        refine wz_iinc_3 C rfl dX8_place_25 ?_
        refine wz_goto C dX8_place_28 (tgt := 2) (by decide) ?_
        exact w2 (l3 + 1) I2 J2 h
      · replace h := h.2 c
        refine wz_aload_n C rfl rfl dX8_place_16 ?_
        refine wz_getR C (j := k0 + 1) f_X8_place_9 (sOc hz (soX8_3 hk0)) (by have := sK_ge hk0; omega) dX8_place_17 ?_
        refine wz_iload_n C rfl rfl dX8_place_20 ?_
        refine wz_iload_n C rfl rfl dX8_place_21 ?_
        refine wm_callSN C (As := [.ref (kadr G (k0 + 1)), .int (iZ l3), .int (iZ l2)]) (st := []) (a' := 0) (b' := 0) (host := "ShareGraph") (k_X11_put G hG (k0 + 1) l3 l2 I2 J2 _ h) 3 gX8_place_X11_put_n46 (by decide +kernel) (by decide +kernel) (by decide +kernel) rfl (by decide +kernel) (by rw [hX]; exact ⟨Nat.le_of_ble_eq_true rfl, Nat.le_of_ble_eq_true rfl⟩) rfl (Nat.le_of_ble_eq_true rfl) rfl rfl rfl dX8_place_22 (kk_sV (fun I3 J3 h => ?_))
        refine wz_iinc_3 C rfl dX8_place_25 ?_
        refine wz_goto C dX8_place_28 (tgt := 2) (by decide) ?_
        exact w2 (l3 + 1) I3 J3 h
set_option maxHeartbeats 4000000 in
set_option maxRecDepth 100000 in
theorem k_X8_place (G : KG) (hG : KokC G) (k0 : Nat) (l1 : Int) (l2 : Int) (I : Ii) (J : Jj) (Q : Ii → Jj → Prop) (h : wp_X8_place k0 l1 l2 I J Q) : Ctr G yX8_place wsX8_place rm_X8_place [.ref (kadr G k0), .int (iZ l1), .int (iZ l2)] (I, J) (QsV Q) := by
  unfold wp_X8_place at h
  obtain ⟨hk0, h⟩ := h
  refine Ctr.ofZ (cc := cX8_place) (nL := 4) (ret := none) [some (.ref (kadr G k0)), some (.int (iZ l1)), some (.int (iZ l2)), none] hG.1 (by decide +kernel) rfl (Nat.le_of_ble_eq_true rfl) (Nat.le_of_ble_eq_true rfl) (by simp [lvA, lv_args, Value.category]) ?_
  intro X hX C
  have hz := hG.2
  refine wz_iconst C dX8_place_0 ?_
  refine wz_istore_3 C rfl dX8_place_1 ?_
  obtain ⟨n, h⟩ := h
  exact lk_X8_place_2 G hG X hX C k0 l1 l2 hk0 Q n 0 I J h
theorem in_X8_note_X8 : ∀ w ∈ wsX80, w ∈ wsX8_note := by decide +kernel
theorem f_X8_note_21 : FLk wsX8_note RX8 21 11 6 := flk 11 6 rfl tyX8_ok nmX8 in_X8_note_X8 (by decide) (by decide +kernel)
theorem f_X8_note_34 : FLk wsX8_note RX8 34 11 2 := flk 11 2 rfl tyX8_ok nmX8 in_X8_note_X8 (by decide) (by decide +kernel)
def rm_X8_note : Room := { frames := 1, cells := 0, slots := 0, locals := 60 }
set_option maxHeartbeats 4000000 in
set_option maxRecDepth 100000 in
theorem k_X8_note (G : KG) (hG : KokC G) (k0 : Nat) (l1 : Int) (l2 : Int) (l3 : Int) (l4 : Int) (I : Ii) (J : Jj) (Q : Ii → Jj → Prop) (h : wp_X8_note k0 l1 l2 l3 l4 I J Q) : Ctr G yX8_note wsX8_note rm_X8_note [.ref (kadr G k0), .int (iZ l1), .int (iZ l2), .int (iZ l3), .int (iZ l4)] (I, J) (QsV Q) := by
  unfold wp_X8_note at h
  obtain ⟨hk0, h⟩ := h
  refine Ctr.ofZ (cc := cX8_note) (nL := 5) (ret := none) [some (.ref (kadr G k0)), some (.int (iZ l1)), some (.int (iZ l2)), some (.int (iZ l3)), some (.int (iZ l4))] hG.1 (by decide +kernel) rfl (Nat.le_of_ble_eq_true rfl) (Nat.le_of_ble_eq_true rfl) (by simp [lvA, lv_args, Value.category]) ?_
  intro X hX C
  have hz := hG.2
  refine wz_aload_n C rfl rfl dX8_note_0 ?_
  refine wz_getR C (j := k0 + 4) f_X8_note_21 (sOc hz (soX8_6 hk0)) (by have := sK_ge hk0; omega) dX8_note_1 ?_
  refine wz_iconst C dX8_note_4 ?_
  refine wz_aload_n C rfl rfl dX8_note_5 ?_
  refine wz_getR C (j := k0 + 4) f_X8_note_21 (sOc hz (soX8_6 hk0)) (by have := sK_ge hk0; omega) dX8_note_6 ?_
  refine wz_iconst C dX8_note_9 ?_
  refine wz_aload_n C rfl rfl dX8_note_10 ?_
  refine wz_getR C (j := k0 + 4) f_X8_note_21 (sOc hz (soX8_6 hk0)) (by have := sK_ge hk0; omega) dX8_note_11 ?_
  refine wz_alen0 C (n := 120) (sRc hz (srX8_4 hk0)) dX8_note_14 ?_
  refine wz_iconst C dX8_note_15 ?_
  refine wz_isub C dX8_note_16 ?_
  obtain ⟨g1, h⟩ := h
  refine wd_copyI C (n1 := 120) (n2 := 120) (sRc hz (srX8_4 hk0)) (sRc hz (srX8_4 hk0)) (by decide +kernel) (by decide +kernel) (by decide +kernel) (by decide +kernel) (by omega) (by decide) (by decide) (by rw [hX]; exact ⟨Nat.le_of_ble_eq_true rfl, Nat.le_of_ble_eq_true rfl⟩) dX8_note_17 (fun I2 e => ?_)
  replace h := h I2 e
  refine wz_aload_n C rfl rfl dX8_note_20 ?_
  refine wz_getR C (j := k0 + 4) f_X8_note_21 (sOc hz (soX8_6 hk0)) (by have := sK_ge hk0; omega) dX8_note_21 ?_
  refine wz_iconst C dX8_note_24 ?_
  refine wz_iload_n C rfl rfl dX8_note_25 ?_
  refine wm_callSN C (As := [.ref (kadr G (k0 + 4)), .int (iZ 0), .int (iZ l1)]) (st := []) (a' := 0) (b' := 0) (host := "ShareGraph") (k_X11_put G hG (k0 + 4) 0 l1 I2 J _ h) 3 gX8_note_X11_put_n46 (by decide +kernel) (by decide +kernel) (by decide +kernel) rfl (by decide +kernel) (by rw [hX]; exact ⟨Nat.le_of_ble_eq_true rfl, Nat.le_of_ble_eq_true rfl⟩) rfl (Nat.le_of_ble_eq_true rfl) rfl rfl rfl dX8_note_26 (kk_sV (fun I3 J3 h => ?_))
  refine wz_aload_n C rfl rfl dX8_note_29 ?_
  refine wz_getR C (j := k0 + 4) f_X8_note_21 (sOc hz (soX8_6 hk0)) (by have := sK_ge hk0; omega) dX8_note_30 ?_
  refine wz_iconst C dX8_note_33 ?_
  refine wz_iload_n C rfl rfl dX8_note_34 ?_
  refine wm_callSN C (As := [.ref (kadr G (k0 + 4)), .int (iZ 1), .int (iZ l2)]) (st := []) (a' := 0) (b' := 0) (host := "ShareGraph") (k_X11_put G hG (k0 + 4) 1 l2 I3 J3 _ h) 3 gX8_note_X11_put_n46 (by decide +kernel) (by decide +kernel) (by decide +kernel) rfl (by decide +kernel) (by rw [hX]; exact ⟨Nat.le_of_ble_eq_true rfl, Nat.le_of_ble_eq_true rfl⟩) rfl (Nat.le_of_ble_eq_true rfl) rfl rfl rfl dX8_note_35 (kk_sV (fun I4 J4 h => ?_))
  refine wz_aload_n C rfl rfl dX8_note_38 ?_
  refine wz_getR C (j := k0 + 4) f_X8_note_21 (sOc hz (soX8_6 hk0)) (by have := sK_ge hk0; omega) dX8_note_39 ?_
  refine wz_iconst C dX8_note_42 ?_
  refine wz_iload_n C rfl rfl dX8_note_43 ?_
  refine wm_callSN C (As := [.ref (kadr G (k0 + 4)), .int (iZ 2), .int (iZ l3)]) (st := []) (a' := 0) (b' := 0) (host := "ShareGraph") (k_X11_put G hG (k0 + 4) 2 l3 I4 J4 _ h) 3 gX8_note_X11_put_n46 (by decide +kernel) (by decide +kernel) (by decide +kernel) rfl (by decide +kernel) (by rw [hX]; exact ⟨Nat.le_of_ble_eq_true rfl, Nat.le_of_ble_eq_true rfl⟩) rfl (Nat.le_of_ble_eq_true rfl) rfl rfl rfl dX8_note_44 (kk_sV (fun I5 J5 h => ?_))
  refine wz_aload_n C rfl rfl dX8_note_47 ?_
  refine wz_getR C (j := k0 + 4) f_X8_note_21 (sOc hz (soX8_6 hk0)) (by have := sK_ge hk0; omega) dX8_note_48 ?_
  refine wz_iconst C dX8_note_51 ?_
  refine wz_iload C rfl dX8_note_52 ?_
  refine wm_callSN C (As := [.ref (kadr G (k0 + 4)), .int (iZ 3), .int (iZ l4)]) (st := []) (a' := 0) (b' := 0) (host := "ShareGraph") (k_X11_put G hG (k0 + 4) 3 l4 I5 J5 _ h) 3 gX8_note_X11_put_n46 (by decide +kernel) (by decide +kernel) (by decide +kernel) rfl (by decide +kernel) (by rw [hX]; exact ⟨Nat.le_of_ble_eq_true rfl, Nat.le_of_ble_eq_true rfl⟩) rfl (Nat.le_of_ble_eq_true rfl) rfl rfl rfl dX8_note_54 (kk_sV (fun I6 J6 h => ?_))
  refine wz_aload_n C rfl rfl dX8_note_57 ?_
  refine wz_aload_n C rfl rfl dX8_note_58 ?_
  refine wz_getI C rfl f_X8_note_34 (sOc hz (soX8_2 hk0)) dX8_note_59 ?_
  refine wz_iconst C dX8_note_62 ?_
  refine wz_iadd C dX8_note_63 ?_
  refine wz_bipush C (by decide) dX8_note_64 ?_
  refine wd_min C (st := [.ref (kadr G k0)]) h (by decide +kernel) (by decide +kernel) (by decide +kernel) (by decide +kernel) (by rw [hX]; exact ⟨Nat.le_of_ble_eq_true rfl, Nat.le_of_ble_eq_true rfl⟩) dX8_note_66 (fun v7 I7 J7 h => ?_)
  refine wd_putI C f_X8_note_34 fp_X8_2 (sOc hz (soX8_2 hk0)) dX8_note_69 (fun I8 e => ?_)
  replace h := h I8 e
  exact wz_vret C dX8_note_72 ⟨rfl, h⟩
theorem in_X9_takesOnce_X9 : ∀ w ∈ wsX90, w ∈ wsX9_takesOnce := by decide +kernel
theorem f_X9_takesOnce_14 : FLk wsX9_takesOnce RX9 14 12 0 := flk 12 0 rfl tyX9_ok nmX9 in_X9_takesOnce_X9 (by decide) (by decide +kernel)
theorem fp_X9_0 : FPk 12 0 .int := fun C9 T9 N9 h => by
  have h : some (RX9, TX9, 1) = some (C9, T9, N9) := h
  cases h
  exact ⟨rfl, by decide +kernel⟩
def rm_X9_takesOnce : Room := { frames := 1, cells := 0, slots := 0, locals := 21 }
set_option maxHeartbeats 4000000 in
set_option maxRecDepth 100000 in
theorem k_X9_takesOnce (G : KG) (hG : KokC G) (l2 : Int) (I : Ii) (J : Jj) (Q : Int → Ii → Jj → Prop) (h : wp_X9_takesOnce l2 I J Q) : Ctr G yX9_takesOnce wsX9_takesOnce rm_X9_takesOnce [.ref (kadr G 103), .ref (kadr G 101), .int (iZ l2)] (I, J) (QsB Q) := by
  unfold wp_X9_takesOnce at h
  skip
  refine Ctr.ofZ (cc := cX9_takesOnce) (nL := 3) (ret := (some .boolean)) [some (.ref (kadr G 103)), some (.ref (kadr G 101)), some (.int (iZ l2))] hG.1 (by decide +kernel) rfl (Nat.le_of_ble_eq_true rfl) (Nat.le_of_ble_eq_true rfl) (by simp [lvA, lv_args, Value.category]) ?_
  intro X hX C
  have hz := hG.2
  refine wz_aload_n C rfl rfl dX9_takesOnce_0 ?_
  refine wz_getI C rfl f_X9_takesOnce_14 (sOc hz rfl) dX9_takesOnce_1 ?_
  refine wz_iload_n C rfl rfl dX9_takesOnce_4 ?_
  refine wd_iand C dX9_takesOnce_5 ?_
  refine wz_if_eq C (tgt := 15) (toInt_rg _) dX9_takesOnce_6 (by decide) (fun c => ?_) (fun c => ?_)
  · replace h := h.1 c
    refine wz_aload_n C rfl rfl dX9_takesOnce_15 ?_
    refine wz_dup C rfl dX9_takesOnce_16 ?_
    refine wz_getI C rfl f_X9_takesOnce_14 (sOc hz rfl) dX9_takesOnce_17 ?_
    refine wz_iload_n C rfl rfl dX9_takesOnce_20 ?_
    refine wd_ior C dX9_takesOnce_21 ?_
    refine wd_putI C f_X9_takesOnce_14 fp_X9_0 (sOc hz rfl) dX9_takesOnce_22 (fun I1 e => ?_)
    replace h := h I1 e
    refine wz_iconst C dX9_takesOnce_25 ?_
    exact wz_zret C (Or.inr rfl) dX9_takesOnce_26 ⟨_, rfl, (Or.inr rfl), h⟩
  · replace h := h.2 c
    refine wz_aload_n C rfl rfl dX9_takesOnce_9 ?_
    refine wz_iconst C dX9_takesOnce_10 ?_
    refine wm_callV C (o := 101) (As := [.int (iZ 4)]) (st := []) (a' := 0) (b' := 0) (shK_c hz rfl) rfl (k_X10_fail G hG 4 I J _ h) 1 gX9_takesOnce_X10_fail rfl (by decide +kernel) (by rw [hX]; exact ⟨Nat.le_of_ble_eq_true rfl, Nat.le_of_ble_eq_true rfl⟩) rfl (Nat.le_of_ble_eq_true rfl) rfl rfl rfl dX9_takesOnce_11 (kk_sB (fun v2 I2 J2 hb2 h => ?_))
    exact wz_zret C h.1 dX9_takesOnce_14 ⟨_, rfl, h.1, h.2⟩
theorem in_X10_append_X10 : ∀ w ∈ wsX100, w ∈ wsX10_append := by decide +kernel
theorem f_X10_append_9 : FLk wsX10_append RX10 9 13 0 := flk 13 0 rfl tyX10_ok nmX10 in_X10_append_X10 (by decide) (by decide +kernel)
theorem f_X10_append_22 : FLk wsX10_append RX10 22 13 1 := flk 13 1 rfl tyX10_ok nmX10 in_X10_append_X10 (by decide) (by decide +kernel)
def rm_X10_append : Room := { frames := 1, cells := 0, slots := 0, locals := 22 }
set_option maxHeartbeats 4000000 in
set_option maxRecDepth 100000 in
theorem lk_X10_append_3 (G : KG) (hG : KokC G) (X : KX) (hX : KR X = rm_X10_append) (C : Fr G X cX10_append 3 yX10_append.cls none wsX10_append) (l1 : Int) (Q : Ii → Jj → Prop) : ∀ (n : Nat) (l2 : Int) (I : Ii) (J : Jj), L_X10_append_3 l1 Q n l2 I J → Wz G X 3 (QsU G X (QsV Q)) 0 0 3 [some (.ref (kadr G 101)), some (.int (iZ l1)), some (.int (iZ l2))] [] I J := by
  have hz := hG.2
  intro n
  induction n with
  | zero => intro l2 I J h; exact False.elim h
  | succ n w3 =>
    intro l2 I J h
    have h : Lb_X10_append_3 l1 Q (L_X10_append_3 l1 Q n) l2 I J := h
    unfold Lb_X10_append_3 at h
    generalize L_X10_append_3 l1 Q n = r3 at h w3
    refine wz_iload_n C rfl rfl dX10_append_3 ?_
    obtain ⟨g1, h⟩ := h
    refine wz_if_lt C (tgt := 41) g1 dX10_append_4 (by decide) (fun c => ?_) (fun c => ?_)
    · replace h := h.1 c
      exact wz_vret C dX10_append_41 ⟨rfl, h⟩
    · replace h := h.2 c
      refine wz_aload_n C rfl rfl dX10_append_7 ?_
      refine wz_getR C (j := 102) f_X10_append_9 (sOc hz rfl) (by decide) dX10_append_8 ?_
      refine wz_aload_n C rfl rfl dX10_append_11 ?_
      refine wz_getI C rfl f_X10_append_22 (sOc hz rfl) dX10_append_12 ?_
      refine wz_iload_n C rfl rfl dX10_append_15 ?_
      refine wz_iload_n C rfl rfl dX10_append_16 ?_
      refine wd_iushr C dX10_append_17 ?_
      refine wz_sipush C (by decide) dX10_append_18 ?_
      refine wd_iand C dX10_append_21 ?_
      refine wm_callSN C (As := [.ref (kadr G 102), .int (iZ (I 101 1)), .int (iZ (andZ (ushrZ l1 l2) 255))]) (st := []) (a' := 0) (b' := 0) (host := "ShareGraph") (k_X11_put G hG 102 (I 101 1) (andZ (ushrZ l1 l2) 255) I J _ h) 3 gX10_append_X11_put_n25 (by decide +kernel) (by decide +kernel) (by decide +kernel) rfl (by decide +kernel) (by rw [hX]; exact ⟨Nat.le_of_ble_eq_true rfl, Nat.le_of_ble_eq_true rfl⟩) rfl (Nat.le_of_ble_eq_true rfl) rfl rfl rfl dX10_append_22 (kk_sV (fun I2 J2 h => ?_))
      refine wz_aload_n C rfl rfl dX10_append_25 ?_
      refine wz_dup C rfl dX10_append_26 ?_
      refine wz_getI C rfl f_X10_append_22 (sOc hz rfl) dX10_append_27 ?_
      refine wz_iconst C dX10_append_30 ?_
      refine wz_iadd C dX10_append_31 ?_
      refine wd_putI C f_X10_append_22 fp_X10_1 (sOc hz rfl) dX10_append_32 (fun I3 e => ?_)
      replace h := h I3 e
      refine wz_iinc_2 C rfl dX10_append_35 ?_
      refine wz_goto C dX10_append_38 (tgt := 3) (by decide) ?_
      exact w3 (l2 + (-8)) I3 J2 h
set_option maxHeartbeats 4000000 in
set_option maxRecDepth 100000 in
theorem k_X10_append (G : KG) (hG : KokC G) (l1 : Int) (I : Ii) (J : Jj) (Q : Ii → Jj → Prop) (h : wp_X10_append l1 I J Q) : Ctr G yX10_append wsX10_append rm_X10_append [.ref (kadr G 101), .int (iZ l1)] (I, J) (QsV Q) := by
  unfold wp_X10_append at h
  skip
  refine Ctr.ofZ (cc := cX10_append) (nL := 3) (ret := none) [some (.ref (kadr G 101)), some (.int (iZ l1)), none] hG.1 (by decide +kernel) rfl (Nat.le_of_ble_eq_true rfl) (Nat.le_of_ble_eq_true rfl) (by simp [lvA, lv_args, Value.category]) ?_
  intro X hX C
  have hz := hG.2
  refine wz_bipush C (by decide) dX10_append_0 ?_
  refine wz_istore_2 C rfl dX10_append_2 ?_
  obtain ⟨n, h⟩ := h
  exact lk_X10_append_3 G hG X hX C l1 Q n 24 I J h
theorem in_X10_takeWord_X10 : ∀ w ∈ wsX100, w ∈ wsX10_takeWord := by decide +kernel
theorem f_X10_takeWord_71 : FLk wsX10_takeWord RX10 71 13 6 := flk 13 6 rfl tyX10_ok nmX10 in_X10_takeWord_X10 (by decide) (by decide +kernel)
theorem fp_X10_6 : FPk 13 6 .long := fun C9 T9 N9 h => by
  have h : some (RX10, TX10, 12) = some (C9, T9, N9) := h
  cases h
  exact ⟨rfl, by decide +kernel⟩
theorem f_X10_takeWord_35 : FLk wsX10_takeWord RX10 35 13 4 := flk 13 4 rfl tyX10_ok nmX10 in_X10_takeWord_X10 (by decide) (by decide +kernel)
theorem f_X10_takeWord_29 : FLk wsX10_takeWord RX10 29 13 2 := flk 13 2 rfl tyX10_ok nmX10 in_X10_takeWord_X10 (by decide) (by decide +kernel)
theorem f_X10_takeWord_9 : FLk wsX10_takeWord RX10 9 13 0 := flk 13 0 rfl tyX10_ok nmX10 in_X10_takeWord_X10 (by decide) (by decide +kernel)
theorem f_X10_takeWord_32 : FLk wsX10_takeWord RX10 32 13 3 := flk 13 3 rfl tyX10_ok nmX10 in_X10_takeWord_X10 (by decide) (by decide +kernel)
theorem f_X10_takeWord_38 : FLk wsX10_takeWord RX10 38 13 5 := flk 13 5 rfl tyX10_ok nmX10 in_X10_takeWord_X10 (by decide) (by decide +kernel)
def rm_X10_takeWord : Room := { frames := 1, cells := 0, slots := 0, locals := 22 }
set_option maxHeartbeats 4000000 in
set_option maxRecDepth 100000 in
theorem bk_X10_takeWord_68 (G : KG) (hG : KokC G) (X : KX) (hX : KR X = rm_X10_takeWord) (C : Fr G X cX10_takeWord 1 yX10_takeWord.cls none wsX10_takeWord) (Q : Ii → Jj → Prop)  (I : Ii) (J : Jj) (h : B_X10_takeWord_68 Q  I J)   : Wz G X 1 (QsU G X (QsV Q)) 0 0 68 [some (.ref (kadr G 101))] [] I J := by
  have hz := hG.2
  unfold B_X10_takeWord_68 at h
  refine wz_aload_n C rfl rfl dX10_takeWord_68 ?_
  refine wz_aload_n C rfl rfl dX10_takeWord_69 ?_
  refine wz_getI C rfl f_X10_takeWord_35 (sOc hz rfl) dX10_takeWord_70 ?_
  refine wz_aload_n C rfl rfl dX10_takeWord_73 ?_
  refine wz_getI C rfl f_X10_takeWord_32 (sOc hz rfl) dX10_takeWord_74 ?_
  refine wz_isub C dX10_takeWord_77 ?_
  refine wz_bipush C (by decide) dX10_takeWord_78 ?_
  obtain ⟨g10, h⟩ := h
  refine wz_icmp_gt C (tgt := 87) g10 (by decide) dX10_takeWord_80 (by decide) (fun c => ?_) (fun c => ?_)
  · replace h := h.1 c
    refine wz_bipush C (by decide) dX10_takeWord_87 ?_
    refine wd_putI C f_X10_takeWord_38 fp_X10_5 (sOc hz rfl) dX10_takeWord_89 (fun I11 e => ?_)
    replace h := h I11 e
    exact wz_vret C dX10_takeWord_92 ⟨rfl, h⟩
  · replace h := h.2 c
    refine wz_iconst C dX10_takeWord_83 ?_
    refine wz_goto C dX10_takeWord_84 (tgt := 89) (by decide) ?_
    refine wd_putI C f_X10_takeWord_38 fp_X10_5 (sOc hz rfl) dX10_takeWord_89 (fun I12 e => ?_)
    replace h := h I12 e
    exact wz_vret C dX10_takeWord_92 ⟨rfl, h⟩
set_option maxHeartbeats 4000000 in
set_option maxRecDepth 100000 in
theorem lk_X10_takeWord_5 (G : KG) (hG : KokC G) (X : KX) (hX : KR X = rm_X10_takeWord) (C : Fr G X cX10_takeWord 1 yX10_takeWord.cls none wsX10_takeWord) (Q : Ii → Jj → Prop) : ∀ (n : Nat)  (I : Ii) (J : Jj), L_X10_takeWord_5 Q n  I J → Wz G X 1 (QsU G X (QsV Q)) 0 0 5 [some (.ref (kadr G 101))] [] I J := by
  have hz := hG.2
  intro n
  induction n with
  | zero => intro  I J h; exact False.elim h
  | succ n w5 =>
    intro  I J h
    have h : Lb_X10_takeWord_5 Q (L_X10_takeWord_5 Q n)  I J := h
    unfold Lb_X10_takeWord_5 at h
    generalize L_X10_takeWord_5 Q n = r5 at h w5
    refine wz_aload_n C rfl rfl dX10_takeWord_5 ?_
    refine wz_getI C rfl f_X10_takeWord_35 (sOc hz rfl) dX10_takeWord_6 ?_
    refine wz_aload_n C rfl rfl dX10_takeWord_9 ?_
    refine wz_getI C rfl f_X10_takeWord_29 (sOc hz rfl) dX10_takeWord_10 ?_
    obtain ⟨g2, h⟩ := h
    obtain ⟨g3, h⟩ := h
    refine wz_icmp_ge C (tgt := 68) g2 g3 dX10_takeWord_13 (by decide) (fun c => ?_) (fun c => ?_)
    · replace h := h.1 c
      exact bk_X10_takeWord_68 G hG X hX C Q I J h
    · replace h := h.2 c
      refine wz_aload_n C rfl rfl dX10_takeWord_16 ?_
      refine wz_getR C (j := 102) f_X10_takeWord_9 (sOc hz rfl) (by decide) dX10_takeWord_17 ?_
      refine wz_aload_n C rfl rfl dX10_takeWord_20 ?_
      refine wz_getI C rfl f_X10_takeWord_35 (sOc hz rfl) dX10_takeWord_21 ?_
      refine wm_callSN C (As := [.ref (kadr G 102), .int (iZ (I 101 4))]) (st := []) (a' := 0) (b' := 0) (host := "ShareGraph") (k_X11_at G hG 102 (I 101 4) I J _ h) 2 gX10_takeWord_X11_at_n47 (by decide +kernel) (by decide +kernel) (by decide +kernel) rfl (by decide +kernel) (by rw [hX]; exact ⟨Nat.le_of_ble_eq_true rfl, Nat.le_of_ble_eq_true rfl⟩) rfl (Nat.le_of_ble_eq_true rfl) rfl rfl rfl dX10_takeWord_24 (kk_sI (fun v4 I4 J4 h => ?_))
      refine wm_callS C (As := [.int (iZ v4)]) (st := []) (a' := 0) (b' := 0) (k_X10_isLetter G hG v4 I4 J4 _ h) 1 gX10_takeWord_X10_isLetter rfl (by decide +kernel) (by rw [hX]; exact ⟨Nat.le_of_ble_eq_true rfl, Nat.le_of_ble_eq_true rfl⟩) rfl (Nat.le_of_ble_eq_true rfl) rfl rfl rfl dX10_takeWord_27 (kk_sB (fun v5 I5 J5 hb5 h => ?_))
      refine wz_if_eq C (tgt := 68) (rgB hb5) dX10_takeWord_30 (by decide) (fun c => ?_) (fun c => ?_)
      · replace h := h.1 c
        exact bk_X10_takeWord_68 G hG X hX C Q I5 J5 h
      · replace h := h.2 c
        refine wz_aload_n C rfl rfl dX10_takeWord_33 ?_
        refine wz_aload_n C rfl rfl dX10_takeWord_34 ?_
        refine wz_getJ C rfl f_X10_takeWord_71 (sOc hz rfl) dX10_takeWord_35 ?_
        refine wz_aload_n C rfl rfl dX10_takeWord_38 ?_
        refine wz_getR C (j := 102) f_X10_takeWord_9 (sOc hz rfl) (by decide) dX10_takeWord_39 ?_
        refine wz_aload_n C rfl rfl dX10_takeWord_42 ?_
        refine wz_getI C rfl f_X10_takeWord_35 (sOc hz rfl) dX10_takeWord_43 ?_
        refine wm_callSN C (As := [.ref (kadr G 102), .int (iZ (I5 101 4))]) (st := [.long (J5 101 6), .ref (kadr G 101)]) (a' := 0) (b' := 0) (host := "ShareGraph") (k_X11_at G hG 102 (I5 101 4) I5 J5 _ h) 2 gX10_takeWord_X11_at_n47 (by decide +kernel) (by decide +kernel) (by decide +kernel) rfl (by decide +kernel) (by rw [hX]; exact ⟨Nat.le_of_ble_eq_true rfl, Nat.le_of_ble_eq_true rfl⟩) rfl (Nat.le_of_ble_eq_true rfl) rfl rfl rfl dX10_takeWord_46 (kk_sI (fun v6 I6 J6 h => ?_))
        refine wm_callS C (As := [.long (J5 101 6), .int (iZ v6)]) (st := [.ref (kadr G 101)]) (a' := 0) (b' := 0) (k_X10_withLetter G hG (J5 101 6) v6 I6 J6 _ h) 2 gX10_takeWord_X10_withLetter rfl (by decide +kernel) (by rw [hX]; exact ⟨Nat.le_of_ble_eq_true rfl, Nat.le_of_ble_eq_true rfl⟩) rfl (Nat.le_of_ble_eq_true rfl) rfl rfl rfl dX10_takeWord_49 (kk_sJ (fun v7 I7 J7 h => ?_))
        refine wd_putJ C f_X10_takeWord_71 fp_X10_6 (sOc hz rfl) dX10_takeWord_52 (fun J8 e => ?_)
        replace h := h J8 e
        refine wz_aload_n C rfl rfl dX10_takeWord_55 ?_
        refine wz_dup C rfl dX10_takeWord_56 ?_
        refine wz_getI C rfl f_X10_takeWord_35 (sOc hz rfl) dX10_takeWord_57 ?_
        refine wz_iconst C dX10_takeWord_60 ?_
        refine wz_iadd C dX10_takeWord_61 ?_
        refine wd_putI C f_X10_takeWord_35 fp_X10_4 (sOc hz rfl) dX10_takeWord_62 (fun I9 e => ?_)
        replace h := h I9 e
        refine wz_goto C dX10_takeWord_65 (tgt := 5) (by decide) ?_
        exact w5 I9 J8 h
set_option maxHeartbeats 4000000 in
set_option maxRecDepth 100000 in
theorem k_X10_takeWord (G : KG) (hG : KokC G) (I : Ii) (J : Jj) (Q : Ii → Jj → Prop) (h : wp_X10_takeWord I J Q) : Ctr G yX10_takeWord wsX10_takeWord rm_X10_takeWord [.ref (kadr G 101)] (I, J) (QsV Q) := by
  unfold wp_X10_takeWord at h
  skip
  refine Ctr.ofZ (cc := cX10_takeWord) (nL := 1) (ret := none) [some (.ref (kadr G 101))] hG.1 (by decide +kernel) rfl (Nat.le_of_ble_eq_true rfl) (Nat.le_of_ble_eq_true rfl) (by simp [lvA, lv_args, Value.category]) ?_
  intro X hX C
  have hz := hG.2
  refine wz_aload_n C rfl rfl dX10_takeWord_0 ?_
  refine wz_lconst C (v := lZ 0) (by decide) dX10_takeWord_1 ?_
  refine wd_putJ C f_X10_takeWord_71 fp_X10_6 (sOc hz rfl) dX10_takeWord_2 (fun J1 e => ?_)
  replace h := h J1 e
  obtain ⟨n, h⟩ := h
  exact lk_X10_takeWord_5 G hG X hX C Q n I J1 h
theorem in_X10_takeNumber_X10 : ∀ w ∈ wsX100, w ∈ wsX10_takeNumber := by decide +kernel
theorem f_X10_takeNumber_79 : FLk wsX10_takeNumber RX10 79 13 7 := flk 13 7 rfl tyX10_ok nmX10 in_X10_takeNumber_X10 (by decide) (by decide +kernel)
theorem fp_X10_7 : FPk 13 7 .int := fun C9 T9 N9 h => by
  have h : some (RX10, TX10, 12) = some (C9, T9, N9) := h
  cases h
  exact ⟨rfl, by decide +kernel⟩
theorem f_X10_takeNumber_35 : FLk wsX10_takeNumber RX10 35 13 4 := flk 13 4 rfl tyX10_ok nmX10 in_X10_takeNumber_X10 (by decide) (by decide +kernel)
theorem f_X10_takeNumber_29 : FLk wsX10_takeNumber RX10 29 13 2 := flk 13 2 rfl tyX10_ok nmX10 in_X10_takeNumber_X10 (by decide) (by decide +kernel)
theorem f_X10_takeNumber_9 : FLk wsX10_takeNumber RX10 9 13 0 := flk 13 0 rfl tyX10_ok nmX10 in_X10_takeNumber_X10 (by decide) (by decide +kernel)
theorem f_X10_takeNumber_32 : FLk wsX10_takeNumber RX10 32 13 3 := flk 13 3 rfl tyX10_ok nmX10 in_X10_takeNumber_X10 (by decide) (by decide +kernel)
theorem f_X10_takeNumber_38 : FLk wsX10_takeNumber RX10 38 13 5 := flk 13 5 rfl tyX10_ok nmX10 in_X10_takeNumber_X10 (by decide) (by decide +kernel)
def rm_X10_takeNumber : Room := { frames := 1, cells := 0, slots := 0, locals := 21 }
set_option maxHeartbeats 4000000 in
set_option maxRecDepth 100000 in
theorem bk_X10_takeNumber_72 (G : KG) (hG : KokC G) (X : KX) (hX : KR X = rm_X10_takeNumber) (C : Fr G X cX10_takeNumber 1 yX10_takeNumber.cls none wsX10_takeNumber) (Q : Ii → Jj → Prop)  (I : Ii) (J : Jj) (h : B_X10_takeNumber_72 Q  I J)   : Wz G X 1 (QsU G X (QsV Q)) 0 0 72 [some (.ref (kadr G 101))] [] I J := by
  have hz := hG.2
  unfold B_X10_takeNumber_72 at h
  refine wz_aload_n C rfl rfl dX10_takeNumber_72 ?_
  refine wz_aload_n C rfl rfl dX10_takeNumber_73 ?_
  refine wz_getI C rfl f_X10_takeNumber_35 (sOc hz rfl) dX10_takeNumber_74 ?_
  refine wz_aload_n C rfl rfl dX10_takeNumber_77 ?_
  refine wz_getI C rfl f_X10_takeNumber_32 (sOc hz rfl) dX10_takeNumber_78 ?_
  refine wz_isub C dX10_takeNumber_81 ?_
  refine wz_iconst C dX10_takeNumber_82 ?_
  obtain ⟨g9, h⟩ := h
  refine wz_icmp_gt C (tgt := 90) g9 (by decide) dX10_takeNumber_83 (by decide) (fun c => ?_) (fun c => ?_)
  · replace h := h.1 c
    refine wz_bipush C (by decide) dX10_takeNumber_90 ?_
    refine wd_putI C f_X10_takeNumber_38 fp_X10_5 (sOc hz rfl) dX10_takeNumber_92 (fun I10 e => ?_)
    replace h := h I10 e
    exact wz_vret C dX10_takeNumber_95 ⟨rfl, h⟩
  · replace h := h.2 c
    refine wz_iconst C dX10_takeNumber_86 ?_
    refine wz_goto C dX10_takeNumber_87 (tgt := 92) (by decide) ?_
    refine wd_putI C f_X10_takeNumber_38 fp_X10_5 (sOc hz rfl) dX10_takeNumber_92 (fun I11 e => ?_)
    replace h := h I11 e
    exact wz_vret C dX10_takeNumber_95 ⟨rfl, h⟩
set_option maxHeartbeats 4000000 in
set_option maxRecDepth 100000 in
theorem lk_X10_takeNumber_5 (G : KG) (hG : KokC G) (X : KX) (hX : KR X = rm_X10_takeNumber) (C : Fr G X cX10_takeNumber 1 yX10_takeNumber.cls none wsX10_takeNumber) (Q : Ii → Jj → Prop) : ∀ (n : Nat)  (I : Ii) (J : Jj), L_X10_takeNumber_5 Q n  I J → Wz G X 1 (QsU G X (QsV Q)) 0 0 5 [some (.ref (kadr G 101))] [] I J := by
  have hz := hG.2
  intro n
  induction n with
  | zero => intro  I J h; exact False.elim h
  | succ n w5 =>
    intro  I J h
    have h : Lb_X10_takeNumber_5 Q (L_X10_takeNumber_5 Q n)  I J := h
    unfold Lb_X10_takeNumber_5 at h
    generalize L_X10_takeNumber_5 Q n = r5 at h w5
    refine wz_aload_n C rfl rfl dX10_takeNumber_5 ?_
    refine wz_getI C rfl f_X10_takeNumber_35 (sOc hz rfl) dX10_takeNumber_6 ?_
    refine wz_aload_n C rfl rfl dX10_takeNumber_9 ?_
    refine wz_getI C rfl f_X10_takeNumber_29 (sOc hz rfl) dX10_takeNumber_10 ?_
    obtain ⟨g2, h⟩ := h
    obtain ⟨g3, h⟩ := h
    refine wz_icmp_ge C (tgt := 72) g2 g3 dX10_takeNumber_13 (by decide) (fun c => ?_) (fun c => ?_)
    · replace h := h.1 c
      exact bk_X10_takeNumber_72 G hG X hX C Q I J h
    · replace h := h.2 c
      refine wz_aload_n C rfl rfl dX10_takeNumber_16 ?_
      refine wz_getR C (j := 102) f_X10_takeNumber_9 (sOc hz rfl) (by decide) dX10_takeNumber_17 ?_
      refine wz_aload_n C rfl rfl dX10_takeNumber_20 ?_
      refine wz_getI C rfl f_X10_takeNumber_35 (sOc hz rfl) dX10_takeNumber_21 ?_
      refine wm_callSN C (As := [.ref (kadr G 102), .int (iZ (I 101 4))]) (st := []) (a' := 0) (b' := 0) (host := "ShareGraph") (k_X11_at G hG 102 (I 101 4) I J _ h) 2 gX10_takeNumber_X11_at_n47 (by decide +kernel) (by decide +kernel) (by decide +kernel) rfl (by decide +kernel) (by rw [hX]; exact ⟨Nat.le_of_ble_eq_true rfl, Nat.le_of_ble_eq_true rfl⟩) rfl (Nat.le_of_ble_eq_true rfl) rfl rfl rfl dX10_takeNumber_24 (kk_sI (fun v4 I4 J4 h => ?_))
      refine wm_callS C (As := [.int (iZ v4)]) (st := []) (a' := 0) (b' := 0) (k_X10_isDigit G hG v4 I4 J4 _ h) 1 gX10_takeNumber_X10_isDigit rfl (by decide +kernel) (by rw [hX]; exact ⟨Nat.le_of_ble_eq_true rfl, Nat.le_of_ble_eq_true rfl⟩) rfl (Nat.le_of_ble_eq_true rfl) rfl rfl rfl dX10_takeNumber_27 (kk_sB (fun v5 I5 J5 hb5 h => ?_))
      refine wz_if_eq C (tgt := 72) (rgB hb5) dX10_takeNumber_30 (by decide) (fun c => ?_) (fun c => ?_)
      · replace h := h.1 c
        exact bk_X10_takeNumber_72 G hG X hX C Q I5 J5 h
      · replace h := h.2 c
        refine wz_aload_n C rfl rfl dX10_takeNumber_33 ?_
        refine wz_aload_n C rfl rfl dX10_takeNumber_34 ?_
        refine wz_getI C rfl f_X10_takeNumber_79 (sOc hz rfl) dX10_takeNumber_35 ?_
        refine wz_bipush C (by decide) dX10_takeNumber_38 ?_
        refine wz_imul C dX10_takeNumber_40 ?_
        refine wz_aload_n C rfl rfl dX10_takeNumber_41 ?_
        refine wz_getR C (j := 102) f_X10_takeNumber_9 (sOc hz rfl) (by decide) dX10_takeNumber_42 ?_
        refine wz_aload_n C rfl rfl dX10_takeNumber_45 ?_
        refine wz_getI C rfl f_X10_takeNumber_35 (sOc hz rfl) dX10_takeNumber_46 ?_
        refine wm_callSN C (As := [.ref (kadr G 102), .int (iZ (I5 101 4))]) (st := [.int (iZ ((I5 101 7) * 10)), .ref (kadr G 101)]) (a' := 0) (b' := 0) (host := "ShareGraph") (k_X11_at G hG 102 (I5 101 4) I5 J5 _ h) 2 gX10_takeNumber_X11_at_n47 (by decide +kernel) (by decide +kernel) (by decide +kernel) rfl (by decide +kernel) (by rw [hX]; exact ⟨Nat.le_of_ble_eq_true rfl, Nat.le_of_ble_eq_true rfl⟩) rfl (Nat.le_of_ble_eq_true rfl) rfl rfl rfl dX10_takeNumber_49 (kk_sI (fun v6 I6 J6 h => ?_))
        refine wz_iadd C dX10_takeNumber_52 ?_
        refine wz_bipush C (by decide) dX10_takeNumber_53 ?_
        refine wz_isub C dX10_takeNumber_55 ?_
        refine wd_putI C f_X10_takeNumber_79 fp_X10_7 (sOc hz rfl) dX10_takeNumber_56 (fun I7 e => ?_)
        replace h := h I7 e
        refine wz_aload_n C rfl rfl dX10_takeNumber_59 ?_
        refine wz_dup C rfl dX10_takeNumber_60 ?_
        refine wz_getI C rfl f_X10_takeNumber_35 (sOc hz rfl) dX10_takeNumber_61 ?_
        refine wz_iconst C dX10_takeNumber_64 ?_
        refine wz_iadd C dX10_takeNumber_65 ?_
        refine wd_putI C f_X10_takeNumber_35 fp_X10_4 (sOc hz rfl) dX10_takeNumber_66 (fun I8 e => ?_)
        replace h := h I8 e
        refine wz_goto C dX10_takeNumber_69 (tgt := 5) (by decide) ?_
        exact w5 I8 J6 h
set_option maxHeartbeats 4000000 in
set_option maxRecDepth 100000 in
theorem k_X10_takeNumber (G : KG) (hG : KokC G) (I : Ii) (J : Jj) (Q : Ii → Jj → Prop) (h : wp_X10_takeNumber I J Q) : Ctr G yX10_takeNumber wsX10_takeNumber rm_X10_takeNumber [.ref (kadr G 101)] (I, J) (QsV Q) := by
  unfold wp_X10_takeNumber at h
  skip
  refine Ctr.ofZ (cc := cX10_takeNumber) (nL := 1) (ret := none) [some (.ref (kadr G 101))] hG.1 (by decide +kernel) rfl (Nat.le_of_ble_eq_true rfl) (Nat.le_of_ble_eq_true rfl) (by simp [lvA, lv_args, Value.category]) ?_
  intro X hX C
  have hz := hG.2
  refine wz_aload_n C rfl rfl dX10_takeNumber_0 ?_
  refine wz_iconst C dX10_takeNumber_1 ?_
  refine wd_putI C f_X10_takeNumber_79 fp_X10_7 (sOc hz rfl) dX10_takeNumber_2 (fun I1 e => ?_)
  replace h := h I1 e
  obtain ⟨n, h⟩ := h
  exact lk_X10_takeNumber_5 G hG X hX C Q n I1 J h
theorem in_X11_feed_X10 : ∀ w ∈ wsX100, w ∈ wsX11_feed := by decide +kernel
theorem in_X11_feed_X11 : ∀ w ∈ wsX110, w ∈ wsX11_feed := by decide +kernel
theorem f_X11_feed_12 : FLk wsX11_feed RX11 12 14 0 := flk 14 0 rfl tyX11_ok nmX11 in_X11_feed_X11 (by decide) (by decide +kernel)
theorem f_X11_feed_102 : FLk wsX11_feed RX11 102 13 1 := flk 13 1 rfl tyX10_ok nmX10 in_X11_feed_X10 (by decide) (by decide +kernel)
def rm_X11_feed : Room := { frames := 2, cells := 0, slots := 0, locals := 44 }
set_option maxHeartbeats 4000000 in
set_option maxRecDepth 100000 in
theorem k_X11_feed (G : KG) (hG : KokC G) (l1 : Int) (l2 : Int) (l3 : Int) (l4 : Int) (l5 : Int) (I : Ii) (J : Jj) (Q : Int → Ii → Jj → Prop) (h : wp_X11_feed l1 l2 l3 l4 l5 I J Q) : Ctr G yX11_feed wsX11_feed rm_X11_feed [.ref (kadr G 100), .int (iZ l1), .int (iZ l2), .int (iZ l3), .int (iZ l4), .int (iZ l5)] (I, J) (QsI Q) := by
  unfold wp_X11_feed at h
  skip
  refine Ctr.ofZ (cc := cX11_feed) (nL := 6) (ret := (some .int)) [some (.ref (kadr G 100)), some (.int (iZ l1)), some (.int (iZ l2)), some (.int (iZ l3)), some (.int (iZ l4)), some (.int (iZ l5))] hG.1 (by decide +kernel) rfl (Nat.le_of_ble_eq_true rfl) (Nat.le_of_ble_eq_true rfl) (by simp [lvA, lv_args, Value.category]) ?_
  intro X hX C
  have hz := hG.2
  refine wz_aload_n C rfl rfl dX11_feed_0 ?_
  refine wz_getR C (j := 101) f_X11_feed_12 (sOc hz rfl) (by decide) dX11_feed_1 ?_
  refine wz_getI C rfl f_X11_feed_102 (sOc hz rfl) dX11_feed_4 ?_
  refine wz_sipush C (by decide) dX11_feed_7 ?_
  obtain ⟨g1, h⟩ := h
  refine wz_icmp_le C (tgt := 23) g1 (by decide) dX11_feed_10 (by decide) (fun c => ?_) (fun c => ?_)
  · replace h := h.1 c
    refine wz_aload_n C rfl rfl dX11_feed_23 ?_
    refine wz_getR C (j := 101) f_X11_feed_12 (sOc hz rfl) (by decide) dX11_feed_24 ?_
    refine wz_iload_n C rfl rfl dX11_feed_27 ?_
    refine wm_callV C (o := 101) (As := [.int (iZ l1)]) (st := []) (a' := 0) (b' := 0) (shK_c hz rfl) rfl (k_X10_append G hG l1 I J _ h) 1 gX11_feed_X10_append rfl (by decide +kernel) (by rw [hX]; exact ⟨Nat.le_of_ble_eq_true rfl, Nat.le_of_ble_eq_true rfl⟩) rfl (Nat.le_of_ble_eq_true rfl) rfl rfl rfl dX11_feed_28 (kk_sV (fun I2 J2 h => ?_))
    refine wz_aload_n C rfl rfl dX11_feed_31 ?_
    refine wz_getR C (j := 101) f_X11_feed_12 (sOc hz rfl) (by decide) dX11_feed_32 ?_
    refine wz_iload_n C rfl rfl dX11_feed_35 ?_
    refine wm_callV C (o := 101) (As := [.int (iZ l2)]) (st := []) (a' := 0) (b' := 0) (shK_c hz rfl) rfl (k_X10_append G hG l2 I2 J2 _ h) 1 gX11_feed_X10_append rfl (by decide +kernel) (by rw [hX]; exact ⟨Nat.le_of_ble_eq_true rfl, Nat.le_of_ble_eq_true rfl⟩) rfl (Nat.le_of_ble_eq_true rfl) rfl rfl rfl dX11_feed_36 (kk_sV (fun I3 J3 h => ?_))
    refine wz_aload_n C rfl rfl dX11_feed_39 ?_
    refine wz_getR C (j := 101) f_X11_feed_12 (sOc hz rfl) (by decide) dX11_feed_40 ?_
    refine wz_iload_n C rfl rfl dX11_feed_43 ?_
    refine wm_callV C (o := 101) (As := [.int (iZ l3)]) (st := []) (a' := 0) (b' := 0) (shK_c hz rfl) rfl (k_X10_append G hG l3 I3 J3 _ h) 1 gX11_feed_X10_append rfl (by decide +kernel) (by rw [hX]; exact ⟨Nat.le_of_ble_eq_true rfl, Nat.le_of_ble_eq_true rfl⟩) rfl (Nat.le_of_ble_eq_true rfl) rfl rfl rfl dX11_feed_44 (kk_sV (fun I4 J4 h => ?_))
    refine wz_aload_n C rfl rfl dX11_feed_47 ?_
    refine wz_getR C (j := 101) f_X11_feed_12 (sOc hz rfl) (by decide) dX11_feed_48 ?_
    refine wz_iload C rfl dX11_feed_51 ?_
    refine wm_callV C (o := 101) (As := [.int (iZ l4)]) (st := []) (a' := 0) (b' := 0) (shK_c hz rfl) rfl (k_X10_append G hG l4 I4 J4 _ h) 1 gX11_feed_X10_append rfl (by decide +kernel) (by rw [hX]; exact ⟨Nat.le_of_ble_eq_true rfl, Nat.le_of_ble_eq_true rfl⟩) rfl (Nat.le_of_ble_eq_true rfl) rfl rfl rfl dX11_feed_53 (kk_sV (fun I5 J5 h => ?_))
    refine wz_aload_n C rfl rfl dX11_feed_56 ?_
    refine wz_getR C (j := 101) f_X11_feed_12 (sOc hz rfl) (by decide) dX11_feed_57 ?_
    refine wz_iload C rfl dX11_feed_60 ?_
    refine wm_callV C (o := 101) (As := [.int (iZ l5)]) (st := []) (a' := 0) (b' := 0) (shK_c hz rfl) rfl (k_X10_append G hG l5 I5 J5 _ h) 1 gX11_feed_X10_append rfl (by decide +kernel) (by rw [hX]; exact ⟨Nat.le_of_ble_eq_true rfl, Nat.le_of_ble_eq_true rfl⟩) rfl (Nat.le_of_ble_eq_true rfl) rfl rfl rfl dX11_feed_62 (kk_sV (fun I6 J6 h => ?_))
    refine wz_aload_n C rfl rfl dX11_feed_65 ?_
    refine wz_getR C (j := 101) f_X11_feed_12 (sOc hz rfl) (by decide) dX11_feed_66 ?_
    refine wz_getI C rfl f_X11_feed_102 (sOc hz rfl) dX11_feed_69 ?_
    exact wz_iret C dX11_feed_72 ⟨_, rfl, h⟩
  · replace h := h.2 c
    exact False.elim h
theorem in_X11_setting_X11 : ∀ w ∈ wsX110, w ∈ wsX11_setting := by decide +kernel
theorem in_X11_setting_X2 : ∀ w ∈ wsX20, w ∈ wsX11_setting := by decide +kernel
theorem in_X11_setting_X3 : ∀ w ∈ wsX30, w ∈ wsX11_setting := by decide +kernel
theorem in_X11_setting_X8 : ∀ w ∈ wsX80, w ∈ wsX11_setting := by decide +kernel
theorem f_X11_setting_40 : FLk wsX11_setting RX11 40 14 4 := flk 14 4 rfl tyX11_ok nmX11 in_X11_setting_X11 (by decide) (by decide +kernel)
theorem f_X11_setting_141 : FLk wsX11_setting RX11 141 5 0 := flk 5 0 rfl tyX2_ok nmX2 in_X11_setting_X2 (by decide) (by decide +kernel)
theorem f_X11_setting_259 : FLk wsX11_setting RX11 259 5 1 := flk 5 1 rfl tyX2_ok nmX2 in_X11_setting_X2 (by decide) (by decide +kernel)
theorem f_X11_setting_262 : FLk wsX11_setting RX11 262 5 2 := flk 5 2 rfl tyX2_ok nmX2 in_X11_setting_X2 (by decide) (by decide +kernel)
theorem f_X11_setting_265 : FLk wsX11_setting RX11 265 5 3 := flk 5 3 rfl tyX2_ok nmX2 in_X11_setting_X2 (by decide) (by decide +kernel)
theorem f_X11_setting_53 : FLk wsX11_setting RX11 53 14 7 := flk 14 7 rfl tyX11_ok nmX11 in_X11_setting_X11 (by decide) (by decide +kernel)
theorem f_X11_setting_245 : FLk wsX11_setting RX11 245 11 1 := flk 11 1 rfl tyX8_ok nmX8 in_X11_setting_X8 (by decide) (by decide +kernel)
theorem f_X11_setting_271 : FLk wsX11_setting RX11 271 5 5 := flk 5 5 rfl tyX2_ok nmX2 in_X11_setting_X2 (by decide) (by decide +kernel)
theorem f_X11_setting_274 : FLk wsX11_setting RX11 274 5 6 := flk 5 6 rfl tyX2_ok nmX2 in_X11_setting_X2 (by decide) (by decide +kernel)
theorem f_X11_setting_192 : FLk wsX11_setting RX11 192 11 0 := flk 11 0 rfl tyX8_ok nmX8 in_X11_setting_X8 (by decide) (by decide +kernel)
theorem f_X11_setting_66 : FLk wsX11_setting RX11 66 14 11 := flk 14 11 rfl tyX11_ok nmX11 in_X11_setting_X11 (by decide) (by decide +kernel)
theorem f_X11_setting_280 : FLk wsX11_setting RX11 280 6 2 := flk 6 2 rfl tyX3_ok nmX3 in_X11_setting_X3 (by decide) (by decide +kernel)
def rm_X11_setting : Room := { frames := 4, cells := 0, slots := 0, locals := 92 }
set_option maxHeartbeats 4000000 in
set_option maxRecDepth 100000 in
theorem k_X11_setting (G : KG) (hG : KokC G) (l1 : Int) (I : Ii) (J : Jj) (Q : Int → Ii → Jj → Prop) (h : wp_X11_setting l1 I J Q) : Ctr G yX11_setting wsX11_setting rm_X11_setting [.ref (kadr G 100), .int (iZ l1)] (I, J) (QsI Q) := by
  unfold wp_X11_setting at h
  skip
  refine Ctr.ofZ (cc := cX11_setting) (nL := 2) (ret := (some .int)) [some (.ref (kadr G 100)), some (.int (iZ l1))] hG.1 (by decide +kernel) rfl (Nat.le_of_ble_eq_true rfl) (Nat.le_of_ble_eq_true rfl) (by simp [lvA, lv_args, Value.category]) ?_
  intro X hX C
  have hz := hG.2
  refine wz_iload_n C rfl rfl dX11_setting_0 ?_
  obtain ⟨g1, h⟩ := h
  have c : (l1 < 0 ∨ 11 < l1) ∨ l1 = 0 ∨ l1 = 1 ∨ l1 = 2 ∨ l1 = 3 ∨ l1 = 4 ∨ l1 = 5 ∨ l1 = 6 ∨ l1 = 7 ∨ l1 = 8 ∨ l1 = 9 ∨ l1 = 10 ∨ l1 = 11 := by omega
  rcases c with c | c | c | c | c | c | c | c | c | c | c | c | c
  · replace h := h.1 c
    refine wz_tableOut C (tgt := 160) g1 dX11_setting_1 c (by decide) ?_
    exact False.elim h
  · replace h := h.2.1 c
    refine wz_tableIn C (v := 0) (tgt := 64) c dX11_setting_1 (by decide) rfl (by decide) ?_
    refine wz_aload_n C rfl rfl dX11_setting_64 ?_
    refine wz_getR C (j := 200) f_X11_setting_40 (sOc hz rfl) (by decide) dX11_setting_65 ?_
    refine wz_getI C rfl f_X11_setting_141 (sOc hz rfl) dX11_setting_68 ?_
    exact wz_iret C dX11_setting_71 ⟨_, rfl, h⟩
  · replace h := h.2.2.1 c
    refine wz_tableIn C (v := 1) (tgt := 72) c dX11_setting_1 (by decide) rfl (by decide) ?_
    refine wz_aload_n C rfl rfl dX11_setting_72 ?_
    refine wz_getR C (j := 200) f_X11_setting_40 (sOc hz rfl) (by decide) dX11_setting_73 ?_
    refine wz_getI C rfl f_X11_setting_259 (sOc hz rfl) dX11_setting_76 ?_
    exact wz_iret C dX11_setting_79 ⟨_, rfl, h⟩
  · replace h := h.2.2.2.1 c
    refine wz_tableIn C (v := 2) (tgt := 80) c dX11_setting_1 (by decide) rfl (by decide) ?_
    refine wz_aload_n C rfl rfl dX11_setting_80 ?_
    refine wz_getR C (j := 200) f_X11_setting_40 (sOc hz rfl) (by decide) dX11_setting_81 ?_
    refine wz_getI C rfl f_X11_setting_262 (sOc hz rfl) dX11_setting_84 ?_
    exact wz_iret C dX11_setting_87 ⟨_, rfl, h⟩
  · replace h := h.2.2.2.2.1 c
    refine wz_tableIn C (v := 3) (tgt := 88) c dX11_setting_1 (by decide) rfl (by decide) ?_
    refine wz_aload_n C rfl rfl dX11_setting_88 ?_
    refine wz_getR C (j := 200) f_X11_setting_40 (sOc hz rfl) (by decide) dX11_setting_89 ?_
    refine wz_getI C rfl f_X11_setting_265 (sOc hz rfl) dX11_setting_92 ?_
    exact wz_iret C dX11_setting_95 ⟨_, rfl, h⟩
  · replace h := h.2.2.2.2.2.1 c
    refine wz_tableIn C (v := 4) (tgt := 96) c dX11_setting_1 (by decide) rfl (by decide) ?_
    refine wz_aload_n C rfl rfl dX11_setting_96 ?_
    refine wz_getR C (j := 300) f_X11_setting_53 (sOc hz rfl) (by decide) dX11_setting_97 ?_
    refine wz_getI C rfl f_X11_setting_245 (sOc hz rfl) dX11_setting_100 ?_
    exact wz_iret C dX11_setting_103 ⟨_, rfl, h⟩
  · replace h := h.2.2.2.2.2.2.1 c
    refine wz_tableIn C (v := 5) (tgt := 104) c dX11_setting_1 (by decide) rfl (by decide) ?_
    refine wz_aload_n C rfl rfl dX11_setting_104 ?_
    refine wz_getR C (j := 200) f_X11_setting_40 (sOc hz rfl) (by decide) dX11_setting_105 ?_
    refine wm_callV C (o := 200) (As := []) (st := []) (a' := 0) (b' := 0) (shK_c hz rfl) rfl (k_X2_limit G hG 200 I J _ h) 0 gX11_setting_X2_limit rfl (by decide +kernel) (by rw [hX]; exact ⟨Nat.le_of_ble_eq_true rfl, Nat.le_of_ble_eq_true rfl⟩) rfl (Nat.le_of_ble_eq_true rfl) rfl rfl rfl dX11_setting_108 (kk_sI (fun v2 I2 J2 h => ?_))
    exact wz_iret C dX11_setting_111 ⟨_, rfl, h⟩
  · replace h := h.2.2.2.2.2.2.2.1 c
    refine wz_tableIn C (v := 6) (tgt := 112) c dX11_setting_1 (by decide) rfl (by decide) ?_
    refine wz_aload_n C rfl rfl dX11_setting_112 ?_
    refine wz_getR C (j := 200) f_X11_setting_40 (sOc hz rfl) (by decide) dX11_setting_113 ?_
    refine wz_getI C rfl f_X11_setting_271 (sOc hz rfl) dX11_setting_116 ?_
    exact wz_iret C dX11_setting_119 ⟨_, rfl, h⟩
  · replace h := h.2.2.2.2.2.2.2.2.1 c
    refine wz_tableIn C (v := 7) (tgt := 120) c dX11_setting_1 (by decide) rfl (by decide) ?_
    refine wz_aload_n C rfl rfl dX11_setting_120 ?_
    refine wz_getR C (j := 200) f_X11_setting_40 (sOc hz rfl) (by decide) dX11_setting_121 ?_
    refine wz_getI C rfl f_X11_setting_274 (sOc hz rfl) dX11_setting_124 ?_
    exact wz_iret C dX11_setting_127 ⟨_, rfl, h⟩
  · replace h := h.2.2.2.2.2.2.2.2.2.1 c
    refine wz_tableIn C (v := 8) (tgt := 128) c dX11_setting_1 (by decide) rfl (by decide) ?_
    refine wz_aload_n C rfl rfl dX11_setting_128 ?_
    refine wz_getR C (j := 300) f_X11_setting_53 (sOc hz rfl) (by decide) dX11_setting_129 ?_
    refine wz_getI C rfl f_X11_setting_192 (sOc hz rfl) dX11_setting_132 ?_
    exact wz_iret C dX11_setting_135 ⟨_, rfl, h⟩
  · replace h := h.2.2.2.2.2.2.2.2.2.2.1 c
    refine wz_tableIn C (v := 9) (tgt := 136) c dX11_setting_1 (by decide) rfl (by decide) ?_
    refine wz_aload_n C rfl rfl dX11_setting_136 ?_
    refine wz_getR C (j := 300) f_X11_setting_53 (sOc hz rfl) (by decide) dX11_setting_137 ?_
    refine wm_callV C (o := 300) (As := []) (st := []) (a' := 0) (b' := 0) (shK_c hz rfl) rfl (k_X8_groupCount G hG 300 I J _ h) 0 gX11_setting_X8_groupCount rfl (by decide +kernel) (by rw [hX]; exact ⟨Nat.le_of_ble_eq_true rfl, Nat.le_of_ble_eq_true rfl⟩) rfl (Nat.le_of_ble_eq_true rfl) rfl rfl rfl dX11_setting_140 (kk_sI (fun v3 I3 J3 h => ?_))
    exact wz_iret C dX11_setting_143 ⟨_, rfl, h⟩
  · replace h := h.2.2.2.2.2.2.2.2.2.2.2.1 c
    refine wz_tableIn C (v := 10) (tgt := 144) c dX11_setting_1 (by decide) rfl (by decide) ?_
    refine wz_aload_n C rfl rfl dX11_setting_144 ?_
    refine wz_getR C (j := 111) f_X11_setting_66 (sOc hz rfl) (by decide) dX11_setting_145 ?_
    refine wz_getI C rfl f_X11_setting_280 (sOc hz rfl) dX11_setting_148 ?_
    exact wz_iret C dX11_setting_151 ⟨_, rfl, h⟩
  · replace h := h.2.2.2.2.2.2.2.2.2.2.2.2 c
    refine wz_tableIn C (v := 11) (tgt := 152) c dX11_setting_1 (by decide) rfl (by decide) ?_
    refine wz_aload_n C rfl rfl dX11_setting_152 ?_
    refine wz_getR C (j := 200) f_X11_setting_40 (sOc hz rfl) (by decide) dX11_setting_153 ?_
    refine wm_callV C (o := 200) (As := []) (st := []) (a' := 0) (b' := 0) (shK_c hz rfl) rfl (k_X2_largestPiece G hG 200 I J _ h) 0 gX11_setting_X2_largestPiece rfl (by decide +kernel) (by rw [hX]; exact ⟨Nat.le_of_ble_eq_true rfl, Nat.le_of_ble_eq_true rfl⟩) rfl (Nat.le_of_ble_eq_true rfl) rfl rfl rfl dX11_setting_156 (kk_sI (fun v4 I4 J4 h => ?_))
    exact wz_iret C dX11_setting_159 ⟨_, rfl, h⟩
theorem in_X11_hasGroup_X11 : ∀ w ∈ wsX110, w ∈ wsX11_hasGroup := by decide +kernel
theorem f_X11_hasGroup_53 : FLk wsX11_hasGroup RX11 53 14 7 := flk 14 7 rfl tyX11_ok nmX11 in_X11_hasGroup_X11 (by decide) (by decide +kernel)
def rm_X11_hasGroup : Room := { frames := 2, cells := 0, slots := 0, locals := 41 }
set_option maxHeartbeats 4000000 in
set_option maxRecDepth 100000 in
theorem k_X11_hasGroup (G : KG) (hG : KokC G) (l1 : Int) (I : Ii) (J : Jj) (Q : Int → Ii → Jj → Prop) (h : wp_X11_hasGroup l1 I J Q) : Ctr G yX11_hasGroup wsX11_hasGroup rm_X11_hasGroup [.ref (kadr G 100), .int (iZ l1)] (I, J) (QsB Q) := by
  unfold wp_X11_hasGroup at h
  skip
  refine Ctr.ofZ (cc := cX11_hasGroup) (nL := 2) (ret := (some .boolean)) [some (.ref (kadr G 100)), some (.int (iZ l1))] hG.1 (by decide +kernel) rfl (Nat.le_of_ble_eq_true rfl) (Nat.le_of_ble_eq_true rfl) (by simp [lvA, lv_args, Value.category]) ?_
  intro X hX C
  have hz := hG.2
  refine wz_iload_n C rfl rfl dX11_hasGroup_0 ?_
  obtain ⟨g1, h⟩ := h
  refine wz_if_lt C (tgt := 19) g1 dX11_hasGroup_1 (by decide) (fun c => ?_) (fun c => ?_)
  · replace h := h.1 c
    refine wz_iconst C dX11_hasGroup_19 ?_
    exact wz_zret C (Or.inl rfl) dX11_hasGroup_20 ⟨_, rfl, (Or.inl rfl), h⟩
  · replace h := h.2 c
    refine wz_iload_n C rfl rfl dX11_hasGroup_4 ?_
    refine wz_aload_n C rfl rfl dX11_hasGroup_5 ?_
    refine wz_getR C (j := 300) f_X11_hasGroup_53 (sOc hz rfl) (by decide) dX11_hasGroup_6 ?_
    refine wm_callV C (o := 300) (As := []) (st := [.int (iZ l1)]) (a' := 0) (b' := 0) (shK_c hz rfl) rfl (k_X8_groupCount G hG 300 I J _ h) 0 gX11_hasGroup_X8_groupCount rfl (by decide +kernel) (by rw [hX]; exact ⟨Nat.le_of_ble_eq_true rfl, Nat.le_of_ble_eq_true rfl⟩) rfl (Nat.le_of_ble_eq_true rfl) rfl rfl rfl dX11_hasGroup_9 (kk_sI (fun v2 I2 J2 h => ?_))
    obtain ⟨g3, h⟩ := h
    obtain ⟨g4, h⟩ := h
    refine wz_icmp_ge C (tgt := 19) g3 g4 dX11_hasGroup_12 (by decide) (fun c => ?_) (fun c => ?_)
    · replace h := h.1 c
      refine wz_iconst C dX11_hasGroup_19 ?_
      exact wz_zret C (Or.inl rfl) dX11_hasGroup_20 ⟨_, rfl, (Or.inl rfl), h⟩
    · replace h := h.2 c
      refine wz_iconst C dX11_hasGroup_15 ?_
      refine wz_goto C dX11_hasGroup_16 (tgt := 20) (by decide) ?_
      exact wz_zret C (Or.inr rfl) dX11_hasGroup_20 ⟨_, rfl, (Or.inr rfl), h⟩
def rm_X11_requireGroup : Room := { frames := 3, cells := 0, slots := 0, locals := 62 }
set_option maxHeartbeats 4000000 in
set_option maxRecDepth 100000 in
theorem k_X11_requireGroup (G : KG) (hG : KokC G) (l1 : Int) (I : Ii) (J : Jj) (Q : Ii → Jj → Prop) (h : wp_X11_requireGroup l1 I J Q) : Ctr G yX11_requireGroup wsX11_requireGroup rm_X11_requireGroup [.ref (kadr G 100), .int (iZ l1)] (I, J) (QsV Q) := by
  unfold wp_X11_requireGroup at h
  skip
  refine Ctr.ofZ (cc := cX11_requireGroup) (nL := 2) (ret := none) [some (.ref (kadr G 100)), some (.int (iZ l1))] hG.1 (by decide +kernel) rfl (Nat.le_of_ble_eq_true rfl) (Nat.le_of_ble_eq_true rfl) (by simp [lvA, lv_args, Value.category]) ?_
  intro X hX C
  have hz := hG.2
  refine wz_aload_n C rfl rfl dX11_requireGroup_0 ?_
  refine wz_iload_n C rfl rfl dX11_requireGroup_1 ?_
  refine wm_callV C (o := 100) (As := [.int (iZ l1)]) (st := []) (a' := 0) (b' := 0) (shK_c hz rfl) rfl (k_X11_hasGroup G hG l1 I J _ h) 1 gX11_requireGroup_X11_hasGroup rfl (by decide +kernel) (by rw [hX]; exact ⟨Nat.le_of_ble_eq_true rfl, Nat.le_of_ble_eq_true rfl⟩) rfl (Nat.le_of_ble_eq_true rfl) rfl rfl rfl dX11_requireGroup_2 (kk_sB (fun v1 I1 J1 hb1 h => ?_))
  refine wz_if_ne C (tgt := 19) (rgB hb1) dX11_requireGroup_5 (by decide) (fun c => ?_) (fun c => ?_)
  · replace h := h.1 c
    exact wz_vret C dX11_requireGroup_19 ⟨rfl, h⟩
  · replace h := h.2 c
    exact False.elim h
