theorem in_J5_newCapacity_0f7a4_J4 : ∀ w ∈ wsJ40, w ∈ wsJ5_newCapacity_0f7a4 := by decide +kernel
theorem f_J5_newCapacity_0f7a4_15 : FLk wsJ5_newCapacity_0f7a4 RJ5 15 1 0 := flk 1 0 rfl tyJ4_ok nmJ4 in_J5_newCapacity_0f7a4_J4 (by decide) (by decide +kernel)
theorem f_J5_newCapacity_0f7a4_22 : FLk wsJ5_newCapacity_0f7a4 RJ5 22 1 1 := flk 1 1 rfl tyJ4_ok nmJ4 in_J5_newCapacity_0f7a4_J4 (by decide) (by decide +kernel)
def rm_J5_newCapacity_0f7a4 : Room := { frames := 2, cells := 0, slots := 0, locals := 63 }
set_option maxHeartbeats 4000000 in
set_option maxRecDepth 100000 in
theorem k_J5_newCapacity_0f7a4 (G : KG) (hG : Kok G) (hW : KWx G)  (k0 : Nat) (l1 : Int) (I : Ii) (J : Jj) (Q : Int → Ii → Jj → Prop) (h : wp_J5_newCapacity_0f7a4 k0 l1 I J Q) : Ctr G yJ5_newCapacity_0f7a4 wsJ5_newCapacity_0f7a4 rm_J5_newCapacity_0f7a4 [.ref (kadr G k0), .int (iZ l1)] (I, J) (QsI Q) := by
  unfold wp_J5_newCapacity_0f7a4 at h
  refine Ctr.ofZ (cc := cJ5_newCapacity_0f7a4) (nL := 6) (ret := (some .int)) [some (.ref (kadr G k0)), some (.int (iZ l1)), none, none, none, none] hG (by decide +kernel) rfl (Nat.le_of_ble_eq_true rfl) (Nat.le_of_ble_eq_true rfl) (by simp [lvA, lv_args, Value.category]) ?_
  intro X hX C
  refine (?_ : Wz G X 6 (QsU G X (QsI Q)) 0 0 0 [some (.ref (kadr G k0)), some (.int (iZ l1)), none, none, none, none] [] I J)
  refine wz_aload_n C rfl rfl dJ5_newCapacity_0f7a4_0 ?_
  obtain ⟨g1, h⟩ := h
  refine wy_getB0 C f_J5_newCapacity_0f7a4_15 g1 dJ5_newCapacity_0f7a4_1 ?_
  obtain ⟨g2, h⟩ := h
  refine wy_alen2 C hW g2 dJ5_newCapacity_0f7a4_4 ?_
  refine wz_istore_2 C rfl dJ5_newCapacity_0f7a4_5 ?_
  refine wz_iload_n C rfl rfl dJ5_newCapacity_0f7a4_6 ?_
  refine wz_aload_n C rfl rfl dJ5_newCapacity_0f7a4_7 ?_
  obtain ⟨g3, h⟩ := h
  refine wy_getB1 C f_J5_newCapacity_0f7a4_22 g3 dJ5_newCapacity_0f7a4_8 ?_
  refine wd_ishl C dJ5_newCapacity_0f7a4_11 ?_
  refine wz_istore_3 C rfl dJ5_newCapacity_0f7a4_12 ?_
  refine wz_iload_n C rfl rfl dJ5_newCapacity_0f7a4_13 ?_
  refine wz_iload_n C rfl rfl dJ5_newCapacity_0f7a4_14 ?_
  refine wz_isub C dJ5_newCapacity_0f7a4_15 ?_
  refine wz_istore_4 C rfl dJ5_newCapacity_0f7a4_16 ?_
  refine wz_iload_n C rfl rfl dJ5_newCapacity_0f7a4_18 ?_
  refine wz_iload C rfl dJ5_newCapacity_0f7a4_19 ?_
  refine wz_iload_n C rfl rfl dJ5_newCapacity_0f7a4_21 ?_
  refine wz_iconst C dJ5_newCapacity_0f7a4_22 ?_
  refine wz_aload_n C rfl rfl dJ5_newCapacity_0f7a4_23 ?_
  obtain ⟨g4, h⟩ := h
  refine wy_getB1 C f_J5_newCapacity_0f7a4_22 g4 dJ5_newCapacity_0f7a4_24 ?_
  refine wd_ishl C dJ5_newCapacity_0f7a4_27 ?_
  refine wz_iadd C dJ5_newCapacity_0f7a4_28 ?_
  refine wm_callSo C (As := [.int (iZ (dL I ((I k0 0).toNat))), .int (iZ ((shlZ l1 (I k0 1)) - (dL I ((I k0 0).toNat)))), .int (iZ ((dL I ((I k0 0).toNat)) + (shlZ 2 (I k0 1))))]) (st := []) (a' := 0) (b' := 0) (k_J8_newLength_cabcc G hG hW (dL I ((I k0 0).toNat)) ((shlZ l1 (I k0 1)) - (dL I ((I k0 0).toNat))) ((dL I ((I k0 0).toNat)) + (shlZ 2 (I k0 1))) I J _ h) 3 (goodIn_wsS gJ5_newCapacity_0f7a4_J8_newLength_cabcc) (by decide +kernel) (by decide +kernel) (by decide +kernel) rfl (by decide +kernel) (by rw [hX]; exact ⟨Nat.le_of_ble_eq_true rfl, Nat.le_of_ble_eq_true rfl⟩) rfl (Nat.le_of_ble_eq_true rfl) (by show 0 + (0) = 0; omega) (by show 0 + (0) = 0; omega) rfl dJ5_newCapacity_0f7a4_29 (kk_sI (fun v5 I5 J5 h => ?_))
  refine wz_istore_5 C rfl dJ5_newCapacity_0f7a4_32 ?_
  refine wz_iload C rfl dJ5_newCapacity_0f7a4_34 ?_
  refine wz_ldc C (n := 2147483647) (v := 2147483647) (by decide) (by decide +kernel) dJ5_newCapacity_0f7a4_36 ?_
  obtain ⟨g6, h⟩ := h
  refine wz_icmp_ne C (tgt := 51) g6 (by decide) dJ5_newCapacity_0f7a4_38 (by decide) (fun c => ?_) (fun c => ?_)
  · replace h := h.1 c
    refine wz_iload C rfl dJ5_newCapacity_0f7a4_51 ?_
    refine wz_aload_n C rfl rfl dJ5_newCapacity_0f7a4_53 ?_
    obtain ⟨g7, h⟩ := h
    refine wy_getB1 C f_J5_newCapacity_0f7a4_22 g7 dJ5_newCapacity_0f7a4_54 ?_
    refine wd_ishr C dJ5_newCapacity_0f7a4_57 ?_
    exact wz_iret C dJ5_newCapacity_0f7a4_58 ⟨_, rfl, h⟩
  · replace h := h.2 c
    exact False.elim h
theorem in_J5_ensureCapacityInternal_d00df_J4 : ∀ w ∈ wsJ40, w ∈ wsJ5_ensureCapacityInternal_d00df := by decide +kernel
theorem f_J5_ensureCapacityInternal_d00df_15 : FLk wsJ5_ensureCapacityInternal_d00df RJ5 15 1 0 := flk 1 0 rfl tyJ4_ok nmJ4 in_J5_ensureCapacityInternal_d00df_J4 (by decide) (by decide +kernel)
theorem f_J5_ensureCapacityInternal_d00df_22 : FLk wsJ5_ensureCapacityInternal_d00df RJ5 22 1 1 := flk 1 1 rfl tyJ4_ok nmJ4 in_J5_ensureCapacityInternal_d00df_J4 (by decide) (by decide +kernel)
def rm_J5_ensureCapacityInternal_d00df : Room := { frames := 3, cells := 1, slots := 2000, locals := 102 }
set_option maxHeartbeats 4000000 in
set_option maxRecDepth 100000 in
theorem k_J5_ensureCapacityInternal_d00df (G : KG) (hG : Kok G) (hW : KWx G)  (k0 : Nat) (l1 : Int) (I : Ii) (J : Jj) (Q : Ii → Jj → Prop) (h : wp_J5_ensureCapacityInternal_d00df k0 l1 I J Q) : Ctr G yJ5_ensureCapacityInternal_d00df wsJ5_ensureCapacityInternal_d00df rm_J5_ensureCapacityInternal_d00df [.ref (kadr G k0), .int (iZ l1)] (I, J) (QsV Q) := by
  unfold wp_J5_ensureCapacityInternal_d00df at h
  refine Ctr.ofZ (cc := cJ5_ensureCapacityInternal_d00df) (nL := 3) (ret := none) [some (.ref (kadr G k0)), some (.int (iZ l1)), none] hG (by decide +kernel) rfl (Nat.le_of_ble_eq_true rfl) (Nat.le_of_ble_eq_true rfl) (by simp [lvA, lv_args, Value.category]) ?_
  intro X hX C
  refine (?_ : Wz G X 3 (QsU G X (QsV Q)) 1 2000 0 [some (.ref (kadr G k0)), some (.int (iZ l1)), none] [] I J)
  refine wz_aload_n C rfl rfl dJ5_ensureCapacityInternal_d00df_0 ?_
  obtain ⟨g1, h⟩ := h
  refine wy_getB0 C f_J5_ensureCapacityInternal_d00df_15 g1 dJ5_ensureCapacityInternal_d00df_1 ?_
  obtain ⟨g2, h⟩ := h
  refine wy_alen2 C hW g2 dJ5_ensureCapacityInternal_d00df_4 ?_
  refine wz_aload_n C rfl rfl dJ5_ensureCapacityInternal_d00df_5 ?_
  obtain ⟨g3, h⟩ := h
  refine wy_getB1 C f_J5_ensureCapacityInternal_d00df_22 g3 dJ5_ensureCapacityInternal_d00df_6 ?_
  refine wd_ishr C dJ5_ensureCapacityInternal_d00df_9 ?_
  refine wz_istore_2 C rfl dJ5_ensureCapacityInternal_d00df_10 ?_
  refine wz_iload_n C rfl rfl dJ5_ensureCapacityInternal_d00df_11 ?_
  refine wz_iload_n C rfl rfl dJ5_ensureCapacityInternal_d00df_12 ?_
  refine wz_isub C dJ5_ensureCapacityInternal_d00df_13 ?_
  obtain ⟨g4, h⟩ := h
  refine wz_if_le C (tgt := 38) g4 dJ5_ensureCapacityInternal_d00df_14 (by decide) (fun c => ?_) (fun c => ?_)
  · replace h := h.1 c
    exact wz_vret C dJ5_ensureCapacityInternal_d00df_38 ⟨rfl, h⟩
  · replace h := h.2 c
    refine wz_aload_n C rfl rfl dJ5_ensureCapacityInternal_d00df_17 ?_
    refine wz_aload_n C rfl rfl dJ5_ensureCapacityInternal_d00df_18 ?_
    obtain ⟨g5, h⟩ := h
    refine wy_getB0 C f_J5_ensureCapacityInternal_d00df_15 g5 dJ5_ensureCapacityInternal_d00df_19 ?_
    refine wz_aload_n C rfl rfl dJ5_ensureCapacityInternal_d00df_22 ?_
    refine wz_iload_n C rfl rfl dJ5_ensureCapacityInternal_d00df_23 ?_
    obtain ⟨g7, h⟩ := h
    refine Wz.know (fun hs9 hl9 => ?_)
    refine wm_callU C (S := (I, J)) (o := k0) (As := [.int (iZ l1)]) (st := [.ref (kadr G ((I k0 0).toNat)), .ref (kadr G k0)]) (a' := 1) (b' := 2000) (sK6 hs9 hl9 g7) rfl (k_J5_newCapacity_0f7a4 G hG hW k0 l1 I J _ h) 1 gJ5_ensureCapacityInternal_d00df_J5_newCapacity_0f7a4_u104J4 rfl rfl (by decide +kernel) (by rw [hX]; exact ⟨Nat.le_of_ble_eq_true rfl, Nat.le_of_ble_eq_true rfl⟩) rfl (Nat.le_of_ble_eq_true rfl) (by show 0 + (1) = 1; omega) (by show 0 + (2000) = 2000; omega) rfl dJ5_ensureCapacityInternal_d00df_24 (kk_sI (fun v6 I6 J6 h => ?_))
    refine wz_aload_n C rfl rfl dJ5_ensureCapacityInternal_d00df_27 ?_
    obtain ⟨g8, h⟩ := h
    refine wy_getB1 C f_J5_ensureCapacityInternal_d00df_22 g8 dJ5_ensureCapacityInternal_d00df_28 ?_
    refine wd_ishl C dJ5_ensureCapacityInternal_d00df_31 ?_
    refine wm_callSo C (As := [.ref (kadr G ((I k0 0).toNat)), .int (iZ (shlZ v6 (I6 k0 1)))]) (st := [.ref (kadr G k0)]) (a' := 0) (b' := 0) (k_J7_copyOf_9075b G hG hW ((I k0 0).toNat) (shlZ v6 (I6 k0 1)) I6 J6 _ h) 2 (goodIn_wsS gJ5_ensureCapacityInternal_d00df_J7_copyOf_9075b) (by decide +kernel) (by decide +kernel) (by decide +kernel) rfl (by decide +kernel) (by rw [hX]; exact ⟨Nat.le_of_ble_eq_true rfl, Nat.le_of_ble_eq_true rfl⟩) rfl (Nat.le_of_ble_eq_true rfl) (by show 1 + (0) = 1; omega) (by show 2000 + (0) = 2000; omega) rfl dJ5_ensureCapacityInternal_d00df_32 (kk_sK (fun v9 I9 J9 h => ?_))
    obtain ⟨g11, h⟩ := h
    refine wy_putB0 C f_J5_ensureCapacityInternal_d00df_15 fp_J4_0 g11 dJ5_ensureCapacityInternal_d00df_35 (fun I10 e => ?_)
    replace h := h I10 e
    exact wz_vret C dJ5_ensureCapacityInternal_d00df_38 ⟨rfl, h⟩
theorem in_J5_isLatin1_aae02_J4 : ∀ w ∈ wsJ40, w ∈ wsJ5_isLatin1_aae02 := by decide +kernel
theorem f_J5_isLatin1_aae02_22 : FLk wsJ5_isLatin1_aae02 RJ5 22 1 1 := flk 1 1 rfl tyJ4_ok nmJ4 in_J5_isLatin1_aae02_J4 (by decide) (by decide +kernel)
def rm_J5_isLatin1_aae02 : Room := { frames := 0, cells := 0, slots := 0, locals := 0 }
set_option maxHeartbeats 4000000 in
set_option maxRecDepth 100000 in
theorem k_J5_isLatin1_aae02 (G : KG) (hG : Kok G) (hW : KWx G)  (k0 : Nat) (I : Ii) (J : Jj) (Q : Int → Ii → Jj → Prop) (h : wp_J5_isLatin1_aae02 k0 I J Q) : Ctr G yJ5_isLatin1_aae02 wsJ5_isLatin1_aae02 rm_J5_isLatin1_aae02 [.ref (kadr G k0)] (I, J) (QsB Q) := by
  unfold wp_J5_isLatin1_aae02 at h
  refine Ctr.ofZ (cc := cJ5_isLatin1_aae02) (nL := 1) (ret := (some .boolean)) [some (.ref (kadr G k0))] hG (by decide +kernel) rfl (Nat.le_of_ble_eq_true rfl) (Nat.le_of_ble_eq_true rfl) (by simp [lvA, lv_args, Value.category]) ?_
  intro X hX C
  refine (?_ : Wz G X 1 (QsU G X (QsB Q)) 0 0 0 [some (.ref (kadr G k0))] [] I J)
  refine wy_gets C hW.cs (by decide +kernel) dJ5_isLatin1_aae02_0 ?_
  refine wz_if_eq C (tgt := 17) (by decide) dJ5_isLatin1_aae02_3 (by decide) (fun z => absurd z (by decide)) (fun _ => ?_)
  refine wz_aload_n C rfl rfl dJ5_isLatin1_aae02_6 ?_
  obtain ⟨g1, h⟩ := h
  refine wy_getB1 C f_J5_isLatin1_aae02_22 g1 dJ5_isLatin1_aae02_7 ?_
  obtain ⟨g2, h⟩ := h
  refine wz_if_ne C (tgt := 17) g2 dJ5_isLatin1_aae02_10 (by decide) (fun c => ?_) (fun c => ?_)
  · replace h := h.1 c
    refine wz_iconst C dJ5_isLatin1_aae02_17 ?_
    exact wz_zret C (Or.inl rfl) dJ5_isLatin1_aae02_18 ⟨_, rfl, (Or.inl rfl), h⟩
  · replace h := h.2 c
    refine wz_iconst C dJ5_isLatin1_aae02_13 ?_
    refine wz_goto C dJ5_isLatin1_aae02_14 (tgt := 18) (by decide) ?_
    exact wz_zret C (Or.inr rfl) dJ5_isLatin1_aae02_18 ⟨_, rfl, (Or.inr rfl), h⟩
theorem in_J5_getValue_6d5f1_J4 : ∀ w ∈ wsJ40, w ∈ wsJ5_getValue_6d5f1 := by decide +kernel
theorem f_J5_getValue_6d5f1_15 : FLk wsJ5_getValue_6d5f1 RJ5 15 1 0 := flk 1 0 rfl tyJ4_ok nmJ4 in_J5_getValue_6d5f1_J4 (by decide) (by decide +kernel)
def rm_J5_getValue_6d5f1 : Room := { frames := 0, cells := 0, slots := 0, locals := 0 }
set_option maxHeartbeats 4000000 in
set_option maxRecDepth 100000 in
theorem k_J5_getValue_6d5f1 (G : KG) (hG : Kok G) (hW : KWx G)  (k0 : Nat) (I : Ii) (J : Jj) (Q : Nat → Ii → Jj → Prop) (h : wp_J5_getValue_6d5f1 k0 I J Q) : Ctr G yJ5_getValue_6d5f1 wsJ5_getValue_6d5f1 rm_J5_getValue_6d5f1 [.ref (kadr G k0)] (I, J) (QsK G Q) := by
  unfold wp_J5_getValue_6d5f1 at h
  refine Ctr.ofZ (cc := cJ5_getValue_6d5f1) (nL := 1) (ret := (some (.array .byte))) [some (.ref (kadr G k0))] hG (by decide +kernel) rfl (Nat.le_of_ble_eq_true rfl) (Nat.le_of_ble_eq_true rfl) (by simp [lvA, lv_args, Value.category]) ?_
  intro X hX C
  refine (?_ : Wz G X 1 (QsU G X (QsK G Q)) 0 0 0 [some (.ref (kadr G k0))] [] I J)
  refine wz_aload_n C rfl rfl dJ5_getValue_6d5f1_0 ?_
  obtain ⟨g1, h⟩ := h
  refine wy_getB0 C f_J5_getValue_6d5f1_15 g1 dJ5_getValue_6d5f1_1 ?_
  exact wy_aret C (Or.inr ⟨_, rfl⟩) dJ5_getValue_6d5f1_4 ⟨_, rfl, h⟩
theorem in_J5_inflateIfNeededFor_a7421_J4 : ∀ w ∈ wsJ40, w ∈ wsJ5_inflateIfNeededFor_a7421 := by decide +kernel
theorem f_J5_inflateIfNeededFor_a7421_22 : FLk wsJ5_inflateIfNeededFor_a7421 RJ5 22 1 1 := flk 1 1 rfl tyJ4_ok nmJ4 in_J5_inflateIfNeededFor_a7421_J4 (by decide) (by decide +kernel)
def rm_J5_inflateIfNeededFor_a7421 : Room := { frames := 1, cells := 0, slots := 0, locals := 20 }
set_option maxHeartbeats 4000000 in
set_option maxRecDepth 100000 in
theorem k_J5_inflateIfNeededFor_a7421 (G : KG) (hG : Kok G) (hW : KWx G)  (k0 : Nat) (k1 : Nat) (I : Ii) (J : Jj) (Q : Ii → Jj → Prop) (h : wp_J5_inflateIfNeededFor_a7421 k0 k1 I J Q) : Ctr G yJ5_inflateIfNeededFor_a7421 wsJ5_inflateIfNeededFor_a7421 rm_J5_inflateIfNeededFor_a7421 [.ref (kadr G k0), .ref (kadr G k1)] (I, J) (QsV Q) := by
  unfold wp_J5_inflateIfNeededFor_a7421 at h
  refine Ctr.ofZ (cc := cJ5_inflateIfNeededFor_a7421) (nL := 2) (ret := none) [some (.ref (kadr G k0)), some (.ref (kadr G k1))] hG (by decide +kernel) rfl (Nat.le_of_ble_eq_true rfl) (Nat.le_of_ble_eq_true rfl) (by simp [lvA, lv_args, Value.category]) ?_
  intro X hX C
  refine (?_ : Wz G X 2 (QsU G X (QsV Q)) 0 0 0 [some (.ref (kadr G k0)), some (.ref (kadr G k1))] [] I J)
  refine wy_gets C hW.cs (by decide +kernel) dJ5_inflateIfNeededFor_a7421_0 ?_
  refine wz_if_eq C (tgt := 21) (by decide) dJ5_inflateIfNeededFor_a7421_3 (by decide) (fun z => absurd z (by decide)) (fun _ => ?_)
  refine wz_aload_n C rfl rfl dJ5_inflateIfNeededFor_a7421_6 ?_
  obtain ⟨g1, h⟩ := h
  refine wy_getB1 C f_J5_inflateIfNeededFor_a7421_22 g1 dJ5_inflateIfNeededFor_a7421_7 ?_
  refine wz_aload_n C rfl rfl dJ5_inflateIfNeededFor_a7421_10 ?_
  obtain ⟨g3, h⟩ := h
  refine wy_callT C hW (o := k1) (As := []) (st := [.int (iZ (I k0 1))]) (a' := 0) (b' := 0) g3 (k_J0_coder_7d493 G hG hW k1 I J _ h) 0 gJ5_inflateIfNeededFor_a7421_J0_coder_7d493 rfl (by decide +kernel) (by rw [hX]; exact ⟨Nat.le_of_ble_eq_true rfl, Nat.le_of_ble_eq_true rfl⟩) rfl (Nat.le_of_ble_eq_true rfl) (by show 0 + (0) = 0; omega) (by show 0 + (0) = 0; omega) rfl dJ5_inflateIfNeededFor_a7421_11 (kk_sI (fun v2 I2 J2 h => ?_))
  obtain ⟨g4, h⟩ := h
  obtain ⟨g5, h⟩ := h
  refine wz_icmp_eq C (tgt := 21) g4 g5 dJ5_inflateIfNeededFor_a7421_14 (by decide) (fun c => ?_) (fun c => ?_)
  · replace h := h.1 c
    exact wz_vret C dJ5_inflateIfNeededFor_a7421_21 ⟨rfl, h⟩
  · replace h := h.2 c
    refine wz_aload_n C rfl rfl dJ5_inflateIfNeededFor_a7421_17 ?_
    exact False.elim h
theorem in_J5_putStringAt_47b60_J4 : ∀ w ∈ wsJ40, w ∈ wsJ5_putStringAt_47b60 := by decide +kernel
theorem f_J5_putStringAt_47b60_15 : FLk wsJ5_putStringAt_47b60 RJ5 15 1 0 := flk 1 0 rfl tyJ4_ok nmJ4 in_J5_putStringAt_47b60_J4 (by decide) (by decide +kernel)
theorem f_J5_putStringAt_47b60_22 : FLk wsJ5_putStringAt_47b60 RJ5 22 1 1 := flk 1 1 rfl tyJ4_ok nmJ4 in_J5_putStringAt_47b60_J4 (by decide) (by decide +kernel)
def rm_J5_putStringAt_47b60 : Room := { frames := 2, cells := 0, slots := 0, locals := 103 }
set_option maxHeartbeats 4000000 in
set_option maxRecDepth 100000 in
theorem k_J5_putStringAt_47b60 (G : KG) (hG : Kok G) (hW : KWx G)  (k0 : Nat) (k2 : Nat) (l1 : Int) (I : Ii) (J : Jj) (Q : Ii → Jj → Prop) (h : wp_J5_putStringAt_47b60 k0 k2 l1 I J Q) : Ctr G yJ5_putStringAt_47b60 wsJ5_putStringAt_47b60 rm_J5_putStringAt_47b60 [.ref (kadr G k0), .int (iZ l1), .ref (kadr G k2)] (I, J) (QsV Q) := by
  unfold wp_J5_putStringAt_47b60 at h
  refine Ctr.ofZ (cc := cJ5_putStringAt_47b60) (nL := 3) (ret := none) [some (.ref (kadr G k0)), some (.int (iZ l1)), some (.ref (kadr G k2))] hG (by decide +kernel) rfl (Nat.le_of_ble_eq_true rfl) (Nat.le_of_ble_eq_true rfl) (by simp [lvA, lv_args, Value.category]) ?_
  intro X hX C
  refine (?_ : Wz G X 3 (QsU G X (QsV Q)) 0 0 0 [some (.ref (kadr G k0)), some (.int (iZ l1)), some (.ref (kadr G k2))] [] I J)
  refine wz_aload_n C rfl rfl dJ5_putStringAt_47b60_0 ?_
  refine wz_aload_n C rfl rfl dJ5_putStringAt_47b60_1 ?_
  obtain ⟨g2, h⟩ := h
  refine Wz.know (fun hs9 hl9 => ?_)
  refine wm_callU C (S := (I, J)) (o := k0) (As := [.ref (kadr G k2)]) (st := []) (a' := 0) (b' := 0) (sK6 hs9 hl9 g2) rfl (k_J5_inflateIfNeededFor_a7421 G hG hW k0 k2 I J _ h) 1 gJ5_putStringAt_47b60_J5_inflateIfNeededFor_a7421_u397J4 rfl rfl (by decide +kernel) (by rw [hX]; exact ⟨Nat.le_of_ble_eq_true rfl, Nat.le_of_ble_eq_true rfl⟩) rfl (Nat.le_of_ble_eq_true rfl) (by show 0 + (0) = 0; omega) (by show 0 + (0) = 0; omega) rfl dJ5_putStringAt_47b60_2 (kk_sV (fun I1 J1 h => ?_))
  refine wz_aload_n C rfl rfl dJ5_putStringAt_47b60_5 ?_
  refine wz_aload_n C rfl rfl dJ5_putStringAt_47b60_6 ?_
  obtain ⟨g3, h⟩ := h
  refine wy_getB0 C f_J5_putStringAt_47b60_15 g3 dJ5_putStringAt_47b60_7 ?_
  refine wz_iload_n C rfl rfl dJ5_putStringAt_47b60_10 ?_
  refine wz_aload_n C rfl rfl dJ5_putStringAt_47b60_11 ?_
  obtain ⟨g4, h⟩ := h
  refine wy_getB1 C f_J5_putStringAt_47b60_22 g4 dJ5_putStringAt_47b60_12 ?_
  obtain ⟨g6, h⟩ := h
  refine wy_callT C hW (o := k2) (As := [.ref (kadr G ((I1 k0 0).toNat)), .int (iZ l1), .int (iZ (I1 k0 1))]) (st := []) (a' := 0) (b' := 0) g6 (k_J0_getBytes_840e7 G hG hW k2 ((I1 k0 0).toNat) l1 (I1 k0 1) I1 J1 _ h) 3 gJ5_putStringAt_47b60_J0_getBytes_840e7 rfl (by decide +kernel) (by rw [hX]; exact ⟨Nat.le_of_ble_eq_true rfl, Nat.le_of_ble_eq_true rfl⟩) rfl (Nat.le_of_ble_eq_true rfl) (by show 0 + (0) = 0; omega) (by show 0 + (0) = 0; omega) rfl dJ5_putStringAt_47b60_15 (kk_sV (fun I5 J5 h => ?_))
  exact wz_vret C dJ5_putStringAt_47b60_18 ⟨rfl, h⟩
theorem in_J5_append_cf1ce_J4 : ∀ w ∈ wsJ40, w ∈ wsJ5_append_cf1ce := by decide +kernel
theorem f_J5_append_cf1ce_79 : FLk wsJ5_append_cf1ce RJ5 79 1 3 := flk 1 3 rfl tyJ4_ok nmJ4 in_J5_append_cf1ce_J4 (by decide) (by decide +kernel)
theorem fp_J4_3 : FPk 1 3 .int := fun C9 T9 N9 h => by
  have h : some (RJ4, TJ4, 4) = some (C9, T9, N9) := h
  cases h
  exact ⟨rfl, by decide +kernel⟩
def rm_J5_append_cf1ce : Room := { frames := 4, cells := 1, slots := 2000, locals := 125 }
set_option maxHeartbeats 4000000 in
set_option maxRecDepth 100000 in
theorem k_J5_append_cf1ce (G : KG) (hG : Kok G) (hW : KWx G)  (k0 : Nat) (k1 : Nat) (I : Ii) (J : Jj) (Q : Nat → Ii → Jj → Prop) (h : wp_J5_append_cf1ce k0 k1 I J Q) : Ctr G yJ5_append_cf1ce wsJ5_append_cf1ce rm_J5_append_cf1ce [.ref (kadr G k0), .ref (kadr G k1)] (I, J) (QsK G Q) := by
  unfold wp_J5_append_cf1ce at h
  refine Ctr.ofZ (cc := cJ5_append_cf1ce) (nL := 3) (ret := (some (.object "java/lang/AbstractStringBuilder"))) [some (.ref (kadr G k0)), some (.ref (kadr G k1)), none] hG (by decide +kernel) rfl (Nat.le_of_ble_eq_true rfl) (Nat.le_of_ble_eq_true rfl) (by simp [lvA, lv_args, Value.category]) ?_
  intro X hX C
  refine (?_ : Wz G X 3 (QsU G X (QsK G Q)) 1 2000 0 [some (.ref (kadr G k0)), some (.ref (kadr G k1)), none] [] I J)
  refine wz_aload_n C rfl rfl dJ5_append_cf1ce_0 ?_
  refine wy_ifnonnull C (tgt := 9) dJ5_append_cf1ce_1 (by decide) ?_
  refine wz_aload_n C rfl rfl dJ5_append_cf1ce_9 ?_
  obtain ⟨g2, h⟩ := h
  refine wy_callT C hW (o := k1) (As := []) (st := []) (a' := 1) (b' := 2000) g2 (k_J0_length_8abf5 G hG hW k1 I J _ h) 0 gJ5_append_cf1ce_J0_length_8abf5 rfl (by decide +kernel) (by rw [hX]; exact ⟨Nat.le_of_ble_eq_true rfl, Nat.le_of_ble_eq_true rfl⟩) rfl (Nat.le_of_ble_eq_true rfl) (by show 0 + (1) = 1; omega) (by show 0 + (2000) = 2000; omega) rfl dJ5_append_cf1ce_10 (kk_sI (fun v1 I1 J1 h => ?_))
  refine wz_istore_2 C rfl dJ5_append_cf1ce_13 ?_
  refine wz_aload_n C rfl rfl dJ5_append_cf1ce_14 ?_
  refine wz_aload_n C rfl rfl dJ5_append_cf1ce_15 ?_
  obtain ⟨g3, h⟩ := h
  refine wy_getB3 C f_J5_append_cf1ce_79 g3 dJ5_append_cf1ce_16 ?_
  refine wz_iload_n C rfl rfl dJ5_append_cf1ce_19 ?_
  refine wz_iadd C dJ5_append_cf1ce_20 ?_
  obtain ⟨g5, h⟩ := h
  refine Wz.know (fun hs9 hl9 => ?_)
  refine wm_callU C (S := (I1, J1)) (o := k0) (As := [.int (iZ ((I1 k0 3) + v1))]) (st := []) (a' := 0) (b' := 0) (sK6 hs9 hl9 g5) rfl (k_J5_ensureCapacityInternal_d00df G hG hW k0 ((I1 k0 3) + v1) I1 J1 _ h) 1 gJ5_append_cf1ce_J5_ensureCapacityInternal_d00df_u100J4 rfl rfl (by decide +kernel) (by rw [hX]; exact ⟨Nat.le_of_ble_eq_true rfl, Nat.le_of_ble_eq_true rfl⟩) rfl (Nat.le_of_ble_eq_true rfl) (by show 1 + (0) = 1; omega) (by show 2000 + (0) = 2000; omega) rfl dJ5_append_cf1ce_21 (kk_sV (fun I4 J4 h => ?_))
  refine wz_aload_n C rfl rfl dJ5_append_cf1ce_24 ?_
  refine wz_aload_n C rfl rfl dJ5_append_cf1ce_25 ?_
  obtain ⟨g6, h⟩ := h
  refine wy_getB3 C f_J5_append_cf1ce_79 g6 dJ5_append_cf1ce_26 ?_
  refine wz_aload_n C rfl rfl dJ5_append_cf1ce_29 ?_
  obtain ⟨g8, h⟩ := h
  refine Wz.know (fun hs9 hl9 => ?_)
  refine wm_callU C (S := (I4, J4)) (o := k0) (As := [.int (iZ (I4 k0 3)), .ref (kadr G k1)]) (st := []) (a' := 0) (b' := 0) (sK6 hs9 hl9 g8) rfl (k_J5_putStringAt_47b60 G hG hW k0 k1 (I4 k0 3) I4 J4 _ h) 2 gJ5_append_cf1ce_J5_putStringAt_47b60_u208J4 rfl rfl (by decide +kernel) (by rw [hX]; exact ⟨Nat.le_of_ble_eq_true rfl, Nat.le_of_ble_eq_true rfl⟩) rfl (Nat.le_of_ble_eq_true rfl) (by show 0 + (0) = 0; omega) (by show 0 + (0) = 0; omega) rfl dJ5_append_cf1ce_30 (kk_sV (fun I7 J7 h => ?_))
  refine wz_aload_n C rfl rfl dJ5_append_cf1ce_33 ?_
  refine wz_dup C rfl dJ5_append_cf1ce_34 ?_
  obtain ⟨g9, h⟩ := h
  refine wy_getB3 C f_J5_append_cf1ce_79 g9 dJ5_append_cf1ce_35 ?_
  refine wz_iload_n C rfl rfl dJ5_append_cf1ce_38 ?_
  refine wz_iadd C dJ5_append_cf1ce_39 ?_
  obtain ⟨g11, h⟩ := h
  refine wy_putB3 C f_J5_append_cf1ce_79 fp_J4_3 g11 dJ5_append_cf1ce_40 (fun I10 e => ?_)
  replace h := h I10 e
  refine wz_aload_n C rfl rfl dJ5_append_cf1ce_43 ?_
  exact wy_aret C (Or.inl ⟨_, rfl⟩) dJ5_append_cf1ce_44 ⟨_, rfl, h⟩
def rm_J1_canEncode_fc78d : Room := { frames := 0, cells := 0, slots := 0, locals := 0 }
set_option maxHeartbeats 4000000 in
set_option maxRecDepth 100000 in
theorem k_J1_canEncode_fc78d (G : KG) (hG : Kok G) (hW : KWx G)  (l0 : Int) (I : Ii) (J : Jj) (Q : Int → Ii → Jj → Prop) (h : wp_J1_canEncode_fc78d l0 I J Q) : Ctr G yJ1_canEncode_fc78d wsJ1_canEncode_fc78d rm_J1_canEncode_fc78d [.int (iZ l0)] (I, J) (QsB Q) := by
  unfold wp_J1_canEncode_fc78d at h
  refine Ctr.ofZ (cc := cJ1_canEncode_fc78d) (nL := 1) (ret := (some .boolean)) [some (.int (iZ l0))] hG (by decide +kernel) rfl (Nat.le_of_ble_eq_true rfl) (Nat.le_of_ble_eq_true rfl) (by simp [lvA, lv_args, Value.category]) ?_
  intro X hX C
  refine (?_ : Wz G X 1 (QsU G X (QsB Q)) 0 0 0 [some (.int (iZ l0))] [] I J)
  refine wz_iload_n C rfl rfl dJ1_canEncode_fc78d_0 ?_
  refine wz_sipush C (by decide) dJ1_canEncode_fc78d_1 ?_
  obtain ⟨g1, h⟩ := h
  refine wz_icmp_gt C (tgt := 11) g1 (by decide) dJ1_canEncode_fc78d_4 (by decide) (fun c => ?_) (fun c => ?_)
  · replace h := h.1 c
    refine wz_iconst C dJ1_canEncode_fc78d_11 ?_
    exact wz_zret C (Or.inl rfl) dJ1_canEncode_fc78d_12 ⟨_, rfl, (Or.inl rfl), h⟩
  · replace h := h.2 c
    refine wz_iconst C dJ1_canEncode_fc78d_7 ?_
    refine wz_goto C dJ1_canEncode_fc78d_8 (tgt := 12) (by decide) ?_
    exact wz_zret C (Or.inr rfl) dJ1_canEncode_fc78d_12 ⟨_, rfl, (Or.inr rfl), h⟩
theorem in_J5_append_3fe6f_J4 : ∀ w ∈ wsJ40, w ∈ wsJ5_append_3fe6f := by decide +kernel
theorem f_J5_append_3fe6f_79 : FLk wsJ5_append_3fe6f RJ5 79 1 3 := flk 1 3 rfl tyJ4_ok nmJ4 in_J5_append_3fe6f_J4 (by decide) (by decide +kernel)
theorem f_J5_append_3fe6f_15 : FLk wsJ5_append_3fe6f RJ5 15 1 0 := flk 1 0 rfl tyJ4_ok nmJ4 in_J5_append_3fe6f_J4 (by decide) (by decide +kernel)
def rm_J5_append_3fe6f : Room := { frames := 4, cells := 1, slots := 2000, locals := 124 }
set_option maxHeartbeats 4000000 in
set_option maxRecDepth 100000 in
theorem bk_J5_append_3fe6f_56 (G : KG) (hG : Kok G) (hW : KWx G) (X : KX) (hX : KR X = rm_J5_append_3fe6f) (C : Fr G X cJ5_append_3fe6f 2 yJ5_append_3fe6f.cls (some (.object "java/lang/AbstractStringBuilder")) wsJ5_append_3fe6f) (k0 : Nat) (l1 : Int) (Q : Nat → Ii → Jj → Prop)  (I : Ii) (J : Jj) (h : B_J5_append_3fe6f_56 k0 l1 Q  I J) : Wz G X 2 (QsU G X (QsK G Q)) 0 0 56 [some (.ref (kadr G k0)), some (.int (iZ l1))] [] I J := by
  unfold B_J5_append_3fe6f_56 at h
  refine wz_aload_n C rfl rfl dJ5_append_3fe6f_56 ?_
  obtain ⟨g15, h⟩ := h
  refine wy_getB0 C f_J5_append_3fe6f_15 g15 dJ5_append_3fe6f_57 ?_
  refine wz_aload_n C rfl rfl dJ5_append_3fe6f_60 ?_
  refine wz_dup C rfl dJ5_append_3fe6f_61 ?_
  obtain ⟨g16, h⟩ := h
  refine wy_getB3 C f_J5_append_3fe6f_79 g16 dJ5_append_3fe6f_62 ?_
  refine wy_dup_x1 C rfl rfl dJ5_append_3fe6f_65 ?_
  refine wz_iconst C dJ5_append_3fe6f_66 ?_
  refine wz_iadd C dJ5_append_3fe6f_67 ?_
  obtain ⟨g18, h⟩ := h
  refine wy_putB3 C f_J5_append_3fe6f_79 fp_J4_3 g18 dJ5_append_3fe6f_68 (fun I17 e => ?_)
  replace h := h I17 e
  refine wz_iload_n C rfl rfl dJ5_append_3fe6f_71 ?_
  exact False.elim h
set_option maxHeartbeats 4000000 in
set_option maxRecDepth 100000 in
theorem bk_J5_append_3fe6f_45 (G : KG) (hG : Kok G) (hW : KWx G) (X : KX) (hX : KR X = rm_J5_append_3fe6f) (C : Fr G X cJ5_append_3fe6f 2 yJ5_append_3fe6f.cls (some (.object "java/lang/AbstractStringBuilder")) wsJ5_append_3fe6f) (k0 : Nat) (l1 : Int) (Q : Nat → Ii → Jj → Prop)  (I : Ii) (J : Jj) (h : B_J5_append_3fe6f_45 k0 l1 Q  I J) : Wz G X 2 (QsU G X (QsK G Q)) 0 0 45 [some (.ref (kadr G k0)), some (.int (iZ l1))] [] I J := by
  unfold B_J5_append_3fe6f_45 at h
  refine wz_aload_n C rfl rfl dJ5_append_3fe6f_45 ?_
  obtain ⟨g14, h⟩ := h
  refine Wz.know (fun hs9 hl9 => ?_)
  refine wm_callU C (S := (I, J)) (o := k0) (As := []) (st := []) (a' := 0) (b' := 0) (sK6 hs9 hl9 g14) rfl (k_J5_isLatin1_aae02 G hG hW k0 I J _ h) 0 gJ5_append_3fe6f_J5_isLatin1_aae02_u83J4 rfl rfl (by decide +kernel) (by rw [hX]; exact ⟨Nat.le_of_ble_eq_true rfl, Nat.le_of_ble_eq_true rfl⟩) rfl (Nat.le_of_ble_eq_true rfl) (by show 0 + (0) = 0; omega) (by show 0 + (0) = 0; omega) rfl dJ5_append_3fe6f_46 (kk_sB (fun v13 I13 J13 hb13 h => ?_))
  refine wz_if_eq C (tgt := 56) (rgB hb13) dJ5_append_3fe6f_49 (by decide) (fun c => ?_) (fun c => ?_)
  · replace h := h.1 c
    exact Wz.less (a0 := 0) (b0 := 0) (by omega) (by omega) (bk_J5_append_3fe6f_56 G hG hW X hX C k0 l1 Q I13 J13 h)
  · replace h := h.2 c
    refine wz_aload_n C rfl rfl dJ5_append_3fe6f_52 ?_
    exact False.elim h
set_option maxHeartbeats 4000000 in
set_option maxRecDepth 100000 in
theorem k_J5_append_3fe6f (G : KG) (hG : Kok G) (hW : KWx G)  (k0 : Nat) (l1 : Int) (I : Ii) (J : Jj) (Q : Nat → Ii → Jj → Prop) (h : wp_J5_append_3fe6f k0 l1 I J Q) : Ctr G yJ5_append_3fe6f wsJ5_append_3fe6f rm_J5_append_3fe6f [.ref (kadr G k0), .int (iZ l1)] (I, J) (QsK G Q) := by
  unfold wp_J5_append_3fe6f at h
  refine Ctr.ofZ (cc := cJ5_append_3fe6f) (nL := 2) (ret := (some (.object "java/lang/AbstractStringBuilder"))) [some (.ref (kadr G k0)), some (.int (iZ l1))] hG (by decide +kernel) rfl (Nat.le_of_ble_eq_true rfl) (Nat.le_of_ble_eq_true rfl) (by simp [lvA, lv_args, Value.category]) ?_
  intro X hX C
  refine (?_ : Wz G X 2 (QsU G X (QsK G Q)) 1 2000 0 [some (.ref (kadr G k0)), some (.int (iZ l1))] [] I J)
  refine wz_aload_n C rfl rfl dJ5_append_3fe6f_0 ?_
  refine wz_aload_n C rfl rfl dJ5_append_3fe6f_1 ?_
  obtain ⟨g1, h⟩ := h
  refine wy_getB3 C f_J5_append_3fe6f_79 g1 dJ5_append_3fe6f_2 ?_
  refine wz_iconst C dJ5_append_3fe6f_5 ?_
  refine wz_iadd C dJ5_append_3fe6f_6 ?_
  obtain ⟨g3, h⟩ := h
  refine Wz.know (fun hs9 hl9 => ?_)
  refine wm_callU C (S := (I, J)) (o := k0) (As := [.int (iZ ((I k0 3) + 1))]) (st := []) (a' := 0) (b' := 0) (sK6 hs9 hl9 g3) rfl (k_J5_ensureCapacityInternal_d00df G hG hW k0 ((I k0 3) + 1) I J _ h) 1 gJ5_append_3fe6f_J5_ensureCapacityInternal_d00df_u100J4 rfl rfl (by decide +kernel) (by rw [hX]; exact ⟨Nat.le_of_ble_eq_true rfl, Nat.le_of_ble_eq_true rfl⟩) rfl (Nat.le_of_ble_eq_true rfl) (by show 1 + (0) = 1; omega) (by show 2000 + (0) = 2000; omega) rfl dJ5_append_3fe6f_7 (kk_sV (fun I2 J2 h => ?_))
  refine wz_aload_n C rfl rfl dJ5_append_3fe6f_10 ?_
  obtain ⟨g5, h⟩ := h
  refine Wz.know (fun hs9 hl9 => ?_)
  refine wm_callU C (S := (I2, J2)) (o := k0) (As := []) (st := []) (a' := 0) (b' := 0) (sK6 hs9 hl9 g5) rfl (k_J5_isLatin1_aae02 G hG hW k0 I2 J2 _ h) 0 gJ5_append_3fe6f_J5_isLatin1_aae02_u83J4 rfl rfl (by decide +kernel) (by rw [hX]; exact ⟨Nat.le_of_ble_eq_true rfl, Nat.le_of_ble_eq_true rfl⟩) rfl (Nat.le_of_ble_eq_true rfl) (by show 0 + (0) = 0; omega) (by show 0 + (0) = 0; omega) rfl dJ5_append_3fe6f_11 (kk_sB (fun v4 I4 J4 hb4 h => ?_))
  refine wz_if_eq C (tgt := 45) (rgB hb4) dJ5_append_3fe6f_14 (by decide) (fun c => ?_) (fun c => ?_)
  · replace h := h.1 c
    exact Wz.less (a0 := 0) (b0 := 0) (by omega) (by omega) (bk_J5_append_3fe6f_45 G hG hW X hX C k0 l1 Q I4 J4 h)
  · replace h := h.2 c
    refine wz_iload_n C rfl rfl dJ5_append_3fe6f_17 ?_
    refine wm_callSo C (As := [.int (iZ l1)]) (st := []) (a' := 0) (b' := 0) (k_J1_canEncode_fc78d G hG hW l1 I4 J4 _ h) 1 (goodIn_wsS gJ5_append_3fe6f_J1_canEncode_fc78d) (by decide +kernel) (by decide +kernel) (by decide +kernel) rfl (by decide +kernel) (by rw [hX]; exact ⟨Nat.le_of_ble_eq_true rfl, Nat.le_of_ble_eq_true rfl⟩) rfl (Nat.le_of_ble_eq_true rfl) (by show 0 + (0) = 0; omega) (by show 0 + (0) = 0; omega) rfl dJ5_append_3fe6f_18 (kk_sB (fun v6 I6 J6 hb6 h => ?_))
    refine wz_if_eq C (tgt := 45) (rgB hb6) dJ5_append_3fe6f_21 (by decide) (fun c => ?_) (fun c => ?_)
    · replace h := h.1 c
      exact Wz.less (a0 := 0) (b0 := 0) (by omega) (by omega) (bk_J5_append_3fe6f_45 G hG hW X hX C k0 l1 Q I6 J6 h)
    · replace h := h.2 c
      refine wz_aload_n C rfl rfl dJ5_append_3fe6f_24 ?_
      obtain ⟨g7, h⟩ := h
      refine wy_getB0 C f_J5_append_3fe6f_15 g7 dJ5_append_3fe6f_25 ?_
      refine wz_aload_n C rfl rfl dJ5_append_3fe6f_28 ?_
      refine wz_dup C rfl dJ5_append_3fe6f_29 ?_
      obtain ⟨g8, h⟩ := h
      refine wy_getB3 C f_J5_append_3fe6f_79 g8 dJ5_append_3fe6f_30 ?_
      refine wy_dup_x1 C rfl rfl dJ5_append_3fe6f_33 ?_
      refine wz_iconst C dJ5_append_3fe6f_34 ?_
      refine wz_iadd C dJ5_append_3fe6f_35 ?_
      obtain ⟨g10, h⟩ := h
      refine wy_putB3 C f_J5_append_3fe6f_79 fp_J4_3 g10 dJ5_append_3fe6f_36 (fun I9 e => ?_)
      replace h := h I9 e
      refine wz_iload_n C rfl rfl dJ5_append_3fe6f_39 ?_
      refine wy_i2b C dJ5_append_3fe6f_40 ?_
      obtain ⟨g11, h⟩ := h
      refine wy_bast C g11.1 g11.2 dJ5_append_3fe6f_41 (fun I12 e => ?_)
      replace h := h I12 e
      refine wz_goto C dJ5_append_3fe6f_42 (tgt := 75) (by decide) ?_
      refine wz_aload_n C rfl rfl dJ5_append_3fe6f_75 ?_
      exact wy_aret C (Or.inl ⟨_, rfl⟩) dJ5_append_3fe6f_76 ⟨_, rfl, h⟩
theorem in_J5_append_c97b9_J4 : ∀ w ∈ wsJ40, w ∈ wsJ5_append_c97b9 := by decide +kernel
theorem f_J5_append_c97b9_79 : FLk wsJ5_append_c97b9 RJ5 79 1 3 := flk 1 3 rfl tyJ4_ok nmJ4 in_J5_append_c97b9_J4 (by decide) (by decide +kernel)
theorem f_J5_append_c97b9_15 : FLk wsJ5_append_c97b9 RJ5 15 1 0 := flk 1 0 rfl tyJ4_ok nmJ4 in_J5_append_c97b9_J4 (by decide) (by decide +kernel)
def rm_J5_append_c97b9 : Room := { frames := 4, cells := 1, slots := 2000, locals := 124 }
set_option maxHeartbeats 4000000 in
set_option maxRecDepth 100000 in
theorem k_J5_append_c97b9 (G : KG) (hG : Kok G) (hW : KWx G)  (k0 : Nat) (l1 : Int) (I : Ii) (J : Jj) (Q : Nat → Ii → Jj → Prop) (h : wp_J5_append_c97b9 k0 l1 I J Q) : Ctr G yJ5_append_c97b9 wsJ5_append_c97b9 rm_J5_append_c97b9 [.ref (kadr G k0), .int (iZ l1)] (I, J) (QsK G Q) := by
  unfold wp_J5_append_c97b9 at h
  refine Ctr.ofZ (cc := cJ5_append_c97b9) (nL := 4) (ret := (some (.object "java/lang/AbstractStringBuilder"))) [some (.ref (kadr G k0)), some (.int (iZ l1)), none, none] hG (by decide +kernel) rfl (Nat.le_of_ble_eq_true rfl) (Nat.le_of_ble_eq_true rfl) (by simp [lvA, lv_args, Value.category]) ?_
  intro X hX C
  refine (?_ : Wz G X 4 (QsU G X (QsK G Q)) 1 2000 0 [some (.ref (kadr G k0)), some (.int (iZ l1)), none, none] [] I J)
  refine wz_aload_n C rfl rfl dJ5_append_c97b9_0 ?_
  obtain ⟨g1, h⟩ := h
  refine wy_getB3 C f_J5_append_c97b9_79 g1 dJ5_append_c97b9_1 ?_
  refine wz_istore_2 C rfl dJ5_append_c97b9_4 ?_
  refine wz_iload_n C rfl rfl dJ5_append_c97b9_5 ?_
  refine wz_iload_n C rfl rfl dJ5_append_c97b9_6 ?_
  refine wm_callSo C (As := [.int (iZ l1)]) (st := [.int (iZ (I k0 3))]) (a' := 1) (b' := 2000) (k_J6_stringSize_0f7a4 G hG hW l1 I J _ h) 1 (goodIn_wsS gJ5_append_c97b9_J6_stringSize_0f7a4) (by decide +kernel) (by decide +kernel) (by decide +kernel) rfl (by decide +kernel) (by rw [hX]; exact ⟨Nat.le_of_ble_eq_true rfl, Nat.le_of_ble_eq_true rfl⟩) rfl (Nat.le_of_ble_eq_true rfl) (by show 0 + (1) = 1; omega) (by show 0 + (2000) = 2000; omega) rfl dJ5_append_c97b9_7 (kk_sI (fun v2 I2 J2 h => ?_))
  refine wz_iadd C dJ5_append_c97b9_10 ?_
  refine wz_istore_3 C rfl dJ5_append_c97b9_11 ?_
  refine wz_aload_n C rfl rfl dJ5_append_c97b9_12 ?_
  refine wz_iload_n C rfl rfl dJ5_append_c97b9_13 ?_
  obtain ⟨g4, h⟩ := h
  refine Wz.know (fun hs9 hl9 => ?_)
  refine wm_callU C (S := (I2, J2)) (o := k0) (As := [.int (iZ ((I k0 3) + v2))]) (st := []) (a' := 0) (b' := 0) (sK6 hs9 hl9 g4) rfl (k_J5_ensureCapacityInternal_d00df G hG hW k0 ((I k0 3) + v2) I2 J2 _ h) 1 gJ5_append_c97b9_J5_ensureCapacityInternal_d00df_u100J4 rfl rfl (by decide +kernel) (by rw [hX]; exact ⟨Nat.le_of_ble_eq_true rfl, Nat.le_of_ble_eq_true rfl⟩) rfl (Nat.le_of_ble_eq_true rfl) (by show 1 + (0) = 1; omega) (by show 2000 + (0) = 2000; omega) rfl dJ5_append_c97b9_14 (kk_sV (fun I3 J3 h => ?_))
  refine wz_aload_n C rfl rfl dJ5_append_c97b9_17 ?_
  obtain ⟨g6, h⟩ := h
  refine Wz.know (fun hs9 hl9 => ?_)
  refine wm_callU C (S := (I3, J3)) (o := k0) (As := []) (st := []) (a' := 0) (b' := 0) (sK6 hs9 hl9 g6) rfl (k_J5_isLatin1_aae02 G hG hW k0 I3 J3 _ h) 0 gJ5_append_c97b9_J5_isLatin1_aae02_u83J4 rfl rfl (by decide +kernel) (by rw [hX]; exact ⟨Nat.le_of_ble_eq_true rfl, Nat.le_of_ble_eq_true rfl⟩) rfl (Nat.le_of_ble_eq_true rfl) (by show 0 + (0) = 0; omega) (by show 0 + (0) = 0; omega) rfl dJ5_append_c97b9_18 (kk_sB (fun v5 I5 J5 hb5 h => ?_))
  refine wz_if_eq C (tgt := 37) (rgB hb5) dJ5_append_c97b9_21 (by decide) (fun c => ?_) (fun c => ?_)
  · replace h := h.1 c
    refine wz_iload_n C rfl rfl dJ5_append_c97b9_37 ?_
    refine wz_iload_n C rfl rfl dJ5_append_c97b9_38 ?_
    refine wz_iload_n C rfl rfl dJ5_append_c97b9_39 ?_
    refine wz_aload_n C rfl rfl dJ5_append_c97b9_40 ?_
    obtain ⟨g7, h⟩ := h
    refine wy_getB0 C f_J5_append_c97b9_15 g7 dJ5_append_c97b9_41 ?_
    exact False.elim h
  · replace h := h.2 c
    refine wz_iload_n C rfl rfl dJ5_append_c97b9_24 ?_
    refine wz_iload_n C rfl rfl dJ5_append_c97b9_25 ?_
    refine wz_aload_n C rfl rfl dJ5_append_c97b9_26 ?_
    obtain ⟨g8, h⟩ := h
    refine wy_getB0 C f_J5_append_c97b9_15 g8 dJ5_append_c97b9_27 ?_
    refine wm_callSo C (As := [.int (iZ l1), .int (iZ ((I k0 3) + v2)), .ref (kadr G ((I5 k0 0).toNat))]) (st := []) (a' := 0) (b' := 0) (k_J6_getChars_ba4f3 G hG hW ((I5 k0 0).toNat) l1 ((I k0 3) + v2) I5 J5 _ h) 3 (goodIn_wsS gJ5_append_c97b9_J6_getChars_ba4f3) (by decide +kernel) (by decide +kernel) (by decide +kernel) rfl (by decide +kernel) (by rw [hX]; exact ⟨Nat.le_of_ble_eq_true rfl, Nat.le_of_ble_eq_true rfl⟩) rfl (Nat.le_of_ble_eq_true rfl) (by show 0 + (0) = 0; omega) (by show 0 + (0) = 0; omega) rfl dJ5_append_c97b9_30 (kk_sI (fun v9 I9 J9 h => ?_))
    refine wz_pop C rfl dJ5_append_c97b9_33 ?_
    refine wz_goto C dJ5_append_c97b9_34 (tgt := 48) (by decide) ?_
    refine wz_aload_n C rfl rfl dJ5_append_c97b9_48 ?_
    refine wz_iload_n C rfl rfl dJ5_append_c97b9_49 ?_
    obtain ⟨g11, h⟩ := h
    refine wy_putB3 C f_J5_append_c97b9_79 fp_J4_3 g11 dJ5_append_c97b9_50 (fun I10 e => ?_)
    replace h := h I10 e
    refine wz_aload_n C rfl rfl dJ5_append_c97b9_53 ?_
    exact wy_aret C (Or.inl ⟨_, rfl⟩) dJ5_append_c97b9_54 ⟨_, rfl, h⟩
def rm_J4_init_da8c8 : Room := { frames := 2, cells := 1, slots := 16, locals := 51 }
set_option maxHeartbeats 4000000 in
set_option maxRecDepth 100000 in
theorem k_J4_init_da8c8 (G : KG) (hG : Kok G) (hW : KWx G)  (k0 : Nat) (I : Ii) (J : Jj) (Q : Ii → Jj → Prop) (h : wp_J4_init_da8c8 k0 I J Q) : Ctr G yJ4_init_da8c8 wsJ4_init_da8c8 rm_J4_init_da8c8 [.ref (kadr G k0)] (I, J) (QsV Q) := by
  unfold wp_J4_init_da8c8 at h
  refine Ctr.ofI (cc := cJ4_init_da8c8) (nL := 1) (ret := none) [some (.ref (kadr G k0))] hG (by decide +kernel) rfl rfl (Nat.le_of_ble_eq_true rfl) (Nat.le_of_ble_eq_true rfl) (by simp [lvA, lv_args, Value.category]) ?_
  intro X hX hI C
  refine (?_ : Wz G X 1 (QsU G X (QsV Q)) 1 16 0 [some (.ref (kadr G k0))] [] I J)
  refine wz_aload_n C rfl rfl dJ4_init_da8c8_0 ?_
  refine wz_bipush C (by decide) dJ4_init_da8c8_1 ?_
  refine wm_callI C (q := kadr G k0) (As := [.int (iZ 16)]) (st := []) (a' := 0) (b' := 0) (k_J5_init_d00df G hG hW k0 16 I J _ h) 1 gJ4_init_da8c8_J5_init_d00df (by decide +kernel) (by decide +kernel) (by decide +kernel) rfl rfl (by decide +kernel) (by rw [hX]; exact ⟨Nat.le_of_ble_eq_true rfl, Nat.le_of_ble_eq_true rfl⟩) rfl (Nat.le_of_ble_eq_true rfl) (by show 1 + (0) = 1; omega) (by show 16 + (0) = 16; omega) rfl dJ4_init_da8c8_3 (kk_sV (fun I1 J1 h => ?_))
  exact wz_vret C dJ4_init_da8c8_6 ⟨rfl, h⟩
def rm_J4_append_15ec4 : Room := { frames := 5, cells := 1, slots := 2000, locals := 147 }
set_option maxHeartbeats 4000000 in
set_option maxRecDepth 100000 in
theorem k_J4_append_15ec4 (G : KG) (hG : Kok G) (hW : KWx G)  (k0 : Nat) (k1 : Nat) (I : Ii) (J : Jj) (Q : Nat → Ii → Jj → Prop) (h : wp_J4_append_15ec4 k0 k1 I J Q) : Ctr G yJ4_append_15ec4 wsJ4_append_15ec4 rm_J4_append_15ec4 [.ref (kadr G k0), .ref (kadr G k1)] (I, J) (QsK G Q) := by
  unfold wp_J4_append_15ec4 at h
  refine Ctr.ofZ (cc := cJ4_append_15ec4) (nL := 2) (ret := (some (.object "java/lang/StringBuilder"))) [some (.ref (kadr G k0)), some (.ref (kadr G k1))] hG (by decide +kernel) rfl (Nat.le_of_ble_eq_true rfl) (Nat.le_of_ble_eq_true rfl) (by simp [lvA, lv_args, Value.category]) ?_
  intro X hX C
  refine (?_ : Wz G X 2 (QsU G X (QsK G Q)) 1 2000 0 [some (.ref (kadr G k0)), some (.ref (kadr G k1))] [] I J)
  refine wz_aload_n C rfl rfl dJ4_append_15ec4_0 ?_
  refine wz_aload_n C rfl rfl dJ4_append_15ec4_1 ?_
  obtain ⟨g2, h⟩ := h
  refine Wz.know (fun hs9 hl9 => ?_)
  refine wm_callSU C (S := (I, J)) (o := k0) (As := [.ref (kadr G k1)]) (st := []) (a' := 0) (b' := 0) (sK6 hs9 hl9 g2) rfl (k_J5_append_cf1ce G hG hW k0 k1 I J _ h) 1 gJ4_append_15ec4_J5_append_cf1ce_s29 rfl (by decide +kernel) (by rw [hX]; exact ⟨Nat.le_of_ble_eq_true rfl, Nat.le_of_ble_eq_true rfl⟩) rfl (Nat.le_of_ble_eq_true rfl) (by show 1 + (0) = 1; omega) (by show 2000 + (0) = 2000; omega) rfl dJ4_append_15ec4_2 (kk_sK (fun v1 I1 J1 h => ?_))
  refine wz_pop C rfl dJ4_append_15ec4_5 ?_
  refine wz_aload_n C rfl rfl dJ4_append_15ec4_6 ?_
  exact wy_aret C (Or.inl ⟨_, rfl⟩) dJ4_append_15ec4_7 ⟨_, rfl, h⟩
def rm_J4_append_cf468 : Room := { frames := 5, cells := 1, slots := 2000, locals := 145 }
set_option maxHeartbeats 4000000 in
set_option maxRecDepth 100000 in
theorem k_J4_append_cf468 (G : KG) (hG : Kok G) (hW : KWx G)  (k0 : Nat) (l1 : Int) (I : Ii) (J : Jj) (Q : Nat → Ii → Jj → Prop) (h : wp_J4_append_cf468 k0 l1 I J Q) : Ctr G yJ4_append_cf468 wsJ4_append_cf468 rm_J4_append_cf468 [.ref (kadr G k0), .int (iZ l1)] (I, J) (QsK G Q) := by
  unfold wp_J4_append_cf468 at h
  refine Ctr.ofZ (cc := cJ4_append_cf468) (nL := 2) (ret := (some (.object "java/lang/StringBuilder"))) [some (.ref (kadr G k0)), some (.int (iZ l1))] hG (by decide +kernel) rfl (Nat.le_of_ble_eq_true rfl) (Nat.le_of_ble_eq_true rfl) (by simp [lvA, lv_args, Value.category]) ?_
  intro X hX C
  refine (?_ : Wz G X 2 (QsU G X (QsK G Q)) 1 2000 0 [some (.ref (kadr G k0)), some (.int (iZ l1))] [] I J)
  refine wz_aload_n C rfl rfl dJ4_append_cf468_0 ?_
  refine wz_iload_n C rfl rfl dJ4_append_cf468_1 ?_
  obtain ⟨g2, h⟩ := h
  refine Wz.know (fun hs9 hl9 => ?_)
  refine wm_callSU C (S := (I, J)) (o := k0) (As := [.int (iZ l1)]) (st := []) (a' := 0) (b' := 0) (sK6 hs9 hl9 g2) rfl (k_J5_append_3fe6f G hG hW k0 l1 I J _ h) 1 gJ4_append_cf468_J5_append_3fe6f_s50 rfl (by decide +kernel) (by rw [hX]; exact ⟨Nat.le_of_ble_eq_true rfl, Nat.le_of_ble_eq_true rfl⟩) rfl (Nat.le_of_ble_eq_true rfl) (by show 1 + (0) = 1; omega) (by show 2000 + (0) = 2000; omega) rfl dJ4_append_cf468_2 (kk_sK (fun v1 I1 J1 h => ?_))
  refine wz_pop C rfl dJ4_append_cf468_5 ?_
  refine wz_aload_n C rfl rfl dJ4_append_cf468_6 ?_
  exact wy_aret C (Or.inl ⟨_, rfl⟩) dJ4_append_cf468_7 ⟨_, rfl, h⟩
def rm_J4_append_bf812 : Room := { frames := 5, cells := 1, slots := 2000, locals := 147 }
set_option maxHeartbeats 4000000 in
set_option maxRecDepth 100000 in
theorem k_J4_append_bf812 (G : KG) (hG : Kok G) (hW : KWx G)  (k0 : Nat) (l1 : Int) (I : Ii) (J : Jj) (Q : Nat → Ii → Jj → Prop) (h : wp_J4_append_bf812 k0 l1 I J Q) : Ctr G yJ4_append_bf812 wsJ4_append_bf812 rm_J4_append_bf812 [.ref (kadr G k0), .int (iZ l1)] (I, J) (QsK G Q) := by
  unfold wp_J4_append_bf812 at h
  refine Ctr.ofZ (cc := cJ4_append_bf812) (nL := 2) (ret := (some (.object "java/lang/StringBuilder"))) [some (.ref (kadr G k0)), some (.int (iZ l1))] hG (by decide +kernel) rfl (Nat.le_of_ble_eq_true rfl) (Nat.le_of_ble_eq_true rfl) (by simp [lvA, lv_args, Value.category]) ?_
  intro X hX C
  refine (?_ : Wz G X 2 (QsU G X (QsK G Q)) 1 2000 0 [some (.ref (kadr G k0)), some (.int (iZ l1))] [] I J)
  refine wz_aload_n C rfl rfl dJ4_append_bf812_0 ?_
  refine wz_iload_n C rfl rfl dJ4_append_bf812_1 ?_
  obtain ⟨g2, h⟩ := h
  refine Wz.know (fun hs9 hl9 => ?_)
  refine wm_callSU C (S := (I, J)) (o := k0) (As := [.int (iZ l1)]) (st := []) (a' := 0) (b' := 0) (sK6 hs9 hl9 g2) rfl (k_J5_append_c97b9 G hG hW k0 l1 I J _ h) 1 gJ4_append_bf812_J5_append_c97b9_s53 rfl (by decide +kernel) (by rw [hX]; exact ⟨Nat.le_of_ble_eq_true rfl, Nat.le_of_ble_eq_true rfl⟩) rfl (Nat.le_of_ble_eq_true rfl) (by show 1 + (0) = 1; omega) (by show 2000 + (0) = 2000; omega) rfl dJ4_append_bf812_2 (kk_sK (fun v1 I1 J1 h => ?_))
  refine wz_pop C rfl dJ4_append_bf812_5 ?_
  refine wz_aload_n C rfl rfl dJ4_append_bf812_6 ?_
  exact wy_aret C (Or.inl ⟨_, rfl⟩) dJ4_append_bf812_7 ⟨_, rfl, h⟩
def rm_J4_length_8abf5 : Room := { frames := 1, cells := 0, slots := 0, locals := 20 }
set_option maxHeartbeats 4000000 in
set_option maxRecDepth 100000 in
theorem k_J4_length_8abf5 (G : KG) (hG : Kok G) (hW : KWx G)  (k0 : Nat) (I : Ii) (J : Jj) (Q : Int → Ii → Jj → Prop) (h : wp_J4_length_8abf5 k0 I J Q) : Ctr G yJ4_length_8abf5 wsJ4_length_8abf5 rm_J4_length_8abf5 [.ref (kadr G k0)] (I, J) (QsI Q) := by
  unfold wp_J4_length_8abf5 at h
  refine Ctr.ofZ (cc := cJ4_length_8abf5) (nL := 1) (ret := (some .int)) [some (.ref (kadr G k0))] hG (by decide +kernel) rfl (Nat.le_of_ble_eq_true rfl) (Nat.le_of_ble_eq_true rfl) (by simp [lvA, lv_args, Value.category]) ?_
  intro X hX C
  refine (?_ : Wz G X 1 (QsU G X (QsI Q)) 0 0 0 [some (.ref (kadr G k0))] [] I J)
  refine wz_aload_n C rfl rfl dJ4_length_8abf5_0 ?_
  obtain ⟨g2, h⟩ := h
  refine Wz.know (fun hs9 hl9 => ?_)
  refine wm_callSU C (S := (I, J)) (o := k0) (As := []) (st := []) (a' := 0) (b' := 0) (sK6 hs9 hl9 g2) rfl (k_J5_length_8abf5 G hG hW k0 I J _ h) 0 gJ4_length_8abf5_J5_length_8abf5_s343 rfl (by decide +kernel) (by rw [hX]; exact ⟨Nat.le_of_ble_eq_true rfl, Nat.le_of_ble_eq_true rfl⟩) rfl (Nat.le_of_ble_eq_true rfl) (by show 0 + (0) = 0; omega) (by show 0 + (0) = 0; omega) rfl dJ4_length_8abf5_1 (kk_sI (fun v1 I1 J1 h => ?_))
  exact wz_iret C dJ4_length_8abf5_4 ⟨_, rfl, h⟩
theorem in_J0_init_db425_J0 : ∀ w ∈ wsJ00, w ∈ wsJ0_init_db425 := by decide +kernel
theorem in_J0_init_db425_J4 : ∀ w ∈ wsJ40, w ∈ wsJ0_init_db425 := by decide +kernel
theorem h0_J0_init_db425 : Cond.code ⟨"java/lang/AbstractStringBuilder", "length", "()I"⟩ cJ5_length_8abf5 1 (some .int) ∈ wsJ0_init_db425 := by decide +kernel
theorem f_J0_init_db425_1048 : FLk wsJ0_init_db425 RJ0 1048 1 2 := flk 1 2 rfl tyJ4_ok nmJ4 in_J0_init_db425_J4 (by decide) (by decide +kernel)
theorem f_J0_init_db425_15 : FLk wsJ0_init_db425 RJ0 15 0 1 := flk 0 1 rfl tyJ0_ok nmJ0 in_J0_init_db425_J0 (by decide) (by decide +kernel)
theorem fq_J0_1 : FQk 0 1 RJ0 .byte := fun C9 T9 N9 h => by
  have h : some (RJ0, TJ0, 4) = some (C9, T9, N9) := h
  cases h
  exact ⟨rfl, rfl, by decide +kernel⟩
theorem f_J0_init_db425_9 : FLk wsJ0_init_db425 RJ0 9 0 0 := flk 0 0 rfl tyJ0_ok nmJ0 in_J0_init_db425_J0 (by decide) (by decide +kernel)
theorem fq_J0_0 : FQk 0 0 RJ0 (.array .byte) := fun C9 T9 N9 h => by
  have h : some (RJ0, TJ0, 4) = some (C9, T9, N9) := h
  cases h
  exact ⟨rfl, rfl, by decide +kernel⟩
def rm_J0_init_db425 : Room := { frames := 3, cells := 1, slots := 2000, locals := 126 }
set_option maxHeartbeats 4000000 in
set_option maxRecDepth 100000 in
theorem bk_J0_init_db425_79 (G : KG) (hG : Kok G) (hW : KWx G) (X : KX) (hX : KR X = rm_J0_init_db425) (C : Fr G X cJ0_init_db425 5 yJ0_init_db425.cls none wsJ0_init_db425) (hI : KN X = "<init>") (k0 : Nat) (k1 : Nat) (Q : Ii → Jj → Prop) (p3 : Nat) (l4 : Int) (I : Ii) (J : Jj) (h : B_J0_init_db425_79 k0 k1 Q p3 l4 I J) : Wz G X 5 (QsU G X (QsV Q)) 1 2000 79 [some (.ref (kadr G k0)), none, none, some (.ref (kadr G p3)), some (.int (iZ l4))] [] I J := by
  unfold B_J0_init_db425_79 at h
  refine wz_aload_n C rfl rfl dJ0_init_db425_79 ?_
  refine wz_iconst C dJ0_init_db425_80 ?_
  obtain ⟨g15, h⟩ := h
  refine wy_putS1 C hI f_J0_init_db425_15 fq_J0_1 g15 dJ0_init_db425_81 (fun I14 e => ?_)
  replace h := h I14 e
  refine wz_aload_n C rfl rfl dJ0_init_db425_84 ?_
  refine wz_aload_n C rfl rfl dJ0_init_db425_85 ?_
  refine wz_iconst C dJ0_init_db425_86 ?_
  refine wz_iload C rfl dJ0_init_db425_87 ?_
  refine wz_iconst C dJ0_init_db425_89 ?_
  refine wd_ishl C dJ0_init_db425_90 ?_
  refine wm_callSo C (As := [.ref (kadr G p3), .int (iZ 0), .int (iZ (shlZ l4 1))]) (st := [.ref (kadr G k0)]) (a' := 0) (b' := 0) (k_J7_copyOfRange_39247 G hG hW p3 0 (shlZ l4 1) I14 J _ h) 3 (goodIn_wsS gJ0_init_db425_J7_copyOfRange_39247) (by decide +kernel) (by decide +kernel) (by decide +kernel) rfl (by decide +kernel) (by rw [hX]; exact ⟨Nat.le_of_ble_eq_true rfl, Nat.le_of_ble_eq_true rfl⟩) rfl (Nat.le_of_ble_eq_true rfl) (by show 1 + (0) = 1; omega) (by show 2000 + (0) = 2000; omega) rfl dJ0_init_db425_91 (kk_sK (fun v16 I16 J16 h => ?_))
  obtain ⟨g18, h⟩ := h
  refine wy_putS0 C hI f_J0_init_db425_9 fq_J0_0 g18 dJ0_init_db425_94 (fun I17 e => ?_)
  replace h := h I17 e
  exact wz_vret C dJ0_init_db425_97 ⟨rfl, h⟩
set_option maxHeartbeats 4000000 in
set_option maxRecDepth 100000 in
theorem k_J0_init_db425 (G : KG) (hG : Kok G) (hW : KWx G)  (k0 : Nat) (k1 : Nat) (I : Ii) (J : Jj) (Q : Ii → Jj → Prop) (h : wp_J0_init_db425 k0 k1 I J Q) : Ctr G yJ0_init_db425 wsJ0_init_db425 rm_J0_init_db425 [.ref (kadr G k0), .ref (kadr G k1), .null] (I, J) (QsV Q) := by
  unfold wp_J0_init_db425 at h
  refine Ctr.ofI (cc := cJ0_init_db425) (nL := 5) (ret := none) [some (.ref (kadr G k0)), some (.ref (kadr G k1)), none, none, none] hG (by decide +kernel) rfl rfl (Nat.le_of_ble_eq_true rfl) (Nat.le_of_ble_eq_true rfl) (by simp [lvA, lv_args, Value.category]) ?_
  intro X hX hI C
  refine (?_ : Wz G X 5 (QsU G X (QsV Q)) 1 2000 0 [some (.ref (kadr G k0)), some (.ref (kadr G k1)), none, none, none] [] I J)
  refine wz_aload_n C rfl rfl dJ0_init_db425_0 ?_
  refine wy_obj C (by decide +kernel) (by decide +kernel) (by decide +kernel) (by rw [hX]; exact ⟨Nat.le_of_ble_eq_true rfl, Nat.le_of_ble_eq_true rfl⟩) dJ0_init_db425_1 ?_
  refine wz_aload_n C rfl rfl dJ0_init_db425_4 ?_
  obtain ⟨g2, h⟩ := h
  refine Wz.know (fun hs9 hl9 => ?_)
  refine wm_callU C (S := (I, J)) (o := k1) (As := []) (st := []) (a' := 1) (b' := 2000) (sK6 hs9 hl9 g2) rfl (k_J5_getValue_6d5f1 G hG hW k1 I J _ h) 0 gJ0_init_db425_J5_getValue_6d5f1_u552J4 rfl rfl (by decide +kernel) (by rw [hX]; exact ⟨Nat.le_of_ble_eq_true rfl, Nat.le_of_ble_eq_true rfl⟩) rfl (Nat.le_of_ble_eq_true rfl) (by show 0 + (1) = 1; omega) (by show 0 + (2000) = 2000; omega) rfl dJ0_init_db425_5 (kk_sK (fun v1 I1 J1 h => ?_))
  refine wz_astore_3 C rfl dJ0_init_db425_8 ?_
  refine wz_aload_n C rfl rfl dJ0_init_db425_9 ?_
  obtain ⟨g4, h⟩ := h
  refine Wz.know (fun hs9 hl9 => ?_)
  refine wm_callO C (S := (I1, J1)) (o := k1) (As := []) (st := []) (a' := 1) (b' := 2000) (sK6 hs9 hl9 g4) rfl (k_J4_length_8abf5 G hG hW k1 I1 J1 _ h) 0 gJ0_init_db425_J4_length_8abf5_u549J4 rfl h0_J0_init_db425 (by decide +kernel) (by rw [hX]; exact ⟨Nat.le_of_ble_eq_true rfl, Nat.le_of_ble_eq_true rfl⟩) rfl (Nat.le_of_ble_eq_true rfl) (by show 0 + (1) = 1; omega) (by show 0 + (2000) = 2000; omega) rfl dJ0_init_db425_10 (kk_sI (fun v3 I3 J3 h => ?_))
  refine wz_istore_4 C rfl dJ0_init_db425_13 ?_
  refine wz_aload_n C rfl rfl dJ0_init_db425_15 ?_
  obtain ⟨g6, h⟩ := h
  refine Wz.know (fun hs9 hl9 => ?_)
  refine wm_callU C (S := (I3, J3)) (o := k1) (As := []) (st := []) (a' := 1) (b' := 2000) (sK6 hs9 hl9 g6) rfl (k_J5_isLatin1_aae02 G hG hW k1 I3 J3 _ h) 0 gJ0_init_db425_J5_isLatin1_aae02_u1047J4 rfl rfl (by decide +kernel) (by rw [hX]; exact ⟨Nat.le_of_ble_eq_true rfl, Nat.le_of_ble_eq_true rfl⟩) rfl (Nat.le_of_ble_eq_true rfl) (by show 0 + (1) = 1; omega) (by show 0 + (2000) = 2000; omega) rfl dJ0_init_db425_16 (kk_sB (fun v5 I5 J5 hb5 h => ?_))
  refine wz_if_eq C (tgt := 41) (rgB hb5) dJ0_init_db425_19 (by decide) (fun c => ?_) (fun c => ?_)
  · replace h := h.1 c
    refine wy_gets C hW.cs (by decide +kernel) dJ0_init_db425_41 ?_
    refine wz_if_eq C (tgt := 79) (by decide) dJ0_init_db425_44 (by decide) (fun z => absurd z (by decide)) (fun _ => ?_)
    refine wz_aload_n C rfl rfl dJ0_init_db425_47 ?_
    obtain ⟨g7, h⟩ := h
    refine wy_getB2 C f_J0_init_db425_1048 g7 dJ0_init_db425_48 ?_
    obtain ⟨g8, h⟩ := h
    refine wz_if_eq C (tgt := 79) g8 dJ0_init_db425_51 (by decide) (fun c => ?_) (fun c => ?_)
    · replace h := h.1 c
      exact Wz.less (a0 := 1) (b0 := 2000) (by omega) (by omega) (Wz.drop (bk_J0_init_db425_79 G hG hW X hX C hI k0 k1 Q v1 v3 I5 J5 h) (And.intro rfl (And.intro rfl (And.intro rfl trivial))))
    · replace h := h.2 c
      refine wz_aload_n C rfl rfl dJ0_init_db425_54 ?_
      refine wz_aload_n C rfl rfl dJ0_init_db425_55 ?_
      refine wz_iconst C dJ0_init_db425_56 ?_
      refine wz_iload C rfl dJ0_init_db425_57 ?_
      exact False.elim h
  · replace h := h.2 c
    refine wz_aload_n C rfl rfl dJ0_init_db425_22 ?_
    refine wz_iconst C dJ0_init_db425_23 ?_
    obtain ⟨g10, h⟩ := h
    refine wy_putS1 C hI f_J0_init_db425_15 fq_J0_1 g10 dJ0_init_db425_24 (fun I9 e => ?_)
    replace h := h I9 e
    refine wz_aload_n C rfl rfl dJ0_init_db425_27 ?_
    refine wz_aload_n C rfl rfl dJ0_init_db425_28 ?_
    refine wz_iconst C dJ0_init_db425_29 ?_
    refine wz_iload C rfl dJ0_init_db425_30 ?_
    refine wm_callSo C (As := [.ref (kadr G v1), .int (iZ 0), .int (iZ v3)]) (st := [.ref (kadr G k0)]) (a' := 0) (b' := 0) (k_J7_copyOfRange_39247 G hG hW v1 0 v3 I9 J5 _ h) 3 (goodIn_wsS gJ0_init_db425_J7_copyOfRange_39247) (by decide +kernel) (by decide +kernel) (by decide +kernel) rfl (by decide +kernel) (by rw [hX]; exact ⟨Nat.le_of_ble_eq_true rfl, Nat.le_of_ble_eq_true rfl⟩) rfl (Nat.le_of_ble_eq_true rfl) (by show 1 + (0) = 1; omega) (by show 2000 + (0) = 2000; omega) rfl dJ0_init_db425_32 (kk_sK (fun v11 I11 J11 h => ?_))
    obtain ⟨g13, h⟩ := h
    refine wy_putS0 C hI f_J0_init_db425_9 fq_J0_0 g13 dJ0_init_db425_35 (fun I12 e => ?_)
    replace h := h I12 e
    refine wz_goto C dJ0_init_db425_38 (tgt := 97) (by decide) ?_
    exact wz_vret C dJ0_init_db425_97 ⟨rfl, h⟩
def rm_J0_init_81219 : Room := { frames := 4, cells := 1, slots := 2000, locals := 150 }
set_option maxHeartbeats 4000000 in
set_option maxRecDepth 100000 in
theorem k_J0_init_81219 (G : KG) (hG : Kok G) (hW : KWx G)  (k0 : Nat) (k1 : Nat) (I : Ii) (J : Jj) (Q : Ii → Jj → Prop) (h : wp_J0_init_81219 k0 k1 I J Q) : Ctr G yJ0_init_81219 wsJ0_init_81219 rm_J0_init_81219 [.ref (kadr G k0), .ref (kadr G k1)] (I, J) (QsV Q) := by
  unfold wp_J0_init_81219 at h
  refine Ctr.ofI (cc := cJ0_init_81219) (nL := 2) (ret := none) [some (.ref (kadr G k0)), some (.ref (kadr G k1))] hG (by decide +kernel) rfl rfl (Nat.le_of_ble_eq_true rfl) (Nat.le_of_ble_eq_true rfl) (by simp [lvA, lv_args, Value.category]) ?_
  intro X hX hI C
  refine (?_ : Wz G X 2 (QsU G X (QsV Q)) 1 2000 0 [some (.ref (kadr G k0)), some (.ref (kadr G k1))] [] I J)
  refine wz_aload_n C rfl rfl dJ0_init_81219_0 ?_
  refine wz_aload_n C rfl rfl dJ0_init_81219_1 ?_
  refine wy_null C dJ0_init_81219_2 ?_
  refine wm_callI C (q := kadr G k0) (As := [.ref (kadr G k1), .null]) (st := []) (a' := 0) (b' := 0) (k_J0_init_db425 G hG hW k0 k1 I J _ h) 2 gJ0_init_81219_J0_init_db425 (by decide +kernel) (by decide +kernel) (by decide +kernel) rfl rfl (by decide +kernel) (by rw [hX]; exact ⟨Nat.le_of_ble_eq_true rfl, Nat.le_of_ble_eq_true rfl⟩) rfl (Nat.le_of_ble_eq_true rfl) (by show 1 + (0) = 1; omega) (by show 2000 + (0) = 2000; omega) rfl dJ0_init_81219_3 (kk_sV (fun I1 J1 h => ?_))
  exact wz_vret C dJ0_init_81219_6 ⟨rfl, h⟩
theorem in_J4_toString_0e30d_J0 : ∀ w ∈ wsJ00, w ∈ wsJ4_toString_0e30d := by decide +kernel
def rm_J4_toString_0e30d : Room := { frames := 5, cells := 2, slots := 2004, locals := 171 }
set_option maxHeartbeats 4000000 in
set_option maxRecDepth 100000 in
theorem k_J4_toString_0e30d (G : KG) (hG : Kok G) (hW : KWx G)  (k0 : Nat) (I : Ii) (J : Jj) (Q : Nat → Ii → Jj → Prop) (h : wp_J4_toString_0e30d k0 I J Q) : Ctr G yJ4_toString_0e30d wsJ4_toString_0e30d rm_J4_toString_0e30d [.ref (kadr G k0)] (I, J) (QsK G Q) := by
  unfold wp_J4_toString_0e30d at h
  refine Ctr.ofZ (cc := cJ4_toString_0e30d) (nL := 1) (ret := (some (.object "java/lang/String"))) [some (.ref (kadr G k0))] hG (by decide +kernel) rfl (Nat.le_of_ble_eq_true rfl) (Nat.le_of_ble_eq_true rfl) (by simp [lvA, lv_args, Value.category]) ?_
  intro X hX C
  refine (?_ : Wz G X 1 (QsU G X (QsK G Q)) 2 2004 0 [some (.ref (kadr G k0))] [] I J)
  obtain ⟨g1, h⟩ := h
  refine wy_newC C (t := 5) (ci := 0) (Or.inl ⟨rfl, rfl⟩) tyJ0 rfl in_J4_toString_0e30d_J0 tyJ0_ok (by decide +kernel) (by decide +kernel) (by decide +kernel) dfJ0 g1 dJ4_toString_0e30d_0 (a' := 1) (b' := 2000) (by omega) (by omega) (fun I2 e => ?_)
  replace h := h I2 e
  replace h := h _ rfl
  refine wz_dup C rfl dJ4_toString_0e30d_3 ?_
  refine wz_aload_n C rfl rfl dJ4_toString_0e30d_4 ?_
  refine wm_callI C (q := kadr G ((I 999 0).toNat)) (As := [.ref (kadr G k0)]) (st := [.ref (kadr G ((I 999 0).toNat))]) (a' := 0) (b' := 0) (k_J0_init_81219 G hG hW ((I 999 0).toNat) k0 I2 J _ h) 1 gJ4_toString_0e30d_J0_init_81219 (by decide +kernel) (by decide +kernel) (by decide +kernel) rfl rfl (by decide +kernel) (by rw [hX]; exact ⟨Nat.le_of_ble_eq_true rfl, Nat.le_of_ble_eq_true rfl⟩) rfl (Nat.le_of_ble_eq_true rfl) (by show 1 + (0) = 1; omega) (by show 2000 + (0) = 2000; omega) rfl dJ4_toString_0e30d_5 (kk_sV (fun I4 J4 h => ?_))
  exact wy_aret C (Or.inl ⟨_, rfl⟩) dJ4_toString_0e30d_8 ⟨_, rfl, h⟩
theorem in_Jx4a65c_size_8abf5_Jx4a65c : ∀ w ∈ wsJx4a65c0, w ∈ wsJx4a65c_size_8abf5 := by decide +kernel
theorem f_Jx4a65c_size_8abf5_48 : FLk wsJx4a65c_size_8abf5 RJx4a65c 48 2 2 := flk 2 2 rfl tyJx4a65c_ok nmJx4a65c in_Jx4a65c_size_8abf5_Jx4a65c (by decide) (by decide +kernel)
def rm_Jx4a65c_size_8abf5 : Room := { frames := 0, cells := 0, slots := 0, locals := 0 }
set_option maxHeartbeats 4000000 in
set_option maxRecDepth 100000 in
theorem k_Jx4a65c_size_8abf5 (G : KG) (hG : Kok G) (hW : KWx G)  (k0 : Nat) (I : Ii) (J : Jj) (hk0 : isAL k0) (Q : Int → Ii → Jj → Prop) (h : wp_Jx4a65c_size_8abf5 k0 I J Q) : Ctr G yJx4a65c_size_8abf5 wsJx4a65c_size_8abf5 rm_Jx4a65c_size_8abf5 [.ref (kadr G k0)] (I, J) (QsI Q) := by
  unfold wp_Jx4a65c_size_8abf5 at h
  refine Ctr.ofZ (cc := cJx4a65c_size_8abf5) (nL := 1) (ret := (some .int)) [some (.ref (kadr G k0))] hG (by decide +kernel) rfl (Nat.le_of_ble_eq_true rfl) (Nat.le_of_ble_eq_true rfl) (by simp [lvA, lv_args, Value.category]) ?_
  intro X hX C
  refine (?_ : Wz G X 1 (QsU G X (QsI Q)) 0 0 0 [some (.ref (kadr G k0))] [] I J)
  refine wz_aload_n C rfl rfl dJx4a65c_size_8abf5_0 ?_
  refine wz_getI C rfl f_Jx4a65c_size_8abf5_48 (sAL_2 hk0) dJx4a65c_size_8abf5_1 ?_
  exact wz_iret C dJx4a65c_size_8abf5_4 ⟨_, rfl, h⟩
theorem in_Jx4a65c_elementData_915e3_Jx4a65c : ∀ w ∈ wsJx4a65c0, w ∈ wsJx4a65c_elementData_915e3 := by decide +kernel
theorem f_Jx4a65c_elementData_915e3_9 : FLk wsJx4a65c_elementData_915e3 RJx4a65c 9 2 1 := flk 2 1 rfl tyJx4a65c_ok nmJx4a65c in_Jx4a65c_elementData_915e3_Jx4a65c (by decide) (by decide +kernel)
def rm_Jx4a65c_elementData_915e3 : Room := { frames := 0, cells := 0, slots := 0, locals := 0 }
set_option maxHeartbeats 4000000 in
set_option maxRecDepth 100000 in
theorem k_Jx4a65c_elementData_915e3 (G : KG) (hG : Kok G) (hW : KWx G)  (k0 : Nat) (l1 : Int) (I : Ii) (J : Jj) (hk0 : isAL k0) (Q : Nat → Ii → Jj → Prop) (h : wp_Jx4a65c_elementData_915e3 k0 l1 I J Q) : Ctr G yJx4a65c_elementData_915e3 wsJx4a65c_elementData_915e3 rm_Jx4a65c_elementData_915e3 [.ref (kadr G k0), .int (iZ l1)] (I, J) (QsK G Q) := by
  unfold wp_Jx4a65c_elementData_915e3 at h
  refine Ctr.ofZ (cc := cJx4a65c_elementData_915e3) (nL := 2) (ret := (some (.object "java/lang/Object"))) [some (.ref (kadr G k0)), some (.int (iZ l1))] hG (by decide +kernel) rfl (Nat.le_of_ble_eq_true rfl) (Nat.le_of_ble_eq_true rfl) (by simp [lvA, lv_args, Value.category]) ?_
  intro X hX C
  refine (?_ : Wz G X 2 (QsU G X (QsK G Q)) 0 0 0 [some (.ref (kadr G k0)), some (.int (iZ l1))] [] I J)
  refine wz_aload_n C rfl rfl dJx4a65c_elementData_915e3_0 ?_
  obtain ⟨g1, h⟩ := h
  refine wy_getM C f_Jx4a65c_elementData_915e3_9 (sAL_1 hk0) g1 dJx4a65c_elementData_915e3_1 ?_
  refine wz_iload_n C rfl rfl dJx4a65c_elementData_915e3_4 ?_
  obtain ⟨g2, h⟩ := h
  refine wy_aald3 C g2 dJx4a65c_elementData_915e3_5 ?_
  exact wy_aret C (Or.inl ⟨_, rfl⟩) dJx4a65c_elementData_915e3_6 ⟨_, rfl, h⟩
