theorem in_J0_coder_7d493_J0 : ∀ w ∈ wsJ00, w ∈ wsJ0_coder_7d493 := by decide +kernel
theorem f_J0_coder_7d493_15 : FLk wsJ0_coder_7d493 RJ0 15 0 1 := flk 0 1 rfl tyJ0_ok nmJ0 in_J0_coder_7d493_J0 (by decide) (by decide +kernel)
def rm_J0_coder_7d493 : Room := { frames := 0, cells := 0, slots := 0, locals := 0 }
set_option maxHeartbeats 4000000 in
set_option maxRecDepth 100000 in
theorem k_J0_coder_7d493 (G : KG) (hG : Kok G) (hW : KWx G)  (k0 : Nat) (I : Ii) (J : Jj) (Q : Int → Ii → Jj → Prop) (h : wp_J0_coder_7d493 k0 I J Q) : Ctr G yJ0_coder_7d493 wsJ0_coder_7d493 rm_J0_coder_7d493 [.ref (kadr G k0)] (I, J) (QsI Q) := by
  unfold wp_J0_coder_7d493 at h
  refine Ctr.ofZ (cc := cJ0_coder_7d493) (nL := 1) (ret := (some .byte)) [some (.ref (kadr G k0))] hG (by decide +kernel) rfl (Nat.le_of_ble_eq_true rfl) (Nat.le_of_ble_eq_true rfl) (by simp [lvA, lv_args, Value.category]) ?_
  intro X hX C
  refine (?_ : Wz G X 1 (QsU G X (QsI Q)) 0 0 0 [some (.ref (kadr G k0))] [] I J)
  refine wy_gets C hW.cs (by decide +kernel) dJ0_coder_7d493_0 ?_
  refine wz_if_eq C (tgt := 13) (by decide) dJ0_coder_7d493_3 (by decide) (fun z => absurd z (by decide)) (fun _ => ?_)
  refine wz_aload_n C rfl rfl dJ0_coder_7d493_6 ?_
  obtain ⟨g1, h⟩ := h
  refine wy_getSC C hW f_J0_coder_7d493_15 (by decide +kernel) g1 dJ0_coder_7d493_7 ?_
  refine wz_goto C dJ0_coder_7d493_10 (tgt := 14) (by decide) ?_
  exact wy_nret C (by decide) h.1 dJ0_coder_7d493_14 ⟨_, rfl, h.2⟩
theorem in_J0_isLatin1_aae02_J0 : ∀ w ∈ wsJ00, w ∈ wsJ0_isLatin1_aae02 := by decide +kernel
theorem f_J0_isLatin1_aae02_15 : FLk wsJ0_isLatin1_aae02 RJ0 15 0 1 := flk 0 1 rfl tyJ0_ok nmJ0 in_J0_isLatin1_aae02_J0 (by decide) (by decide +kernel)
def rm_J0_isLatin1_aae02 : Room := { frames := 0, cells := 0, slots := 0, locals := 0 }
set_option maxHeartbeats 4000000 in
set_option maxRecDepth 100000 in
theorem k_J0_isLatin1_aae02 (G : KG) (hG : Kok G) (hW : KWx G)  (k0 : Nat) (I : Ii) (J : Jj) (Q : Int → Ii → Jj → Prop) (h : wp_J0_isLatin1_aae02 k0 I J Q) : Ctr G yJ0_isLatin1_aae02 wsJ0_isLatin1_aae02 rm_J0_isLatin1_aae02 [.ref (kadr G k0)] (I, J) (QsB Q) := by
  unfold wp_J0_isLatin1_aae02 at h
  refine Ctr.ofZ (cc := cJ0_isLatin1_aae02) (nL := 1) (ret := (some .boolean)) [some (.ref (kadr G k0))] hG (by decide +kernel) rfl (Nat.le_of_ble_eq_true rfl) (Nat.le_of_ble_eq_true rfl) (by simp [lvA, lv_args, Value.category]) ?_
  intro X hX C
  refine (?_ : Wz G X 1 (QsU G X (QsB Q)) 0 0 0 [some (.ref (kadr G k0))] [] I J)
  refine wy_gets C hW.cs (by decide +kernel) dJ0_isLatin1_aae02_0 ?_
  refine wz_if_eq C (tgt := 17) (by decide) dJ0_isLatin1_aae02_3 (by decide) (fun z => absurd z (by decide)) (fun _ => ?_)
  refine wz_aload_n C rfl rfl dJ0_isLatin1_aae02_6 ?_
  obtain ⟨g1, h⟩ := h
  refine wy_getSC C hW f_J0_isLatin1_aae02_15 (by decide +kernel) g1 dJ0_isLatin1_aae02_7 ?_
  obtain ⟨g2, h⟩ := h
  refine wz_if_ne C (tgt := 17) g2 dJ0_isLatin1_aae02_10 (by decide) (fun c => ?_) (fun c => ?_)
  · replace h := h.1 c
    refine wz_iconst C dJ0_isLatin1_aae02_17 ?_
    exact wz_zret C (Or.inl rfl) dJ0_isLatin1_aae02_18 ⟨_, rfl, (Or.inl rfl), h⟩
  · replace h := h.2 c
    refine wz_iconst C dJ0_isLatin1_aae02_13 ?_
    refine wz_goto C dJ0_isLatin1_aae02_14 (tgt := 18) (by decide) ?_
    exact wz_zret C (Or.inr rfl) dJ0_isLatin1_aae02_18 ⟨_, rfl, (Or.inr rfl), h⟩
theorem in_J0_length_8abf5_J0 : ∀ w ∈ wsJ00, w ∈ wsJ0_length_8abf5 := by decide +kernel
theorem f_J0_length_8abf5_9 : FLk wsJ0_length_8abf5 RJ0 9 0 0 := flk 0 0 rfl tyJ0_ok nmJ0 in_J0_length_8abf5_J0 (by decide) (by decide +kernel)
def rm_J0_length_8abf5 : Room := { frames := 1, cells := 0, slots := 0, locals := 20 }
set_option maxHeartbeats 4000000 in
set_option maxRecDepth 100000 in
theorem k_J0_length_8abf5 (G : KG) (hG : Kok G) (hW : KWx G)  (k0 : Nat) (I : Ii) (J : Jj) (Q : Int → Ii → Jj → Prop) (h : wp_J0_length_8abf5 k0 I J Q) : Ctr G yJ0_length_8abf5 wsJ0_length_8abf5 rm_J0_length_8abf5 [.ref (kadr G k0)] (I, J) (QsI Q) := by
  unfold wp_J0_length_8abf5 at h
  refine Ctr.ofZ (cc := cJ0_length_8abf5) (nL := 1) (ret := (some .int)) [some (.ref (kadr G k0))] hG (by decide +kernel) rfl (Nat.le_of_ble_eq_true rfl) (Nat.le_of_ble_eq_true rfl) (by simp [lvA, lv_args, Value.category]) ?_
  intro X hX C
  refine (?_ : Wz G X 1 (QsU G X (QsI Q)) 0 0 0 [some (.ref (kadr G k0))] [] I J)
  refine wz_aload_n C rfl rfl dJ0_length_8abf5_0 ?_
  obtain ⟨g1, h⟩ := h
  refine wy_getSV C hW f_J0_length_8abf5_9 (by decide +kernel) g1 dJ0_length_8abf5_1 ?_
  obtain ⟨g2, h⟩ := h
  refine wy_alen2 C hW g2 dJ0_length_8abf5_4 ?_
  refine wz_aload_n C rfl rfl dJ0_length_8abf5_5 ?_
  obtain ⟨g4, h⟩ := h
  refine wy_callT C hW (o := k0) (As := []) (st := [.int (iZ (dL I ((I k0 0).toNat)))]) (a' := 0) (b' := 0) g4 (k_J0_coder_7d493 G hG hW k0 I J _ h) 0 gJ0_length_8abf5_J0_coder_7d493 rfl (by decide +kernel) (by rw [hX]; exact ⟨Nat.le_of_ble_eq_true rfl, Nat.le_of_ble_eq_true rfl⟩) rfl (Nat.le_of_ble_eq_true rfl) (by show 0 + (0) = 0; omega) (by show 0 + (0) = 0; omega) rfl dJ0_length_8abf5_6 (kk_sI (fun v3 I3 J3 h => ?_))
  refine wd_ishr C dJ0_length_8abf5_9 ?_
  exact wz_iret C dJ0_length_8abf5_10 ⟨_, rfl, h⟩
theorem in_J0_isEmpty_aae02_J0 : ∀ w ∈ wsJ00, w ∈ wsJ0_isEmpty_aae02 := by decide +kernel
theorem f_J0_isEmpty_aae02_9 : FLk wsJ0_isEmpty_aae02 RJ0 9 0 0 := flk 0 0 rfl tyJ0_ok nmJ0 in_J0_isEmpty_aae02_J0 (by decide) (by decide +kernel)
def rm_J0_isEmpty_aae02 : Room := { frames := 0, cells := 0, slots := 0, locals := 0 }
set_option maxHeartbeats 4000000 in
set_option maxRecDepth 100000 in
theorem k_J0_isEmpty_aae02 (G : KG) (hG : Kok G) (hW : KWx G)  (k0 : Nat) (I : Ii) (J : Jj) (Q : Int → Ii → Jj → Prop) (h : wp_J0_isEmpty_aae02 k0 I J Q) : Ctr G yJ0_isEmpty_aae02 wsJ0_isEmpty_aae02 rm_J0_isEmpty_aae02 [.ref (kadr G k0)] (I, J) (QsB Q) := by
  unfold wp_J0_isEmpty_aae02 at h
  refine Ctr.ofZ (cc := cJ0_isEmpty_aae02) (nL := 1) (ret := (some .boolean)) [some (.ref (kadr G k0))] hG (by decide +kernel) rfl (Nat.le_of_ble_eq_true rfl) (Nat.le_of_ble_eq_true rfl) (by simp [lvA, lv_args, Value.category]) ?_
  intro X hX C
  refine (?_ : Wz G X 1 (QsU G X (QsB Q)) 0 0 0 [some (.ref (kadr G k0))] [] I J)
  refine wz_aload_n C rfl rfl dJ0_isEmpty_aae02_0 ?_
  obtain ⟨g1, h⟩ := h
  refine wy_getSV C hW f_J0_isEmpty_aae02_9 (by decide +kernel) g1 dJ0_isEmpty_aae02_1 ?_
  obtain ⟨g2, h⟩ := h
  refine wy_alen2 C hW g2 dJ0_isEmpty_aae02_4 ?_
  obtain ⟨g3, h⟩ := h
  refine wz_if_ne C (tgt := 12) g3 dJ0_isEmpty_aae02_5 (by decide) (fun c => ?_) (fun c => ?_)
  · replace h := h.1 c
    refine wz_iconst C dJ0_isEmpty_aae02_12 ?_
    exact wz_zret C (Or.inl rfl) dJ0_isEmpty_aae02_13 ⟨_, rfl, (Or.inl rfl), h⟩
  · replace h := h.2 c
    refine wz_iconst C dJ0_isEmpty_aae02_8 ?_
    refine wz_goto C dJ0_isEmpty_aae02_9 (tgt := 13) (by decide) ?_
    exact wz_zret C (Or.inr rfl) dJ0_isEmpty_aae02_13 ⟨_, rfl, (Or.inr rfl), h⟩
def rm_J1_charAt_3b067 : Room := { frames := 2, cells := 0, slots := 0, locals := 51 }
set_option maxHeartbeats 4000000 in
set_option maxRecDepth 100000 in
theorem k_J1_charAt_3b067 (G : KG) (hG : Kok G) (hW : KWx G)  (k0 : Nat) (l1 : Int) (I : Ii) (J : Jj) (Q : Int → Ii → Jj → Prop) (h : wp_J1_charAt_3b067 k0 l1 I J Q) : Ctr G yJ1_charAt_3b067 wsJ1_charAt_3b067 rm_J1_charAt_3b067 [.ref (kadr G k0), .int (iZ l1)] (I, J) (QsI Q) := by
  unfold wp_J1_charAt_3b067 at h
  refine Ctr.ofZ (cc := cJ1_charAt_3b067) (nL := 2) (ret := (some .char)) [some (.ref (kadr G k0)), some (.int (iZ l1))] hG (by decide +kernel) rfl (Nat.le_of_ble_eq_true rfl) (Nat.le_of_ble_eq_true rfl) (by simp [lvA, lv_args, Value.category]) ?_
  intro X hX C
  refine (?_ : Wz G X 2 (QsU G X (QsI Q)) 0 0 0 [some (.ref (kadr G k0)), some (.int (iZ l1))] [] I J)
  refine wz_iload_n C rfl rfl dJ1_charAt_3b067_0 ?_
  refine wz_aload_n C rfl rfl dJ1_charAt_3b067_1 ?_
  obtain ⟨g1, h⟩ := h
  refine wy_alen2 C hW g1 dJ1_charAt_3b067_2 ?_
  refine wm_callSo C (As := [.int (iZ l1), .int (iZ (dL I k0))]) (st := []) (a' := 0) (b' := 0) (k_J0_checkIndex_df160 G hG hW l1 (dL I k0) I J _ h) 2 (goodIn_wsS gJ1_charAt_3b067_J0_checkIndex_df160) (by decide +kernel) (by decide +kernel) (by decide +kernel) rfl (by decide +kernel) (by rw [hX]; exact ⟨Nat.le_of_ble_eq_true rfl, Nat.le_of_ble_eq_true rfl⟩) rfl (Nat.le_of_ble_eq_true rfl) (by show 0 + (0) = 0; omega) (by show 0 + (0) = 0; omega) rfl dJ1_charAt_3b067_3 (kk_sV (fun I2 J2 h => ?_))
  refine wz_aload_n C rfl rfl dJ1_charAt_3b067_6 ?_
  refine wz_iload_n C rfl rfl dJ1_charAt_3b067_7 ?_
  obtain ⟨g3, h⟩ := h
  refine wy_bald C hW g3.1 g3.2 dJ1_charAt_3b067_8 ?_
  refine wz_sipush C (by decide) dJ1_charAt_3b067_9 ?_
  refine wd_iand C dJ1_charAt_3b067_12 ?_
  refine wy_i2c C dJ1_charAt_3b067_13 ?_
  exact wy_nret C (by decide) h.1 dJ1_charAt_3b067_14 ⟨_, rfl, h.2⟩
theorem in_J0_charAt_5068e_J0 : ∀ w ∈ wsJ00, w ∈ wsJ0_charAt_5068e := by decide +kernel
theorem f_J0_charAt_5068e_9 : FLk wsJ0_charAt_5068e RJ0 9 0 0 := flk 0 0 rfl tyJ0_ok nmJ0 in_J0_charAt_5068e_J0 (by decide) (by decide +kernel)
def rm_J0_charAt_5068e : Room := { frames := 3, cells := 0, slots := 0, locals := 72 }
set_option maxHeartbeats 4000000 in
set_option maxRecDepth 100000 in
theorem k_J0_charAt_5068e (G : KG) (hG : Kok G) (hW : KWx G)  (k0 : Nat) (l1 : Int) (I : Ii) (J : Jj) (Q : Int → Ii → Jj → Prop) (h : wp_J0_charAt_5068e k0 l1 I J Q) : Ctr G yJ0_charAt_5068e wsJ0_charAt_5068e rm_J0_charAt_5068e [.ref (kadr G k0), .int (iZ l1)] (I, J) (QsI Q) := by
  unfold wp_J0_charAt_5068e at h
  refine Ctr.ofZ (cc := cJ0_charAt_5068e) (nL := 2) (ret := (some .char)) [some (.ref (kadr G k0)), some (.int (iZ l1))] hG (by decide +kernel) rfl (Nat.le_of_ble_eq_true rfl) (Nat.le_of_ble_eq_true rfl) (by simp [lvA, lv_args, Value.category]) ?_
  intro X hX C
  refine (?_ : Wz G X 2 (QsU G X (QsI Q)) 0 0 0 [some (.ref (kadr G k0)), some (.int (iZ l1))] [] I J)
  refine wz_aload_n C rfl rfl dJ0_charAt_5068e_0 ?_
  obtain ⟨g2, h⟩ := h
  refine wy_callT C hW (o := k0) (As := []) (st := []) (a' := 0) (b' := 0) g2 (k_J0_isLatin1_aae02 G hG hW k0 I J _ h) 0 gJ0_charAt_5068e_J0_isLatin1_aae02 rfl (by decide +kernel) (by rw [hX]; exact ⟨Nat.le_of_ble_eq_true rfl, Nat.le_of_ble_eq_true rfl⟩) rfl (Nat.le_of_ble_eq_true rfl) (by show 0 + (0) = 0; omega) (by show 0 + (0) = 0; omega) rfl dJ0_charAt_5068e_1 (kk_sB (fun v1 I1 J1 hb1 h => ?_))
  refine wz_if_eq C (tgt := 16) (rgB hb1) dJ0_charAt_5068e_4 (by decide) (fun c => ?_) (fun c => ?_)
  · replace h := h.1 c
    refine wz_aload_n C rfl rfl dJ0_charAt_5068e_16 ?_
    obtain ⟨g3, h⟩ := h
    refine wy_getSV C hW f_J0_charAt_5068e_9 (by decide +kernel) g3 dJ0_charAt_5068e_17 ?_
    refine wz_iload_n C rfl rfl dJ0_charAt_5068e_20 ?_
    exact False.elim h
  · replace h := h.2 c
    refine wz_aload_n C rfl rfl dJ0_charAt_5068e_7 ?_
    obtain ⟨g4, h⟩ := h
    refine wy_getSV C hW f_J0_charAt_5068e_9 (by decide +kernel) g4 dJ0_charAt_5068e_8 ?_
    refine wz_iload_n C rfl rfl dJ0_charAt_5068e_11 ?_
    refine wm_callSo C (As := [.ref (kadr G ((I1 k0 0).toNat)), .int (iZ l1)]) (st := []) (a' := 0) (b' := 0) (k_J1_charAt_3b067 G hG hW ((I1 k0 0).toNat) l1 I1 J1 _ h) 2 (goodIn_wsS gJ0_charAt_5068e_J1_charAt_3b067) (by decide +kernel) (by decide +kernel) (by decide +kernel) rfl (by decide +kernel) (by rw [hX]; exact ⟨Nat.le_of_ble_eq_true rfl, Nat.le_of_ble_eq_true rfl⟩) rfl (Nat.le_of_ble_eq_true rfl) (by show 0 + (0) = 0; omega) (by show 0 + (0) = 0; omega) rfl dJ0_charAt_5068e_12 (kk_sI (fun v5 I5 J5 h => ?_))
    exact wy_nret C (by decide) h.1 dJ0_charAt_5068e_15 ⟨_, rfl, h.2⟩
theorem in_J0_getBytes_840e7_J0 : ∀ w ∈ wsJ00, w ∈ wsJ0_getBytes_840e7 := by decide +kernel
theorem f_J0_getBytes_840e7_9 : FLk wsJ0_getBytes_840e7 RJ0 9 0 0 := flk 0 0 rfl tyJ0_ok nmJ0 in_J0_getBytes_840e7_J0 (by decide) (by decide +kernel)
def rm_J0_getBytes_840e7 : Room := { frames := 1, cells := 0, slots := 0, locals := 80 }
set_option maxHeartbeats 4000000 in
set_option maxRecDepth 100000 in
theorem k_J0_getBytes_840e7 (G : KG) (hG : Kok G) (hW : KWx G)  (k0 : Nat) (k1 : Nat) (l2 : Int) (l3 : Int) (I : Ii) (J : Jj) (Q : Ii → Jj → Prop) (h : wp_J0_getBytes_840e7 k0 k1 l2 l3 I J Q) : Ctr G yJ0_getBytes_840e7 wsJ0_getBytes_840e7 rm_J0_getBytes_840e7 [.ref (kadr G k0), .ref (kadr G k1), .int (iZ l2), .int (iZ l3)] (I, J) (QsV Q) := by
  unfold wp_J0_getBytes_840e7 at h
  refine Ctr.ofZ (cc := cJ0_getBytes_840e7) (nL := 4) (ret := none) [some (.ref (kadr G k0)), some (.ref (kadr G k1)), some (.int (iZ l2)), some (.int (iZ l3))] hG (by decide +kernel) rfl (Nat.le_of_ble_eq_true rfl) (Nat.le_of_ble_eq_true rfl) (by simp [lvA, lv_args, Value.category]) ?_
  intro X hX C
  refine (?_ : Wz G X 4 (QsU G X (QsV Q)) 0 0 0 [some (.ref (kadr G k0)), some (.ref (kadr G k1)), some (.int (iZ l2)), some (.int (iZ l3))] [] I J)
  refine wz_aload_n C rfl rfl dJ0_getBytes_840e7_0 ?_
  obtain ⟨g2, h⟩ := h
  refine wy_callT C hW (o := k0) (As := []) (st := []) (a' := 0) (b' := 0) g2 (k_J0_coder_7d493 G hG hW k0 I J _ h) 0 gJ0_getBytes_840e7_J0_coder_7d493 rfl (by decide +kernel) (by rw [hX]; exact ⟨Nat.le_of_ble_eq_true rfl, Nat.le_of_ble_eq_true rfl⟩) rfl (Nat.le_of_ble_eq_true rfl) (by show 0 + (0) = 0; omega) (by show 0 + (0) = 0; omega) rfl dJ0_getBytes_840e7_1 (kk_sI (fun v1 I1 J1 h => ?_))
  refine wz_iload_n C rfl rfl dJ0_getBytes_840e7_4 ?_
  obtain ⟨g3, h⟩ := h
  obtain ⟨g4, h⟩ := h
  refine wz_icmp_ne C (tgt := 28) g3 g4 dJ0_getBytes_840e7_5 (by decide) (fun c => ?_) (fun c => ?_)
  · replace h := h.1 c
    refine wz_aload_n C rfl rfl dJ0_getBytes_840e7_28 ?_
    obtain ⟨g5, h⟩ := h
    refine wy_getSV C hW f_J0_getBytes_840e7_9 (by decide +kernel) g5 dJ0_getBytes_840e7_29 ?_
    refine wz_iconst C dJ0_getBytes_840e7_32 ?_
    refine wz_aload_n C rfl rfl dJ0_getBytes_840e7_33 ?_
    refine wz_iload_n C rfl rfl dJ0_getBytes_840e7_34 ?_
    refine wz_aload_n C rfl rfl dJ0_getBytes_840e7_35 ?_
    obtain ⟨g6, h⟩ := h
    refine wy_getSV C hW f_J0_getBytes_840e7_9 (by decide +kernel) g6 dJ0_getBytes_840e7_36 ?_
    obtain ⟨g7, h⟩ := h
    refine wy_alen2 C hW g7 dJ0_getBytes_840e7_39 ?_
    exact False.elim h
  · replace h := h.2 c
    refine wz_aload_n C rfl rfl dJ0_getBytes_840e7_8 ?_
    obtain ⟨g8, h⟩ := h
    refine wy_getSV C hW f_J0_getBytes_840e7_9 (by decide +kernel) g8 dJ0_getBytes_840e7_9 ?_
    refine wz_iconst C dJ0_getBytes_840e7_12 ?_
    refine wz_aload_n C rfl rfl dJ0_getBytes_840e7_13 ?_
    refine wz_iload_n C rfl rfl dJ0_getBytes_840e7_14 ?_
    refine wz_iload_n C rfl rfl dJ0_getBytes_840e7_15 ?_
    refine wd_ishl C dJ0_getBytes_840e7_16 ?_
    refine wz_aload_n C rfl rfl dJ0_getBytes_840e7_17 ?_
    obtain ⟨g9, h⟩ := h
    refine wy_getSV C hW f_J0_getBytes_840e7_9 (by decide +kernel) g9 dJ0_getBytes_840e7_18 ?_
    obtain ⟨g10, h⟩ := h
    refine wy_alen2 C hW g10 dJ0_getBytes_840e7_21 ?_
    obtain ⟨g12, h⟩ := h
    refine wy_copyB C hW g12.1 g12.2 (by decide +kernel) (by decide +kernel) (by decide +kernel) (by decide +kernel) (by rw [hX]; exact ⟨Nat.le_of_ble_eq_true rfl, Nat.le_of_ble_eq_true rfl⟩) dJ0_getBytes_840e7_22 (fun I11 e => ?_)
    replace h := h I11 e
    refine wz_goto C dJ0_getBytes_840e7_25 (tgt := 43) (by decide) ?_
    exact wz_vret C dJ0_getBytes_840e7_43 ⟨rfl, h⟩
def rm_J8_newLength_cabcc : Room := { frames := 1, cells := 0, slots := 0, locals := 40 }
set_option maxHeartbeats 4000000 in
set_option maxRecDepth 100000 in
theorem bk_J8_newLength_cabcc_21 (G : KG) (hG : Kok G) (hW : KWx G) (X : KX) (hX : KR X = rm_J8_newLength_cabcc) (C : Fr G X cJ8_newLength_cabcc 4 yJ8_newLength_cabcc.cls (some .int) wsJ8_newLength_cabcc) (l0 : Int) (l1 : Int) (l2 : Int) (Q : Int → Ii → Jj → Prop)  (I : Ii) (J : Jj) (h : B_J8_newLength_cabcc_21 l0 l1 l2 Q  I J) : Wz G X 4 (QsU G X (QsI Q)) 0 0 21 [some (.int (iZ l0)), some (.int (iZ l1)), none, none] [] I J := by
  unfold B_J8_newLength_cabcc_21 at h
  refine wz_iload_n C rfl rfl dJ8_newLength_cabcc_21 ?_
  refine wz_iload_n C rfl rfl dJ8_newLength_cabcc_22 ?_
  exact False.elim h
set_option maxHeartbeats 4000000 in
set_option maxRecDepth 100000 in
theorem k_J8_newLength_cabcc (G : KG) (hG : Kok G) (hW : KWx G)  (l0 : Int) (l1 : Int) (l2 : Int) (I : Ii) (J : Jj) (Q : Int → Ii → Jj → Prop) (h : wp_J8_newLength_cabcc l0 l1 l2 I J Q) : Ctr G yJ8_newLength_cabcc wsJ8_newLength_cabcc rm_J8_newLength_cabcc [.int (iZ l0), .int (iZ l1), .int (iZ l2)] (I, J) (QsI Q) := by
  unfold wp_J8_newLength_cabcc at h
  refine Ctr.ofZ (cc := cJ8_newLength_cabcc) (nL := 4) (ret := (some .int)) [some (.int (iZ l0)), some (.int (iZ l1)), some (.int (iZ l2)), none] hG (by decide +kernel) rfl (Nat.le_of_ble_eq_true rfl) (Nat.le_of_ble_eq_true rfl) (by simp [lvA, lv_args, Value.category]) ?_
  intro X hX C
  refine (?_ : Wz G X 4 (QsU G X (QsI Q)) 0 0 0 [some (.int (iZ l0)), some (.int (iZ l1)), some (.int (iZ l2)), none] [] I J)
  refine wz_iload_n C rfl rfl dJ8_newLength_cabcc_0 ?_
  refine wz_iload_n C rfl rfl dJ8_newLength_cabcc_1 ?_
  refine wz_iload_n C rfl rfl dJ8_newLength_cabcc_2 ?_
  refine wd_max C (st := [.int (iZ l0)]) h (by decide +kernel) (by decide +kernel) (by decide +kernel) (by decide +kernel) (by rw [hX]; exact ⟨Nat.le_of_ble_eq_true rfl, Nat.le_of_ble_eq_true rfl⟩) dJ8_newLength_cabcc_3 (fun v1 I1 J1 h => ?_)
  refine wz_iadd C dJ8_newLength_cabcc_6 ?_
  refine wz_istore_3 C rfl dJ8_newLength_cabcc_7 ?_
  refine wz_iconst C dJ8_newLength_cabcc_8 ?_
  refine wz_iload_n C rfl rfl dJ8_newLength_cabcc_9 ?_
  obtain ⟨g2, h⟩ := h
  refine wz_icmp_ge C (tgt := 21) (by decide) g2 dJ8_newLength_cabcc_10 (by decide) (fun c => ?_) (fun c => ?_)
  · replace h := h.1 c
    exact Wz.less (a0 := 0) (b0 := 0) (by omega) (by omega) (Wz.drop (bk_J8_newLength_cabcc_21 G hG hW X hX C l0 l1 l2 Q I1 J1 h) (And.intro rfl (And.intro rfl trivial)))
  · replace h := h.2 c
    refine wz_iload_n C rfl rfl dJ8_newLength_cabcc_13 ?_
    refine wz_ldc C (n := 2147483639) (v := 2147483639) (by decide) (by decide +kernel) dJ8_newLength_cabcc_14 ?_
    refine wz_icmp_gt C (tgt := 21) g2 (by decide) dJ8_newLength_cabcc_16 (by decide) (fun c => ?_) (fun c => ?_)
    · replace h := h.1 c
      exact Wz.less (a0 := 0) (b0 := 0) (by omega) (by omega) (Wz.drop (bk_J8_newLength_cabcc_21 G hG hW X hX C l0 l1 l2 Q I1 J1 h) (And.intro rfl (And.intro rfl trivial)))
    · replace h := h.2 c
      refine wz_iload_n C rfl rfl dJ8_newLength_cabcc_19 ?_
      exact wz_iret C dJ8_newLength_cabcc_20 ⟨_, rfl, h⟩
def rm_J7_checkLength_df160 : Room := { frames := 0, cells := 0, slots := 0, locals := 0 }
set_option maxHeartbeats 4000000 in
set_option maxRecDepth 100000 in
theorem k_J7_checkLength_df160 (G : KG) (hG : Kok G) (hW : KWx G)  (l0 : Int) (l1 : Int) (I : Ii) (J : Jj) (Q : Ii → Jj → Prop) (h : wp_J7_checkLength_df160 l0 l1 I J Q) : Ctr G yJ7_checkLength_df160 wsJ7_checkLength_df160 rm_J7_checkLength_df160 [.int (iZ l0), .int (iZ l1)] (I, J) (QsV Q) := by
  unfold wp_J7_checkLength_df160 at h
  refine Ctr.ofZ (cc := cJ7_checkLength_df160) (nL := 2) (ret := none) [some (.int (iZ l0)), some (.int (iZ l1))] hG (by decide +kernel) rfl (Nat.le_of_ble_eq_true rfl) (Nat.le_of_ble_eq_true rfl) (by simp [lvA, lv_args, Value.category]) ?_
  intro X hX C
  refine (?_ : Wz G X 2 (QsU G X (QsV Q)) 0 0 0 [some (.int (iZ l0)), some (.int (iZ l1))] [] I J)
  refine wz_iload_n C rfl rfl dJ7_checkLength_df160_0 ?_
  refine wz_iload_n C rfl rfl dJ7_checkLength_df160_1 ?_
  obtain ⟨g1, h⟩ := h
  obtain ⟨g2, h⟩ := h
  refine wz_icmp_ge C (tgt := 37) g1 g2 dJ7_checkLength_df160_2 (by decide) (fun c => ?_) (fun c => ?_)
  · replace h := h.1 c
    exact wz_vret C dJ7_checkLength_df160_37 ⟨rfl, h⟩
  · replace h := h.2 c
    exact False.elim h
def rm_J7_copyOf_9075b : Room := { frames := 1, cells := 1, slots := 2000, locals := 80 }
set_option maxHeartbeats 4000000 in
set_option maxRecDepth 100000 in
theorem k_J7_copyOf_9075b (G : KG) (hG : Kok G) (hW : KWx G)  (k0 : Nat) (l1 : Int) (I : Ii) (J : Jj) (Q : Nat → Ii → Jj → Prop) (h : wp_J7_copyOf_9075b k0 l1 I J Q) : Ctr G yJ7_copyOf_9075b wsJ7_copyOf_9075b rm_J7_copyOf_9075b [.ref (kadr G k0), .int (iZ l1)] (I, J) (QsK G Q) := by
  unfold wp_J7_copyOf_9075b at h
  refine Ctr.ofZ (cc := cJ7_copyOf_9075b) (nL := 3) (ret := (some (.array .byte))) [some (.ref (kadr G k0)), some (.int (iZ l1)), none] hG (by decide +kernel) rfl (Nat.le_of_ble_eq_true rfl) (Nat.le_of_ble_eq_true rfl) (by simp [lvA, lv_args, Value.category]) ?_
  intro X hX C
  refine (?_ : Wz G X 3 (QsU G X (QsK G Q)) 1 2000 0 [some (.ref (kadr G k0)), some (.int (iZ l1)), none] [] I J)
  refine wz_iload_n C rfl rfl dJ7_copyOf_9075b_0 ?_
  refine wz_aload_n C rfl rfl dJ7_copyOf_9075b_1 ?_
  obtain ⟨g1, h⟩ := h
  refine wy_alen2 C hW g1 dJ7_copyOf_9075b_2 ?_
  obtain ⟨g2, h⟩ := h
  obtain ⟨g3, h⟩ := h
  refine wz_icmp_ne C (tgt := 14) g2 g3 dJ7_copyOf_9075b_3 (by decide) (fun c => ?_) (fun c => ?_)
  · replace h := h.1 c
    refine wz_iload_n C rfl rfl dJ7_copyOf_9075b_14 ?_
    obtain ⟨g4, h⟩ := h
    refine wy_newB C 2000 g4 (by decide) (by decide +kernel) dJ7_copyOf_9075b_15 (a' := 0) (b' := 0) (by omega) (by omega) (fun I5 e => ?_)
    replace h := h I5 e
    replace h := h _ rfl
    refine wz_astore_2 C rfl dJ7_copyOf_9075b_17 ?_
    refine wz_aload_n C rfl rfl dJ7_copyOf_9075b_18 ?_
    refine wz_iconst C dJ7_copyOf_9075b_19 ?_
    refine wz_aload_n C rfl rfl dJ7_copyOf_9075b_20 ?_
    refine wz_iconst C dJ7_copyOf_9075b_21 ?_
    refine wz_aload_n C rfl rfl dJ7_copyOf_9075b_22 ?_
    obtain ⟨g7, h⟩ := h
    refine wy_alen2 C hW g7 dJ7_copyOf_9075b_23 ?_
    refine wz_iload_n C rfl rfl dJ7_copyOf_9075b_24 ?_
    refine wd_min C (st := [.int (iZ 0), .ref (kadr G ((I 999 0).toNat)), .int (iZ 0), .ref (kadr G k0)]) h (by decide +kernel) (by decide +kernel) (by decide +kernel) (by decide +kernel) (by rw [hX]; exact ⟨Nat.le_of_ble_eq_true rfl, Nat.le_of_ble_eq_true rfl⟩) dJ7_copyOf_9075b_25 (fun v8 I8 J8 h => ?_)
    obtain ⟨g10, h⟩ := h
    refine wy_copyB C hW g10.1 g10.2 (by decide +kernel) (by decide +kernel) (by decide +kernel) (by decide +kernel) (by rw [hX]; exact ⟨Nat.le_of_ble_eq_true rfl, Nat.le_of_ble_eq_true rfl⟩) dJ7_copyOf_9075b_28 (fun I9 e => ?_)
    replace h := h I9 e
    refine wz_aload_n C rfl rfl dJ7_copyOf_9075b_31 ?_
    exact wy_aret C (Or.inr ⟨_, rfl⟩) dJ7_copyOf_9075b_32 ⟨_, rfl, h⟩
  · replace h := h.2 c
    refine wz_aload_n C rfl rfl dJ7_copyOf_9075b_6 ?_
    obtain ⟨g11, h⟩ := h
    refine wy_cloneB C hW 2000 g11 (by decide +kernel) (by decide +kernel) (by decide +kernel) (by decide +kernel) (by decide +kernel) (by rw [hX]; exact ⟨Nat.le_of_ble_eq_true rfl, Nat.le_of_ble_eq_true rfl⟩) dJ7_copyOf_9075b_7 (a' := 0) (b' := 0) (by omega) (by omega) (fun I12 e => ?_)
    replace h := h I12 e
    replace h := h _ rfl
    obtain ⟨g14, h⟩ := h
    refine wy_castB C g14 (by decide +kernel) dJ7_copyOf_9075b_10 ?_
    exact wy_aret C (Or.inr ⟨_, rfl⟩) dJ7_copyOf_9075b_13 ⟨_, rfl, h⟩
def rm_J7_copyOfRangeByte_39247 : Room := { frames := 1, cells := 1, slots := 2000, locals := 80 }
set_option maxHeartbeats 4000000 in
set_option maxRecDepth 100000 in
theorem k_J7_copyOfRangeByte_39247 (G : KG) (hG : Kok G) (hW : KWx G)  (k0 : Nat) (l1 : Int) (l2 : Int) (I : Ii) (J : Jj) (Q : Nat → Ii → Jj → Prop) (h : wp_J7_copyOfRangeByte_39247 k0 l1 l2 I J Q) : Ctr G yJ7_copyOfRangeByte_39247 wsJ7_copyOfRangeByte_39247 rm_J7_copyOfRangeByte_39247 [.ref (kadr G k0), .int (iZ l1), .int (iZ l2)] (I, J) (QsK G Q) := by
  unfold wp_J7_copyOfRangeByte_39247 at h
  refine Ctr.ofZ (cc := cJ7_copyOfRangeByte_39247) (nL := 5) (ret := (some (.array .byte))) [some (.ref (kadr G k0)), some (.int (iZ l1)), some (.int (iZ l2)), none, none] hG (by decide +kernel) rfl (Nat.le_of_ble_eq_true rfl) (Nat.le_of_ble_eq_true rfl) (by simp [lvA, lv_args, Value.category]) ?_
  intro X hX C
  refine (?_ : Wz G X 5 (QsU G X (QsK G Q)) 1 2000 0 [some (.ref (kadr G k0)), some (.int (iZ l1)), some (.int (iZ l2)), none, none] [] I J)
  refine wz_iload_n C rfl rfl dJ7_copyOfRangeByte_39247_0 ?_
  refine wz_iload_n C rfl rfl dJ7_copyOfRangeByte_39247_1 ?_
  refine wm_callSo C (As := [.int (iZ l1), .int (iZ l2)]) (st := []) (a' := 1) (b' := 2000) (k_J7_checkLength_df160 G hG hW l1 l2 I J _ h) 2 (goodIn_wsS gJ7_copyOfRangeByte_39247_J7_checkLength_df160) (by decide +kernel) (by decide +kernel) (by decide +kernel) rfl (by decide +kernel) (by rw [hX]; exact ⟨Nat.le_of_ble_eq_true rfl, Nat.le_of_ble_eq_true rfl⟩) rfl (Nat.le_of_ble_eq_true rfl) (by show 0 + (1) = 1; omega) (by show 0 + (2000) = 2000; omega) rfl dJ7_copyOfRangeByte_39247_2 (kk_sV (fun I1 J1 h => ?_))
  refine wz_iload_n C rfl rfl dJ7_copyOfRangeByte_39247_5 ?_
  refine wz_iload_n C rfl rfl dJ7_copyOfRangeByte_39247_6 ?_
  refine wz_isub C dJ7_copyOfRangeByte_39247_7 ?_
  refine wz_istore_3 C rfl dJ7_copyOfRangeByte_39247_8 ?_
  refine wz_iload_n C rfl rfl dJ7_copyOfRangeByte_39247_9 ?_
  obtain ⟨g2, h⟩ := h
  refine wy_newB C 2000 g2 (by decide) (by decide +kernel) dJ7_copyOfRangeByte_39247_10 (a' := 0) (b' := 0) (by omega) (by omega) (fun I3 e => ?_)
  replace h := h I3 e
  replace h := h _ rfl
  refine wz_astore_4 C rfl dJ7_copyOfRangeByte_39247_12 ?_
  refine wz_aload_n C rfl rfl dJ7_copyOfRangeByte_39247_14 ?_
  refine wz_iload_n C rfl rfl dJ7_copyOfRangeByte_39247_15 ?_
  refine wz_aload C rfl dJ7_copyOfRangeByte_39247_16 ?_
  refine wz_iconst C dJ7_copyOfRangeByte_39247_18 ?_
  refine wz_aload_n C rfl rfl dJ7_copyOfRangeByte_39247_19 ?_
  obtain ⟨g5, h⟩ := h
  refine wy_alen2 C hW g5 dJ7_copyOfRangeByte_39247_20 ?_
  refine wz_iload_n C rfl rfl dJ7_copyOfRangeByte_39247_21 ?_
  refine wz_isub C dJ7_copyOfRangeByte_39247_22 ?_
  refine wz_iload_n C rfl rfl dJ7_copyOfRangeByte_39247_23 ?_
  refine wd_min C (st := [.int (iZ 0), .ref (kadr G ((I1 999 0).toNat)), .int (iZ l1), .ref (kadr G k0)]) h (by decide +kernel) (by decide +kernel) (by decide +kernel) (by decide +kernel) (by rw [hX]; exact ⟨Nat.le_of_ble_eq_true rfl, Nat.le_of_ble_eq_true rfl⟩) dJ7_copyOfRangeByte_39247_24 (fun v6 I6 J6 h => ?_)
  obtain ⟨g8, h⟩ := h
  refine wy_copyB C hW g8.1 g8.2 (by decide +kernel) (by decide +kernel) (by decide +kernel) (by decide +kernel) (by rw [hX]; exact ⟨Nat.le_of_ble_eq_true rfl, Nat.le_of_ble_eq_true rfl⟩) dJ7_copyOfRangeByte_39247_27 (fun I7 e => ?_)
  replace h := h I7 e
  refine wz_aload C rfl dJ7_copyOfRangeByte_39247_30 ?_
  exact wy_aret C (Or.inr ⟨_, rfl⟩) dJ7_copyOfRangeByte_39247_32 ⟨_, rfl, h⟩
def rm_J7_copyOfRange_39247 : Room := { frames := 2, cells := 1, slots := 2000, locals := 104 }
set_option maxHeartbeats 4000000 in
set_option maxRecDepth 100000 in
theorem bk_J7_copyOfRange_39247_10 (G : KG) (hG : Kok G) (hW : KWx G) (X : KX) (hX : KR X = rm_J7_copyOfRange_39247) (C : Fr G X cJ7_copyOfRange_39247 3 yJ7_copyOfRange_39247.cls (some (.array .byte)) wsJ7_copyOfRange_39247) (k0 : Nat) (l1 : Int) (l2 : Int) (Q : Nat → Ii → Jj → Prop)  (I : Ii) (J : Jj) (h : B_J7_copyOfRange_39247_10 k0 l1 l2 Q  I J) : Wz G X 3 (QsU G X (QsK G Q)) 1 2000 10 [some (.ref (kadr G k0)), some (.int (iZ l1)), some (.int (iZ l2))] [] I J := by
  unfold B_J7_copyOfRange_39247_10 at h
  refine wz_aload_n C rfl rfl dJ7_copyOfRange_39247_10 ?_
  refine wz_iload_n C rfl rfl dJ7_copyOfRange_39247_11 ?_
  refine wz_iload_n C rfl rfl dJ7_copyOfRange_39247_12 ?_
  refine wm_callSo C (As := [.ref (kadr G k0), .int (iZ l1), .int (iZ l2)]) (st := []) (a' := 0) (b' := 0) (k_J7_copyOfRangeByte_39247 G hG hW k0 l1 l2 I J _ h) 3 (goodIn_wsS gJ7_copyOfRange_39247_J7_copyOfRangeByte_39247) (by decide +kernel) (by decide +kernel) (by decide +kernel) rfl (by decide +kernel) (by rw [hX]; exact ⟨Nat.le_of_ble_eq_true rfl, Nat.le_of_ble_eq_true rfl⟩) rfl (Nat.le_of_ble_eq_true rfl) (by show 1 + (0) = 1; omega) (by show 2000 + (0) = 2000; omega) rfl dJ7_copyOfRange_39247_13 (kk_sK (fun v9 I9 J9 h => ?_))
  exact wy_aret C (Or.inr ⟨_, rfl⟩) dJ7_copyOfRange_39247_16 ⟨_, rfl, h⟩
set_option maxHeartbeats 4000000 in
set_option maxRecDepth 100000 in
theorem k_J7_copyOfRange_39247 (G : KG) (hG : Kok G) (hW : KWx G)  (k0 : Nat) (l1 : Int) (l2 : Int) (I : Ii) (J : Jj) (Q : Nat → Ii → Jj → Prop) (h : wp_J7_copyOfRange_39247 k0 l1 l2 I J Q) : Ctr G yJ7_copyOfRange_39247 wsJ7_copyOfRange_39247 rm_J7_copyOfRange_39247 [.ref (kadr G k0), .int (iZ l1), .int (iZ l2)] (I, J) (QsK G Q) := by
  unfold wp_J7_copyOfRange_39247 at h
  refine Ctr.ofZ (cc := cJ7_copyOfRange_39247) (nL := 3) (ret := (some (.array .byte))) [some (.ref (kadr G k0)), some (.int (iZ l1)), some (.int (iZ l2))] hG (by decide +kernel) rfl (Nat.le_of_ble_eq_true rfl) (Nat.le_of_ble_eq_true rfl) (by simp [lvA, lv_args, Value.category]) ?_
  intro X hX C
  refine (?_ : Wz G X 3 (QsU G X (QsK G Q)) 1 2000 0 [some (.ref (kadr G k0)), some (.int (iZ l1)), some (.int (iZ l2))] [] I J)
  refine wz_iload_n C rfl rfl dJ7_copyOfRange_39247_0 ?_
  obtain ⟨g1, h⟩ := h
  refine wz_if_ne C (tgt := 10) g1 dJ7_copyOfRange_39247_1 (by decide) (fun c => ?_) (fun c => ?_)
  · replace h := h.1 c
    exact Wz.less (a0 := 1) (b0 := 2000) (by omega) (by omega) (bk_J7_copyOfRange_39247_10 G hG hW X hX C k0 l1 l2 Q I J h)
  · replace h := h.2 c
    refine wz_iload_n C rfl rfl dJ7_copyOfRange_39247_4 ?_
    refine wz_aload_n C rfl rfl dJ7_copyOfRange_39247_5 ?_
    obtain ⟨g2, h⟩ := h
    refine wy_alen2 C hW g2 dJ7_copyOfRange_39247_6 ?_
    obtain ⟨g3, h⟩ := h
    obtain ⟨g4, h⟩ := h
    refine wz_icmp_eq C (tgt := 17) g3 g4 dJ7_copyOfRange_39247_7 (by decide) (fun c => ?_) (fun c => ?_)
    · replace h := h.1 c
      refine wz_aload_n C rfl rfl dJ7_copyOfRange_39247_17 ?_
      obtain ⟨g5, h⟩ := h
      refine wy_cloneB C hW 2000 g5 (by decide +kernel) (by decide +kernel) (by decide +kernel) (by decide +kernel) (by decide +kernel) (by rw [hX]; exact ⟨Nat.le_of_ble_eq_true rfl, Nat.le_of_ble_eq_true rfl⟩) dJ7_copyOfRange_39247_18 (a' := 0) (b' := 0) (by omega) (by omega) (fun I6 e => ?_)
      replace h := h I6 e
      replace h := h _ rfl
      obtain ⟨g8, h⟩ := h
      refine wy_castB C g8 (by decide +kernel) dJ7_copyOfRange_39247_21 ?_
      exact wy_aret C (Or.inr ⟨_, rfl⟩) dJ7_copyOfRange_39247_24 ⟨_, rfl, h⟩
    · replace h := h.2 c
      exact Wz.less (a0 := 1) (b0 := 2000) (by omega) (by omega) (bk_J7_copyOfRange_39247_10 G hG hW X hX C k0 l1 l2 Q I J h)
def rm_J6_stringSize_0f7a4 : Room := { frames := 0, cells := 0, slots := 0, locals := 0 }
set_option maxHeartbeats 4000000 in
set_option maxRecDepth 100000 in
theorem lk_J6_stringSize_0f7a4_16 (G : KG) (hG : Kok G) (hW : KWx G) (X : KX) (hX : KR X = rm_J6_stringSize_0f7a4) (C : Fr G X cJ6_stringSize_0f7a4 4 yJ6_stringSize_0f7a4.cls (some .int) wsJ6_stringSize_0f7a4) (Q : Int → Ii → Jj → Prop) : ∀ (n : Nat) (l0 : Int) (l1 : Int) (l2 : Int) (l3 : Int) (I : Ii) (J : Jj), L_J6_stringSize_0f7a4_16 Q n l0 l1 l2 l3 I J → Wz G X 4 (QsU G X (QsI Q)) 0 0 16 [some (.int (iZ l0)), some (.int (iZ l1)), some (.int (iZ l2)), some (.int (iZ l3))] [] I J := by
  intro n
  induction n with
  | zero => intro l0 l1 l2 l3 I J h; exact False.elim h
  | succ n w16 =>
    intro l0 l1 l2 l3 I J h
    have h : Lb_J6_stringSize_0f7a4_16 Q (L_J6_stringSize_0f7a4_16 Q n) l0 l1 l2 l3 I J := h
    unfold Lb_J6_stringSize_0f7a4_16 at h
    generalize L_J6_stringSize_0f7a4_16 Q n = r16 at h w16
    refine wz_iload_n C rfl rfl dJ6_stringSize_0f7a4_16 ?_
    refine wz_bipush C (by decide) dJ6_stringSize_0f7a4_17 ?_
    obtain ⟨g2, h⟩ := h
    refine wz_icmp_ge C (tgt := 42) g2 (by decide) dJ6_stringSize_0f7a4_19 (by decide) (fun c => ?_) (fun c => ?_)
    · replace h := h.1 c
      refine wz_bipush C (by decide) dJ6_stringSize_0f7a4_42 ?_
      refine wz_iload_n C rfl rfl dJ6_stringSize_0f7a4_44 ?_
      refine wz_iadd C dJ6_stringSize_0f7a4_45 ?_
      exact wz_iret C dJ6_stringSize_0f7a4_46 ⟨_, rfl, h⟩
    · replace h := h.2 c
      refine wz_iload_n C rfl rfl dJ6_stringSize_0f7a4_22 ?_
      refine wz_iload_n C rfl rfl dJ6_stringSize_0f7a4_23 ?_
      obtain ⟨g3, h⟩ := h
      obtain ⟨g4, h⟩ := h
      refine wz_icmp_le C (tgt := 31) g3 g4 dJ6_stringSize_0f7a4_24 (by decide) (fun c => ?_) (fun c => ?_)
      · replace h := h.1 c
        refine wz_bipush C (by decide) dJ6_stringSize_0f7a4_31 ?_
        refine wz_iload_n C rfl rfl dJ6_stringSize_0f7a4_33 ?_
        refine wz_imul C dJ6_stringSize_0f7a4_34 ?_
        refine wz_istore_2 C rfl dJ6_stringSize_0f7a4_35 ?_
        refine wz_iinc_3 C rfl dJ6_stringSize_0f7a4_36 ?_
        refine wz_goto C dJ6_stringSize_0f7a4_39 (tgt := 16) (by decide) ?_
        exact Wz.less (a0 := 0) (b0 := 0) (by omega) (by omega) (w16 l0 l1 ((10 : Int) * l2) (l3 + 1) I J h)
      · replace h := h.2 c
        refine wz_iload_n C rfl rfl dJ6_stringSize_0f7a4_27 ?_
        refine wz_iload_n C rfl rfl dJ6_stringSize_0f7a4_28 ?_
        refine wz_iadd C dJ6_stringSize_0f7a4_29 ?_
        exact wz_iret C dJ6_stringSize_0f7a4_30 ⟨_, rfl, h⟩
set_option maxHeartbeats 4000000 in
set_option maxRecDepth 100000 in
theorem k_J6_stringSize_0f7a4 (G : KG) (hG : Kok G) (hW : KWx G)  (l0 : Int) (I : Ii) (J : Jj) (Q : Int → Ii → Jj → Prop) (h : wp_J6_stringSize_0f7a4 l0 I J Q) : Ctr G yJ6_stringSize_0f7a4 wsJ6_stringSize_0f7a4 rm_J6_stringSize_0f7a4 [.int (iZ l0)] (I, J) (QsI Q) := by
  unfold wp_J6_stringSize_0f7a4 at h
  refine Ctr.ofZ (cc := cJ6_stringSize_0f7a4) (nL := 4) (ret := (some .int)) [some (.int (iZ l0)), none, none, none] hG (by decide +kernel) rfl (Nat.le_of_ble_eq_true rfl) (Nat.le_of_ble_eq_true rfl) (by simp [lvA, lv_args, Value.category]) ?_
  intro X hX C
  refine (?_ : Wz G X 4 (QsU G X (QsI Q)) 0 0 0 [some (.int (iZ l0)), none, none, none] [] I J)
  refine wz_iconst C dJ6_stringSize_0f7a4_0 ?_
  refine wz_istore_1 C rfl dJ6_stringSize_0f7a4_1 ?_
  refine wz_iload_n C rfl rfl dJ6_stringSize_0f7a4_2 ?_
  obtain ⟨g1, h⟩ := h
  refine wz_if_lt C (tgt := 11) g1 dJ6_stringSize_0f7a4_3 (by decide) (fun c => ?_) (fun c => ?_)
  · replace h := h.1 c
    refine wz_bipush C (by decide) dJ6_stringSize_0f7a4_11 ?_
    refine wz_istore_2 C rfl dJ6_stringSize_0f7a4_13 ?_
    refine wz_iconst C dJ6_stringSize_0f7a4_14 ?_
    refine wz_istore_3 C rfl dJ6_stringSize_0f7a4_15 ?_
    obtain ⟨n, h⟩ := h
    exact Wz.less (a0 := 0) (b0 := 0) (by omega) (by omega) (lk_J6_stringSize_0f7a4_16 G hG hW X hX C Q n l0 1 (-10) 1 I J h)
  · replace h := h.2 c
    refine wz_iconst C dJ6_stringSize_0f7a4_6 ?_
    refine wz_istore_1 C rfl dJ6_stringSize_0f7a4_7 ?_
    refine wz_iload_n C rfl rfl dJ6_stringSize_0f7a4_8 ?_
    refine wz_ineg C dJ6_stringSize_0f7a4_9 ?_
    refine wz_istore_0 C rfl dJ6_stringSize_0f7a4_10 ?_
    refine wz_bipush C (by decide) dJ6_stringSize_0f7a4_11 ?_
    refine wz_istore_2 C rfl dJ6_stringSize_0f7a4_13 ?_
    refine wz_iconst C dJ6_stringSize_0f7a4_14 ?_
    refine wz_istore_3 C rfl dJ6_stringSize_0f7a4_15 ?_
    obtain ⟨n, h⟩ := h
    exact Wz.less (a0 := 0) (b0 := 0) (by omega) (by omega) (lk_J6_stringSize_0f7a4_16 G hG hW X hX C Q n (-l0) 0 (-10) 1 I J h)
def rm_J6_getChars_ba4f3 : Room := { frames := 0, cells := 0, slots := 0, locals := 0 }
set_option maxHeartbeats 4000000 in
set_option maxRecDepth 100000 in
theorem bk_J6_getChars_ba4f3_104 (G : KG) (hG : Kok G) (hW : KWx G) (X : KX) (hX : KR X = rm_J6_getChars_ba4f3) (C : Fr G X cJ6_getChars_ba4f3 7 yJ6_getChars_ba4f3.cls (some .int) wsJ6_getChars_ba4f3) (k2 : Nat) (l1 : Int) (Q : Int → Ii → Jj → Prop) (l5 : Int) (l6 : Int) (I : Ii) (J : Jj) (h : B_J6_getChars_ba4f3_104 k2 l1 Q l5 l6 I J) : Wz G X 7 (QsU G X (QsI Q)) 0 0 104 [none, none, some (.ref (kadr G k2)), none, none, some (.int (iZ l5)), some (.int (iZ l6))] [] I J := by
  unfold B_J6_getChars_ba4f3_104 at h
  refine wz_iload C rfl dJ6_getChars_ba4f3_104 ?_
  obtain ⟨g18, h⟩ := h
  refine wz_if_eq C (tgt := 118) g18 dJ6_getChars_ba4f3_106 (by decide) (fun c => ?_) (fun c => ?_)
  · replace h := h.1 c
    refine wz_iload C rfl dJ6_getChars_ba4f3_118 ?_
    exact wz_iret C dJ6_getChars_ba4f3_120 ⟨_, rfl, h⟩
  · replace h := h.2 c
    refine wz_aload_n C rfl rfl dJ6_getChars_ba4f3_109 ?_
    refine wz_iinc_5 C rfl dJ6_getChars_ba4f3_110 ?_
    refine wz_iload C rfl dJ6_getChars_ba4f3_113 ?_
    refine wz_bipush C (by decide) dJ6_getChars_ba4f3_115 ?_
    obtain ⟨g19, h⟩ := h
    refine wy_bast C g19.1 g19.2 dJ6_getChars_ba4f3_117 (fun I20 e => ?_)
    replace h := h I20 e
    refine wz_iload C rfl dJ6_getChars_ba4f3_118 ?_
    exact wz_iret C dJ6_getChars_ba4f3_120 ⟨_, rfl, h⟩
set_option maxHeartbeats 4000000 in
set_option maxRecDepth 100000 in
theorem lk_J6_getChars_ba4f3_22 (G : KG) (hG : Kok G) (hW : KWx G) (X : KX) (hX : KR X = rm_J6_getChars_ba4f3) (C : Fr G X cJ6_getChars_ba4f3 7 yJ6_getChars_ba4f3.cls (some .int) wsJ6_getChars_ba4f3) (k2 : Nat) (l1 : Int) (Q : Int → Ii → Jj → Prop) : ∀ (n : Nat) (l0 : Int) (l5 : Int) (l6 : Int) (I : Ii) (J : Jj), L_J6_getChars_ba4f3_22 k2 l1 Q n l0 l5 l6 I J → Wz G X 7 (QsU G X (QsI Q)) 0 0 22 [some (.int (iZ l0)), none, some (.ref (kadr G k2)), none, none, some (.int (iZ l5)), some (.int (iZ l6))] [] I J := by
  intro n
  induction n with
  | zero => intro l0 l5 l6 I J h; exact False.elim h
  | succ n w22 =>
    intro l0 l5 l6 I J h
    have h : Lb_J6_getChars_ba4f3_22 k2 l1 Q (L_J6_getChars_ba4f3_22 k2 l1 Q n) l0 l5 l6 I J := h
    unfold Lb_J6_getChars_ba4f3_22 at h
    generalize L_J6_getChars_ba4f3_22 k2 l1 Q n = r22 at h w22
    refine wz_iload_n C rfl rfl dJ6_getChars_ba4f3_22 ?_
    refine wz_bipush C (by decide) dJ6_getChars_ba4f3_23 ?_
    obtain ⟨g3, h⟩ := h
    refine wz_icmp_gt C (tgt := 72) g3 (by decide) dJ6_getChars_ba4f3_25 (by decide) (fun c => ?_) (fun c => ?_)
    · replace h := h.1 c
      refine wz_aload_n C rfl rfl dJ6_getChars_ba4f3_72 ?_
      refine wz_iinc_5 C rfl dJ6_getChars_ba4f3_73 ?_
      refine wz_iload C rfl dJ6_getChars_ba4f3_76 ?_
      refine wy_gets C hW.do (by decide +kernel) dJ6_getChars_ba4f3_78 ?_
      refine wz_iload_n C rfl rfl dJ6_getChars_ba4f3_81 ?_
      refine wz_ineg C dJ6_getChars_ba4f3_82 ?_
      obtain ⟨g4, h⟩ := h
      refine wy_bald C hW g4.1 g4.2 dJ6_getChars_ba4f3_83 ?_
      obtain ⟨g5, h⟩ := h
      refine wy_bast C g5.1 g5.2 dJ6_getChars_ba4f3_84 (fun I6 e => ?_)
      replace h := h I6 e
      refine wz_iload_n C rfl rfl dJ6_getChars_ba4f3_85 ?_
      refine wz_bipush C (by decide) dJ6_getChars_ba4f3_86 ?_
      obtain ⟨g7, h⟩ := h
      refine wz_icmp_ge C (tgt := 104) g7 (by decide) dJ6_getChars_ba4f3_88 (by decide) (fun c => ?_) (fun c => ?_)
      · replace h := h.1 c
        exact Wz.less (a0 := 0) (b0 := 0) (by omega) (by omega) (Wz.drop (bk_J6_getChars_ba4f3_104 G hG hW X hX C k2 l1 Q (l5 + (-1)) l6 I6 J h) (And.intro rfl (And.intro rfl (And.intro rfl trivial))))
      · replace h := h.2 c
        refine wz_aload_n C rfl rfl dJ6_getChars_ba4f3_91 ?_
        refine wz_iinc_5 C rfl dJ6_getChars_ba4f3_92 ?_
        refine wz_iload C rfl dJ6_getChars_ba4f3_95 ?_
        refine wy_gets C hW.dt (by decide +kernel) dJ6_getChars_ba4f3_97 ?_
        refine wz_iload_n C rfl rfl dJ6_getChars_ba4f3_100 ?_
        refine wz_ineg C dJ6_getChars_ba4f3_101 ?_
        obtain ⟨g8, h⟩ := h
        refine wy_bald C hW g8.1 g8.2 dJ6_getChars_ba4f3_102 ?_
        obtain ⟨g9, h⟩ := h
        refine wy_bast C g9.1 g9.2 dJ6_getChars_ba4f3_103 (fun I10 e => ?_)
        replace h := h I10 e
        exact Wz.less (a0 := 0) (b0 := 0) (by omega) (by omega) (Wz.drop (bk_J6_getChars_ba4f3_104 G hG hW X hX C k2 l1 Q ((l5 + (-1)) + (-1)) l6 I10 J h) (And.intro rfl (And.intro rfl (And.intro rfl trivial))))
    · replace h := h.2 c
      refine wz_iload_n C rfl rfl dJ6_getChars_ba4f3_28 ?_
      refine wz_bipush C (by decide) dJ6_getChars_ba4f3_29 ?_
      obtain ⟨g11, h⟩ := h
      refine wy_idivN C g11 dJ6_getChars_ba4f3_31 ?_
      refine wz_istore_3 C rfl dJ6_getChars_ba4f3_32 ?_
      refine wz_iload_n C rfl rfl dJ6_getChars_ba4f3_33 ?_
      refine wz_bipush C (by decide) dJ6_getChars_ba4f3_34 ?_
      refine wz_imul C dJ6_getChars_ba4f3_36 ?_
      refine wz_iload_n C rfl rfl dJ6_getChars_ba4f3_37 ?_
      refine wz_isub C dJ6_getChars_ba4f3_38 ?_
      refine wz_istore_4 C rfl dJ6_getChars_ba4f3_39 ?_
      refine wz_iload_n C rfl rfl dJ6_getChars_ba4f3_41 ?_
      refine wz_istore_0 C rfl dJ6_getChars_ba4f3_42 ?_
      refine wz_aload_n C rfl rfl dJ6_getChars_ba4f3_43 ?_
      refine wz_iinc_5 C rfl dJ6_getChars_ba4f3_44 ?_
      refine wz_iload C rfl dJ6_getChars_ba4f3_47 ?_
      refine wy_gets C hW.do (by decide +kernel) dJ6_getChars_ba4f3_49 ?_
      refine wz_iload C rfl dJ6_getChars_ba4f3_52 ?_
      obtain ⟨g12, h⟩ := h
      refine wy_bald C hW g12.1 g12.2 dJ6_getChars_ba4f3_54 ?_
      obtain ⟨g13, h⟩ := h
      refine wy_bast C g13.1 g13.2 dJ6_getChars_ba4f3_55 (fun I14 e => ?_)
      replace h := h I14 e
      refine wz_aload_n C rfl rfl dJ6_getChars_ba4f3_56 ?_
      refine wz_iinc_5 C rfl dJ6_getChars_ba4f3_57 ?_
      refine wz_iload C rfl dJ6_getChars_ba4f3_60 ?_
      refine wy_gets C hW.dt (by decide +kernel) dJ6_getChars_ba4f3_62 ?_
      refine wz_iload C rfl dJ6_getChars_ba4f3_65 ?_
      obtain ⟨g15, h⟩ := h
      refine wy_bald C hW g15.1 g15.2 dJ6_getChars_ba4f3_67 ?_
      obtain ⟨g16, h⟩ := h
      refine wy_bast C g16.1 g16.2 dJ6_getChars_ba4f3_68 (fun I17 e => ?_)
      replace h := h I17 e
      refine wz_goto C dJ6_getChars_ba4f3_69 (tgt := 22) (by decide) ?_
      exact Wz.less (a0 := 0) (b0 := 0) (by omega) (by omega) (Wz.drop (w22 (-((-l0) / 100)) ((l5 + (-1)) + (-1)) l6 I17 J h) (And.intro rfl (And.intro rfl (And.intro rfl (And.intro rfl trivial)))))
set_option maxHeartbeats 4000000 in
set_option maxRecDepth 100000 in
theorem bk_J6_getChars_ba4f3_12 (G : KG) (hG : Kok G) (hW : KWx G) (X : KX) (hX : KR X = rm_J6_getChars_ba4f3) (C : Fr G X cJ6_getChars_ba4f3 7 yJ6_getChars_ba4f3.cls (some .int) wsJ6_getChars_ba4f3) (k2 : Nat) (l1 : Int) (Q : Int → Ii → Jj → Prop) (l0 : Int) (l5 : Int) (t0 : Int) (I : Ii) (J : Jj) (h : B_J6_getChars_ba4f3_12 k2 l1 Q l0 l5 t0 I J) : Wz G X 7 (QsU G X (QsI Q)) 0 0 12 [some (.int (iZ l0)), none, some (.ref (kadr G k2)), none, none, some (.int (iZ l5)), none] [.int (iZ t0)] I J := by
  unfold B_J6_getChars_ba4f3_12 at h
  refine wz_istore_6 C rfl dJ6_getChars_ba4f3_12 ?_
  refine wz_iload C rfl dJ6_getChars_ba4f3_14 ?_
  obtain ⟨g2, h⟩ := h
  refine wz_if_ne C (tgt := 22) g2 dJ6_getChars_ba4f3_16 (by decide) (fun c => ?_) (fun c => ?_)
  · replace h := h.1 c
    obtain ⟨n, h⟩ := h
    exact Wz.less (a0 := 0) (b0 := 0) (by omega) (by omega) (lk_J6_getChars_ba4f3_22 G hG hW X hX C k2 l1 Q n l0 l5 t0 I J h)
  · replace h := h.2 c
    refine wz_iload_n C rfl rfl dJ6_getChars_ba4f3_19 ?_
    refine wz_ineg C dJ6_getChars_ba4f3_20 ?_
    refine wz_istore_0 C rfl dJ6_getChars_ba4f3_21 ?_
    obtain ⟨n, h⟩ := h
    exact Wz.less (a0 := 0) (b0 := 0) (by omega) (by omega) (lk_J6_getChars_ba4f3_22 G hG hW X hX C k2 l1 Q n (-l0) l5 t0 I J h)
set_option maxHeartbeats 4000000 in
set_option maxRecDepth 100000 in
theorem k_J6_getChars_ba4f3 (G : KG) (hG : Kok G) (hW : KWx G)  (k2 : Nat) (l0 : Int) (l1 : Int) (I : Ii) (J : Jj) (Q : Int → Ii → Jj → Prop) (h : wp_J6_getChars_ba4f3 k2 l0 l1 I J Q) : Ctr G yJ6_getChars_ba4f3 wsJ6_getChars_ba4f3 rm_J6_getChars_ba4f3 [.int (iZ l0), .int (iZ l1), .ref (kadr G k2)] (I, J) (QsI Q) := by
  unfold wp_J6_getChars_ba4f3 at h
  refine Ctr.ofZ (cc := cJ6_getChars_ba4f3) (nL := 7) (ret := (some .int)) [some (.int (iZ l0)), some (.int (iZ l1)), some (.ref (kadr G k2)), none, none, none, none] hG (by decide +kernel) rfl (Nat.le_of_ble_eq_true rfl) (Nat.le_of_ble_eq_true rfl) (by simp [lvA, lv_args, Value.category]) ?_
  intro X hX C
  refine (?_ : Wz G X 7 (QsU G X (QsI Q)) 0 0 0 [some (.int (iZ l0)), some (.int (iZ l1)), some (.ref (kadr G k2)), none, none, none, none] [] I J)
  refine wz_iload_n C rfl rfl dJ6_getChars_ba4f3_0 ?_
  refine wz_istore_5 C rfl dJ6_getChars_ba4f3_1 ?_
  refine wz_iload_n C rfl rfl dJ6_getChars_ba4f3_3 ?_
  obtain ⟨g1, h⟩ := h
  refine wz_if_ge C (tgt := 11) g1 dJ6_getChars_ba4f3_4 (by decide) (fun c => ?_) (fun c => ?_)
  · replace h := h.1 c
    refine wz_iconst C dJ6_getChars_ba4f3_11 ?_
    exact Wz.less (a0 := 0) (b0 := 0) (by omega) (by omega) (Wz.drop (bk_J6_getChars_ba4f3_12 G hG hW X hX C k2 l1 Q l0 l1 0 I J h) (And.intro rfl (And.intro rfl (And.intro rfl trivial))))
  · replace h := h.2 c
    refine wz_iconst C dJ6_getChars_ba4f3_7 ?_
    refine wz_goto C dJ6_getChars_ba4f3_8 (tgt := 12) (by decide) ?_
    exact Wz.less (a0 := 0) (b0 := 0) (by omega) (by omega) (Wz.drop (bk_J6_getChars_ba4f3_12 G hG hW X hX C k2 l1 Q l0 l1 1 I J h) (And.intro rfl (And.intro rfl (And.intro rfl trivial))))
def rm_J6_numberOfTrailingZeros_0f7a4 : Room := { frames := 0, cells := 0, slots := 0, locals := 0 }
set_option maxHeartbeats 4000000 in
set_option maxRecDepth 100000 in
theorem bk_J6_numberOfTrailingZeros_0f7a4_62 (G : KG) (hG : Kok G) (hW : KWx G) (X : KX) (hX : KR X = rm_J6_numberOfTrailingZeros_0f7a4) (C : Fr G X cJ6_numberOfTrailingZeros_0f7a4 2 yJ6_numberOfTrailingZeros_0f7a4.cls (some .int) wsJ6_numberOfTrailingZeros_0f7a4) (Q : Int → Ii → Jj → Prop) (l0 : Int) (l1 : Int) (I : Ii) (J : Jj) (h : B_J6_numberOfTrailingZeros_0f7a4_62 Q l0 l1 I J) : Wz G X 2 (QsU G X (QsI Q)) 0 0 62 [some (.int (iZ l0)), some (.int (iZ l1))] [] I J := by
  unfold B_J6_numberOfTrailingZeros_0f7a4_62 at h
  refine wz_iload_n C rfl rfl dJ6_numberOfTrailingZeros_0f7a4_62 ?_
  refine wz_iconst C dJ6_numberOfTrailingZeros_0f7a4_63 ?_
  obtain ⟨g3, h⟩ := h
  refine wz_icmp_le C (tgt := 74) g3 (by decide) dJ6_numberOfTrailingZeros_0f7a4_64 (by decide) (fun c => ?_) (fun c => ?_)
  · replace h := h.1 c
    refine wz_iload_n C rfl rfl dJ6_numberOfTrailingZeros_0f7a4_74 ?_
    refine wz_iload_n C rfl rfl dJ6_numberOfTrailingZeros_0f7a4_75 ?_
    refine wz_iconst C dJ6_numberOfTrailingZeros_0f7a4_76 ?_
    refine wd_iushr C dJ6_numberOfTrailingZeros_0f7a4_77 ?_
    refine wz_iadd C dJ6_numberOfTrailingZeros_0f7a4_78 ?_
    exact wz_iret C dJ6_numberOfTrailingZeros_0f7a4_79 ⟨_, rfl, h⟩
  · replace h := h.2 c
    refine wz_iinc_1 C rfl dJ6_numberOfTrailingZeros_0f7a4_67 ?_
    refine wz_iload_n C rfl rfl dJ6_numberOfTrailingZeros_0f7a4_70 ?_
    refine wz_iconst C dJ6_numberOfTrailingZeros_0f7a4_71 ?_
    refine wd_iushr C dJ6_numberOfTrailingZeros_0f7a4_72 ?_
    refine wz_istore_0 C rfl dJ6_numberOfTrailingZeros_0f7a4_73 ?_
    refine wz_iload_n C rfl rfl dJ6_numberOfTrailingZeros_0f7a4_74 ?_
    refine wz_iload_n C rfl rfl dJ6_numberOfTrailingZeros_0f7a4_75 ?_
    refine wz_iconst C dJ6_numberOfTrailingZeros_0f7a4_76 ?_
    refine wd_iushr C dJ6_numberOfTrailingZeros_0f7a4_77 ?_
    refine wz_iadd C dJ6_numberOfTrailingZeros_0f7a4_78 ?_
    exact wz_iret C dJ6_numberOfTrailingZeros_0f7a4_79 ⟨_, rfl, h⟩
set_option maxHeartbeats 4000000 in
set_option maxRecDepth 100000 in
theorem bk_J6_numberOfTrailingZeros_0f7a4_49 (G : KG) (hG : Kok G) (hW : KWx G) (X : KX) (hX : KR X = rm_J6_numberOfTrailingZeros_0f7a4) (C : Fr G X cJ6_numberOfTrailingZeros_0f7a4 2 yJ6_numberOfTrailingZeros_0f7a4.cls (some .int) wsJ6_numberOfTrailingZeros_0f7a4) (Q : Int → Ii → Jj → Prop) (l0 : Int) (l1 : Int) (I : Ii) (J : Jj) (h : B_J6_numberOfTrailingZeros_0f7a4_49 Q l0 l1 I J) : Wz G X 2 (QsU G X (QsI Q)) 0 0 49 [some (.int (iZ l0)), some (.int (iZ l1))] [] I J := by
  unfold B_J6_numberOfTrailingZeros_0f7a4_49 at h
  refine wz_iload_n C rfl rfl dJ6_numberOfTrailingZeros_0f7a4_49 ?_
  refine wz_bipush C (by decide) dJ6_numberOfTrailingZeros_0f7a4_50 ?_
  obtain ⟨g2, h⟩ := h
  refine wz_icmp_le C (tgt := 62) g2 (by decide) dJ6_numberOfTrailingZeros_0f7a4_52 (by decide) (fun c => ?_) (fun c => ?_)
  · replace h := h.1 c
    exact Wz.less (a0 := 0) (b0 := 0) (by omega) (by omega) (bk_J6_numberOfTrailingZeros_0f7a4_62 G hG hW X hX C Q l0 l1 I J h)
  · replace h := h.2 c
    refine wz_iinc_1 C rfl dJ6_numberOfTrailingZeros_0f7a4_55 ?_
    refine wz_iload_n C rfl rfl dJ6_numberOfTrailingZeros_0f7a4_58 ?_
    refine wz_iconst C dJ6_numberOfTrailingZeros_0f7a4_59 ?_
    refine wd_iushr C dJ6_numberOfTrailingZeros_0f7a4_60 ?_
    refine wz_istore_0 C rfl dJ6_numberOfTrailingZeros_0f7a4_61 ?_
    exact Wz.less (a0 := 0) (b0 := 0) (by omega) (by omega) (bk_J6_numberOfTrailingZeros_0f7a4_62 G hG hW X hX C Q (ushrZ l0 4) (l1 + 4) I J h)
set_option maxHeartbeats 4000000 in
set_option maxRecDepth 100000 in
theorem bk_J6_numberOfTrailingZeros_0f7a4_34 (G : KG) (hG : Kok G) (hW : KWx G) (X : KX) (hX : KR X = rm_J6_numberOfTrailingZeros_0f7a4) (C : Fr G X cJ6_numberOfTrailingZeros_0f7a4 2 yJ6_numberOfTrailingZeros_0f7a4.cls (some .int) wsJ6_numberOfTrailingZeros_0f7a4) (Q : Int → Ii → Jj → Prop) (l0 : Int) (l1 : Int) (I : Ii) (J : Jj) (h : B_J6_numberOfTrailingZeros_0f7a4_34 Q l0 l1 I J) : Wz G X 2 (QsU G X (QsI Q)) 0 0 34 [some (.int (iZ l0)), some (.int (iZ l1))] [] I J := by
  unfold B_J6_numberOfTrailingZeros_0f7a4_34 at h
  refine wz_iload_n C rfl rfl dJ6_numberOfTrailingZeros_0f7a4_34 ?_
  refine wz_sipush C (by decide) dJ6_numberOfTrailingZeros_0f7a4_35 ?_
  obtain ⟨g1, h⟩ := h
  refine wz_icmp_le C (tgt := 49) g1 (by decide) dJ6_numberOfTrailingZeros_0f7a4_38 (by decide) (fun c => ?_) (fun c => ?_)
  · replace h := h.1 c
    exact Wz.less (a0 := 0) (b0 := 0) (by omega) (by omega) (bk_J6_numberOfTrailingZeros_0f7a4_49 G hG hW X hX C Q l0 l1 I J h)
  · replace h := h.2 c
    refine wz_iinc_1 C rfl dJ6_numberOfTrailingZeros_0f7a4_41 ?_
    refine wz_iload_n C rfl rfl dJ6_numberOfTrailingZeros_0f7a4_44 ?_
    refine wz_bipush C (by decide) dJ6_numberOfTrailingZeros_0f7a4_45 ?_
    refine wd_iushr C dJ6_numberOfTrailingZeros_0f7a4_47 ?_
    refine wz_istore_0 C rfl dJ6_numberOfTrailingZeros_0f7a4_48 ?_
    exact Wz.less (a0 := 0) (b0 := 0) (by omega) (by omega) (bk_J6_numberOfTrailingZeros_0f7a4_49 G hG hW X hX C Q (ushrZ l0 8) (l1 + 8) I J h)
set_option maxHeartbeats 4000000 in
set_option maxRecDepth 100000 in
theorem k_J6_numberOfTrailingZeros_0f7a4 (G : KG) (hG : Kok G) (hW : KWx G)  (l0 : Int) (I : Ii) (J : Jj) (Q : Int → Ii → Jj → Prop) (h : wp_J6_numberOfTrailingZeros_0f7a4 l0 I J Q) : Ctr G yJ6_numberOfTrailingZeros_0f7a4 wsJ6_numberOfTrailingZeros_0f7a4 rm_J6_numberOfTrailingZeros_0f7a4 [.int (iZ l0)] (I, J) (QsI Q) := by
  unfold wp_J6_numberOfTrailingZeros_0f7a4 at h
  refine Ctr.ofZ (cc := cJ6_numberOfTrailingZeros_0f7a4) (nL := 2) (ret := (some .int)) [some (.int (iZ l0)), none] hG (by decide +kernel) rfl (Nat.le_of_ble_eq_true rfl) (Nat.le_of_ble_eq_true rfl) (by simp [lvA, lv_args, Value.category]) ?_
  intro X hX C
  refine (?_ : Wz G X 2 (QsU G X (QsI Q)) 0 0 0 [some (.int (iZ l0)), none] [] I J)
  refine wz_iload_n C rfl rfl dJ6_numberOfTrailingZeros_0f7a4_0 ?_
  refine wz_iconst C dJ6_numberOfTrailingZeros_0f7a4_1 ?_
  refine wd_ixor C dJ6_numberOfTrailingZeros_0f7a4_2 ?_
  refine wz_iload_n C rfl rfl dJ6_numberOfTrailingZeros_0f7a4_3 ?_
  refine wz_iconst C dJ6_numberOfTrailingZeros_0f7a4_4 ?_
  refine wz_isub C dJ6_numberOfTrailingZeros_0f7a4_5 ?_
  refine wd_iand C dJ6_numberOfTrailingZeros_0f7a4_6 ?_
  refine wz_istore_0 C rfl dJ6_numberOfTrailingZeros_0f7a4_7 ?_
  refine wz_iload_n C rfl rfl dJ6_numberOfTrailingZeros_0f7a4_8 ?_
  refine wz_if_gt C (tgt := 17) (toInt_rg _) dJ6_numberOfTrailingZeros_0f7a4_9 (by decide) (fun c => ?_) (fun c => ?_)
  · replace h := h.1 c
    refine wz_iconst C dJ6_numberOfTrailingZeros_0f7a4_17 ?_
    refine wz_istore_1 C rfl dJ6_numberOfTrailingZeros_0f7a4_18 ?_
    refine wz_iload_n C rfl rfl dJ6_numberOfTrailingZeros_0f7a4_19 ?_
    refine wz_ldc_w C (n := 65536) (v := 65536) (by decide) (by decide +kernel) dJ6_numberOfTrailingZeros_0f7a4_20 ?_
    refine wz_icmp_le C (tgt := 34) (toInt_rg _) (by decide) dJ6_numberOfTrailingZeros_0f7a4_23 (by decide) (fun c => ?_) (fun c => ?_)
    · replace h := h.1 c
      exact Wz.less (a0 := 0) (b0 := 0) (by omega) (by omega) (bk_J6_numberOfTrailingZeros_0f7a4_34 G hG hW X hX C Q (andZ (xorZ l0 (-1)) (l0 - 1)) 1 I J h)
    · replace h := h.2 c
      refine wz_iinc_1 C rfl dJ6_numberOfTrailingZeros_0f7a4_26 ?_
      refine wz_iload_n C rfl rfl dJ6_numberOfTrailingZeros_0f7a4_29 ?_
      refine wz_bipush C (by decide) dJ6_numberOfTrailingZeros_0f7a4_30 ?_
      refine wd_iushr C dJ6_numberOfTrailingZeros_0f7a4_32 ?_
      refine wz_istore_0 C rfl dJ6_numberOfTrailingZeros_0f7a4_33 ?_
      exact Wz.less (a0 := 0) (b0 := 0) (by omega) (by omega) (bk_J6_numberOfTrailingZeros_0f7a4_34 G hG hW X hX C Q (ushrZ (andZ (xorZ l0 (-1)) (l0 - 1)) 16) (1 + 16) I J h)
  · replace h := h.2 c
    refine wz_iload_n C rfl rfl dJ6_numberOfTrailingZeros_0f7a4_12 ?_
    refine wz_bipush C (by decide) dJ6_numberOfTrailingZeros_0f7a4_13 ?_
    refine wd_iand C dJ6_numberOfTrailingZeros_0f7a4_15 ?_
    exact wz_iret C dJ6_numberOfTrailingZeros_0f7a4_16 ⟨_, rfl, h⟩
theorem in_J5_init_d00df_J4 : ∀ w ∈ wsJ40, w ∈ wsJ5_init_d00df := by decide +kernel
theorem f_J5_init_d00df_15 : FLk wsJ5_init_d00df RJ5 15 1 0 := flk 1 0 rfl tyJ4_ok nmJ4 in_J5_init_d00df_J4 (by decide) (by decide +kernel)
theorem fp_J4_0 : FPk 1 0 (.array .byte) := fun C9 T9 N9 h => by
  have h : some (RJ4, TJ4, 4) = some (C9, T9, N9) := h
  cases h
  exact ⟨rfl, by decide +kernel⟩
theorem f_J5_init_d00df_22 : FLk wsJ5_init_d00df RJ5 22 1 1 := flk 1 1 rfl tyJ4_ok nmJ4 in_J5_init_d00df_J4 (by decide) (by decide +kernel)
theorem fp_J4_1 : FPk 1 1 .byte := fun C9 T9 N9 h => by
  have h : some (RJ4, TJ4, 4) = some (C9, T9, N9) := h
  cases h
  exact ⟨rfl, by decide +kernel⟩
def rm_J5_init_d00df : Room := { frames := 1, cells := 1, slots := 16, locals := 30 }
set_option maxHeartbeats 4000000 in
set_option maxRecDepth 100000 in
theorem k_J5_init_d00df (G : KG) (hG : Kok G) (hW : KWx G)  (k0 : Nat) (l1 : Int) (I : Ii) (J : Jj) (Q : Ii → Jj → Prop) (h : wp_J5_init_d00df k0 l1 I J Q) : Ctr G yJ5_init_d00df wsJ5_init_d00df rm_J5_init_d00df [.ref (kadr G k0), .int (iZ l1)] (I, J) (QsV Q) := by
  unfold wp_J5_init_d00df at h
  refine Ctr.ofI (cc := cJ5_init_d00df) (nL := 2) (ret := none) [some (.ref (kadr G k0)), some (.int (iZ l1))] hG (by decide +kernel) rfl rfl (Nat.le_of_ble_eq_true rfl) (Nat.le_of_ble_eq_true rfl) (by simp [lvA, lv_args, Value.category]) ?_
  intro X hX hI C
  refine (?_ : Wz G X 2 (QsU G X (QsV Q)) 1 16 0 [some (.ref (kadr G k0)), some (.int (iZ l1))] [] I J)
  refine wz_aload_n C rfl rfl dJ5_init_d00df_0 ?_
  refine wy_obj C (by decide +kernel) (by decide +kernel) (by decide +kernel) (by rw [hX]; exact ⟨Nat.le_of_ble_eq_true rfl, Nat.le_of_ble_eq_true rfl⟩) dJ5_init_d00df_1 ?_
  refine wy_gets C hW.cs (by decide +kernel) dJ5_init_d00df_4 ?_
  refine wz_if_eq C (tgt := 25) (by decide) dJ5_init_d00df_7 (by decide) (fun z => absurd z (by decide)) (fun _ => ?_)
  refine wz_aload_n C rfl rfl dJ5_init_d00df_10 ?_
  refine wz_iload_n C rfl rfl dJ5_init_d00df_11 ?_
  obtain ⟨g1, h⟩ := h
  refine wy_newB C 16 g1 (by decide) (by decide +kernel) dJ5_init_d00df_12 (a' := 0) (b' := 0) (by omega) (by omega) (fun I2 e => ?_)
  replace h := h I2 e
  replace h := h _ rfl
  obtain ⟨g5, h⟩ := h
  refine wy_putB0 C f_J5_init_d00df_15 fp_J4_0 g5 dJ5_init_d00df_14 (fun I4 e => ?_)
  replace h := h I4 e
  refine wz_aload_n C rfl rfl dJ5_init_d00df_17 ?_
  refine wz_iconst C dJ5_init_d00df_18 ?_
  obtain ⟨g7, h⟩ := h
  refine wy_putB1 C f_J5_init_d00df_22 fp_J4_1 g7 dJ5_init_d00df_19 (fun I6 e => ?_)
  replace h := h I6 e
  refine wz_goto C dJ5_init_d00df_22 (tgt := 38) (by decide) ?_
  exact wz_vret C dJ5_init_d00df_38 ⟨rfl, h⟩
theorem in_J5_length_8abf5_J4 : ∀ w ∈ wsJ40, w ∈ wsJ5_length_8abf5 := by decide +kernel
theorem f_J5_length_8abf5_79 : FLk wsJ5_length_8abf5 RJ5 79 1 3 := flk 1 3 rfl tyJ4_ok nmJ4 in_J5_length_8abf5_J4 (by decide) (by decide +kernel)
def rm_J5_length_8abf5 : Room := { frames := 0, cells := 0, slots := 0, locals := 0 }
set_option maxHeartbeats 4000000 in
set_option maxRecDepth 100000 in
theorem k_J5_length_8abf5 (G : KG) (hG : Kok G) (hW : KWx G)  (k0 : Nat) (I : Ii) (J : Jj) (Q : Int → Ii → Jj → Prop) (h : wp_J5_length_8abf5 k0 I J Q) : Ctr G yJ5_length_8abf5 wsJ5_length_8abf5 rm_J5_length_8abf5 [.ref (kadr G k0)] (I, J) (QsI Q) := by
  unfold wp_J5_length_8abf5 at h
  refine Ctr.ofZ (cc := cJ5_length_8abf5) (nL := 1) (ret := (some .int)) [some (.ref (kadr G k0))] hG (by decide +kernel) rfl (Nat.le_of_ble_eq_true rfl) (Nat.le_of_ble_eq_true rfl) (by simp [lvA, lv_args, Value.category]) ?_
  intro X hX C
  refine (?_ : Wz G X 1 (QsU G X (QsI Q)) 0 0 0 [some (.ref (kadr G k0))] [] I J)
  refine wz_aload_n C rfl rfl dJ5_length_8abf5_0 ?_
  obtain ⟨g1, h⟩ := h
  refine wy_getB3 C f_J5_length_8abf5_79 g1 dJ5_length_8abf5_1 ?_
  exact wz_iret C dJ5_length_8abf5_4 ⟨_, rfl, h⟩
