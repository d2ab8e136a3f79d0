theorem in_X12_name_J4 : ∀ w ∈ wsJ40, w ∈ wsX12_name := by decide +kernel
def rm_X12_name : Room := { frames := 6, cells := 6, slots := 6024, locals := 191 }
set_option maxHeartbeats 4000000 in
set_option maxRecDepth 100000 in
theorem k_X12_name (G : KG) (hG : Kok G) (hW : KWx G)  (l0 : Int) (I : Ii) (J : Jj) (Q : Nat → Ii → Jj → Prop) (h : wp_X12_name l0 I J Q) : Ctr G yX12_name wsX12_name rm_X12_name [.int (iZ l0)] (I, J) (QsK G Q) := by
  unfold wp_X12_name at h
  refine Ctr.ofZ (cc := cX12_name) (nL := 1) (ret := (some (.object "java/lang/String"))) [some (.int (iZ l0))] hG (by decide +kernel) rfl (Nat.le_of_ble_eq_true rfl) (Nat.le_of_ble_eq_true rfl) (by simp [lvA, lv_args, Value.category]) ?_
  intro X hX C
  refine (?_ : Wz G X 1 (QsU G X (QsK G Q)) 6 6024 0 [some (.int (iZ l0))] [] I J)
  obtain ⟨g1, h⟩ := h
  refine wy_newC C (t := 6) (ci := 1) (Or.inr ⟨rfl, rfl⟩) tyJ4 rfl in_X12_name_J4 tyJ4_ok (by decide +kernel) (by decide +kernel) (by decide +kernel) dfJ4 g1 dX12_name_0 (a' := 5) (b' := 6020) (by omega) (by omega) (fun I2 e => ?_)
  replace h := h I2 e
  replace h := h _ rfl
  refine wz_dup C rfl dX12_name_3 ?_
  refine wm_callI C (q := kadr G ((I 999 0).toNat)) (As := []) (st := [.ref (kadr G ((I 999 0).toNat))]) (a' := 4) (b' := 6004) (k_J4_init_da8c8 G hG hW ((I 999 0).toNat) I2 J _ h) 0 gX12_name_J4_init_da8c8 (by decide +kernel) (by decide +kernel) (by decide +kernel) rfl rfl (by decide +kernel) (by rw [hX]; exact ⟨Nat.le_of_ble_eq_true rfl, Nat.le_of_ble_eq_true rfl⟩) rfl (Nat.le_of_ble_eq_true rfl) (by show 1 + (4) = 5; omega) (by show 16 + (6004) = 6020; omega) rfl dX12_name_4 (kk_sV (fun I4 J4 h => ?_))
  refine wy_ldcS C hW (tx := "v") (q := 916) (by decide +kernel) dX12_name_7 ?_
  obtain ⟨g6, h⟩ := h
  refine Wz.know (fun hs9 hl9 => ?_)
  refine wm_callV C (S := (I4, J4)) (o := (I 999 0).toNat) (As := [.ref (kadr G 916)]) (st := []) (a' := 3) (b' := 4004) (sK6 hs9 hl9 g6) rfl (k_J4_append_15ec4 G hG hW ((I 999 0).toNat) 916 I4 J4 _ h) 1 gX12_name_J4_append_15ec4 rfl (by decide +kernel) (by rw [hX]; exact ⟨Nat.le_of_ble_eq_true rfl, Nat.le_of_ble_eq_true rfl⟩) rfl (Nat.le_of_ble_eq_true rfl) (by show 1 + (3) = 4; omega) (by show 2000 + (4004) = 6004; omega) rfl dX12_name_9 (kk_sK (fun v5 I5 J5 h => ?_))
  refine wz_bipush C (by decide) dX12_name_12 ?_
  refine wz_iload_n C rfl rfl dX12_name_14 ?_
  refine wz_iadd C dX12_name_15 ?_
  refine wy_i2c C dX12_name_16 ?_
  obtain ⟨g8, h⟩ := h
  refine Wz.know (fun hs9 hl9 => ?_)
  refine wm_callV C (S := (I5, J5)) (o := v5) (As := [.int (iZ (i2cZ ((97 : Int) + l0)))]) (st := []) (a' := 2) (b' := 2004) (sK6 hs9 hl9 g8) rfl (k_J4_append_cf468 G hG hW v5 (i2cZ ((97 : Int) + l0)) I5 J5 _ h) 1 gX12_name_J4_append_cf468 rfl (by decide +kernel) (by rw [hX]; exact ⟨Nat.le_of_ble_eq_true rfl, Nat.le_of_ble_eq_true rfl⟩) rfl (Nat.le_of_ble_eq_true rfl) (by show 1 + (2) = 3; omega) (by show 2000 + (2004) = 4004; omega) rfl dX12_name_17 (kk_sK (fun v7 I7 J7 h => ?_))
  obtain ⟨g10, h⟩ := h
  refine Wz.know (fun hs9 hl9 => ?_)
  refine wm_callV C (S := (I7, J7)) (o := v7) (As := []) (st := []) (a' := 0) (b' := 0) (sK6 hs9 hl9 g10) rfl (k_J4_toString_0e30d G hG hW v7 I7 J7 _ h) 0 gX12_name_J4_toString_0e30d rfl (by decide +kernel) (by rw [hX]; exact ⟨Nat.le_of_ble_eq_true rfl, Nat.le_of_ble_eq_true rfl⟩) rfl (Nat.le_of_ble_eq_true rfl) (by show 2 + (0) = 2; omega) (by show 2004 + (0) = 2004; omega) rfl dX12_name_20 (kk_sK (fun v9 I9 J9 h => ?_))
  exact wy_aret C (Or.inl ⟨_, rfl⟩) dX12_name_23 ⟨_, rfl, h⟩
theorem in_X12_sets_X12 : ∀ w ∈ wsX120, w ∈ wsX12_sets := by decide +kernel
theorem f_X12_sets_34 : FLk wsX12_sets RX12 34 15 10 := flk 15 10 rfl tyX12_ok nmX12 in_X12_sets_X12 (by decide) (by decide +kernel)
def rm_X12_sets : Room := { frames := 3, cells := 0, slots := 0, locals := 72 }
set_option maxHeartbeats 4000000 in
set_option maxRecDepth 100000 in
theorem k_X12_sets (G : KG) (hG : Kok G) (hW : KWx G)  (I : Ii) (J : Jj) (Q : Nat → Ii → Jj → Prop) (h : wp_X12_sets I J Q) : Ctr G yX12_sets wsX12_sets rm_X12_sets [.ref (kadr G 1000)] (I, J) (QsK G Q) := by
  unfold wp_X12_sets at h
  refine Ctr.ofZ (cc := cX12_sets) (nL := 1) (ret := (some (.array .int))) [some (.ref (kadr G 1000))] hG (by decide +kernel) rfl (Nat.le_of_ble_eq_true rfl) (Nat.le_of_ble_eq_true rfl) (by simp [lvA, lv_args, Value.category]) ?_
  intro X hX C
  refine (?_ : Wz G X 1 (QsU G X (QsK G Q)) 0 0 0 [some (.ref (kadr G 1000))] [] I J)
  refine wz_aload_n C rfl rfl dX12_sets_0 ?_
  refine wz_getR C (j := 1020) f_X12_sets_34 (sOw rfl (by decide)) (by decide) dX12_sets_1 ?_
  refine wz_aload_n C rfl rfl dX12_sets_4 ?_
  refine wz_getR C (j := 1020) f_X12_sets_34 (sOw rfl (by decide)) (by decide) dX12_sets_5 ?_
  refine wm_callF C (o := 1020) (As := []) (st := [.ref (kadr G 1020)]) (a' := 0) (b' := 0) (spAL (Or.inl rfl)) rfl hW.fsize (k_Jx4a65c_size_8abf5 G hG hW 1020 I J (Or.inl rfl) _ h) 0 gX12_sets_Jx4a65c_size_8abf5_f121Jx4a65c rfl (by decide +kernel) (by rw [hX]; exact ⟨Nat.le_of_ble_eq_true rfl, Nat.le_of_ble_eq_true rfl⟩) rfl (Nat.le_of_ble_eq_true rfl) (by show 0 + (0) = 0; omega) (by show 0 + (0) = 0; omega) rfl dX12_sets_8 (kk_sI (fun v1 I1 J1 h => ?_))
  refine wz_iconst C dX12_sets_13 ?_
  refine wz_isub C dX12_sets_14 ?_
  refine wm_callF C (o := 1020) (As := [.int (iZ (v1 - 1))]) (st := []) (a' := 0) (b' := 0) (spAL (Or.inl rfl)) rfl hW.fget (k_Jx4a65c_get_915e3 G hG hW 1020 (v1 - 1) I1 J1 (Or.inl rfl) _ h) 1 gX12_sets_Jx4a65c_get_915e3_f125Jx4a65c rfl (by decide +kernel) (by rw [hX]; exact ⟨Nat.le_of_ble_eq_true rfl, Nat.le_of_ble_eq_true rfl⟩) rfl (Nat.le_of_ble_eq_true rfl) (by show 0 + (0) = 0; omega) (by show 0 + (0) = 0; omega) rfl dX12_sets_15 (kk_sK (fun v2 I2 J2 h => ?_))
  obtain ⟨g3, h⟩ := h
  refine wy_castI C g3 (by decide +kernel) dX12_sets_20 ?_
  exact wy_aret C (Or.inr ⟨_, rfl⟩) dX12_sets_23 ⟨_, rfl, h⟩
def rm_X12_groups : Room := { frames := 4, cells := 0, slots := 0, locals := 92 }
set_option maxHeartbeats 4000000 in
set_option maxRecDepth 100000 in
theorem k_X12_groups (G : KG) (hG : Kok G) (hW : KWx G)  (I : Ii) (J : Jj) (Q : Int → Ii → Jj → Prop) (h : wp_X12_groups I J Q) : Ctr G yX12_groups wsX12_groups rm_X12_groups [.ref (kadr G 1000)] (I, J) (QsI Q) := by
  unfold wp_X12_groups at h
  refine Ctr.ofZ (cc := cX12_groups) (nL := 1) (ret := (some .int)) [some (.ref (kadr G 1000))] hG (by decide +kernel) rfl (Nat.le_of_ble_eq_true rfl) (Nat.le_of_ble_eq_true rfl) (by simp [lvA, lv_args, Value.category]) ?_
  intro X hX C
  refine (?_ : Wz G X 1 (QsU G X (QsI Q)) 0 0 0 [some (.ref (kadr G 1000))] [] I J)
  refine wz_aload_n C rfl rfl dX12_groups_0 ?_
  refine wm_callV C (S := (I, J)) (o := 1000) (As := []) (st := []) (a' := 0) (b' := 0) (shK_w (by decide) rfl) rfl (k_X12_sets G hG hW I J _ h) 0 gX12_groups_X12_sets rfl (by decide +kernel) (by rw [hX]; exact ⟨Nat.le_of_ble_eq_true rfl, Nat.le_of_ble_eq_true rfl⟩) rfl (Nat.le_of_ble_eq_true rfl) (by show 0 + (0) = 0; omega) (by show 0 + (0) = 0; omega) rfl dX12_groups_1 (kk_sK (fun v1 I1 J1 h => ?_))
  obtain ⟨g2, h⟩ := h
  refine wy_alen1 C g2 dX12_groups_4 ?_
  exact wz_iret C dX12_groups_5 ⟨_, rfl, h⟩
def rm_X12_groupOf : Room := { frames := 4, cells := 0, slots := 0, locals := 92 }
set_option maxHeartbeats 4000000 in
set_option maxRecDepth 100000 in
theorem lk_X12_groupOf_2 (G : KG) (hG : Kok G) (hW : KWx G) (X : KX) (hX : KR X = rm_X12_groupOf) (C : Fr G X cX12_groupOf 3 yX12_groupOf.cls (some .int) wsX12_groupOf) (l1 : Int) (Q : Int → Ii → Jj → Prop) : ∀ (n : Nat) (l2 : Int) (I : Ii) (J : Jj), L_X12_groupOf_2 l1 Q n l2 I J → Wz G X 3 (QsU G X (QsI Q)) 0 0 2 [some (.ref (kadr G 1000)), some (.int (iZ l1)), some (.int (iZ l2))] [] I J := by
  intro n
  induction n with
  | zero => intro l2 I J h; exact False.elim h
  | succ n w2 =>
    intro l2 I J h
    have h : Lb_X12_groupOf_2 l1 Q (L_X12_groupOf_2 l1 Q n) l2 I J := h
    unfold Lb_X12_groupOf_2 at h
    generalize L_X12_groupOf_2 l1 Q n = r2 at h w2
    refine wz_aload_n C rfl rfl dX12_groupOf_2 ?_
    refine wm_callV C (S := (I, J)) (o := 1000) (As := []) (st := []) (a' := 0) (b' := 0) (shK_w (by decide) rfl) rfl (k_X12_sets G hG hW I J _ h) 0 gX12_groupOf_X12_sets rfl (by decide +kernel) (by rw [hX]; exact ⟨Nat.le_of_ble_eq_true rfl, Nat.le_of_ble_eq_true rfl⟩) rfl (Nat.le_of_ble_eq_true rfl) (by show 0 + (0) = 0; omega) (by show 0 + (0) = 0; omega) rfl dX12_groupOf_3 (kk_sK (fun v1 I1 J1 h => ?_))
    refine wz_iload_n C rfl rfl dX12_groupOf_6 ?_
    obtain ⟨g2, h⟩ := h
    refine wy_iald C g2 dX12_groupOf_7 ?_
    refine wz_iload_n C rfl rfl dX12_groupOf_8 ?_
    refine wd_ishr C dX12_groupOf_9 ?_
    refine wz_iconst C dX12_groupOf_10 ?_
    refine wd_iand C dX12_groupOf_11 ?_
    refine wz_if_ne C (tgt := 21) (toInt_rg _) dX12_groupOf_12 (by decide) (fun c => ?_) (fun c => ?_)
    · replace h := h.1 c
      refine wz_iload_n C rfl rfl dX12_groupOf_21 ?_
      exact wz_iret C dX12_groupOf_22 ⟨_, rfl, h⟩
    · replace h := h.2 c
      refine wz_iinc_2 C rfl dX12_groupOf_15 ?_
      refine wz_goto C dX12_groupOf_18 (tgt := 2) (by decide) ?_
      exact Wz.less (a0 := 0) (b0 := 0) (by omega) (by omega) (w2 (l2 + 1) I1 J1 h)
set_option maxHeartbeats 4000000 in
set_option maxRecDepth 100000 in
theorem k_X12_groupOf (G : KG) (hG : Kok G) (hW : KWx G)  (l1 : Int) (I : Ii) (J : Jj) (Q : Int → Ii → Jj → Prop) (h : wp_X12_groupOf l1 I J Q) : Ctr G yX12_groupOf wsX12_groupOf rm_X12_groupOf [.ref (kadr G 1000), .int (iZ l1)] (I, J) (QsI Q) := by
  unfold wp_X12_groupOf at h
  refine Ctr.ofZ (cc := cX12_groupOf) (nL := 3) (ret := (some .int)) [some (.ref (kadr G 1000)), some (.int (iZ l1)), none] hG (by decide +kernel) rfl (Nat.le_of_ble_eq_true rfl) (Nat.le_of_ble_eq_true rfl) (by simp [lvA, lv_args, Value.category]) ?_
  intro X hX C
  refine (?_ : Wz G X 3 (QsU G X (QsI Q)) 0 0 0 [some (.ref (kadr G 1000)), some (.int (iZ l1)), none] [] I J)
  refine wz_iconst C dX12_groupOf_0 ?_
  refine wz_istore_2 C rfl dX12_groupOf_1 ?_
  obtain ⟨n, h⟩ := h
  exact Wz.less (a0 := 0) (b0 := 0) (by omega) (by omega) (lk_X12_groupOf_2 G hG hW X hX C l1 Q n 0 I J h)
theorem in_X12_weightOf_X12 : ∀ w ∈ wsX120, w ∈ wsX12_weightOf := by decide +kernel
theorem f_X12_weightOf_87 : FLk wsX12_weightOf RX12 87 15 0 := flk 15 0 rfl tyX12_ok nmX12 in_X12_weightOf_X12 (by decide) (by decide +kernel)
theorem f_X12_weightOf_13 : FLk wsX12_weightOf RX12 13 15 5 := flk 15 5 rfl tyX12_ok nmX12 in_X12_weightOf_X12 (by decide) (by decide +kernel)
def rm_X12_weightOf : Room := { frames := 0, cells := 0, slots := 0, locals := 0 }
set_option maxHeartbeats 4000000 in
set_option maxRecDepth 100000 in
theorem lk_X12_weightOf_4 (G : KG) (hG : Kok G) (hW : KWx G) (X : KX) (hX : KR X = rm_X12_weightOf) (C : Fr G X cX12_weightOf 4 yX12_weightOf.cls (some .int) wsX12_weightOf) (l1 : Int) (Q : Int → Ii → Jj → Prop) : ∀ (n : Nat) (l2 : Int) (l3 : Int) (I : Ii) (J : Jj), L_X12_weightOf_4 l1 Q n l2 l3 I J → Wz G X 4 (QsU G X (QsI Q)) 0 0 4 [some (.ref (kadr G 1000)), some (.int (iZ l1)), some (.int (iZ l2)), some (.int (iZ l3))] [] I J := by
  intro n
  induction n with
  | zero => intro l2 l3 I J h; exact False.elim h
  | succ n w4 =>
    intro l2 l3 I J h
    have h : Lb_X12_weightOf_4 l1 Q (L_X12_weightOf_4 l1 Q n) l2 l3 I J := h
    unfold Lb_X12_weightOf_4 at h
    generalize L_X12_weightOf_4 l1 Q n = r4 at h w4
    refine wz_iload_n C rfl rfl dX12_weightOf_4 ?_
    refine wz_aload_n C rfl rfl dX12_weightOf_5 ?_
    refine wz_getI C rfl f_X12_weightOf_87 (sOw rfl (by decide)) dX12_weightOf_6 ?_
    obtain ⟨g1, h⟩ := h
    obtain ⟨g2, h⟩ := h
    refine wz_icmp_ge C (tgt := 33) g1 g2 dX12_weightOf_9 (by decide) (fun c => ?_) (fun c => ?_)
    · replace h := h.1 c
      refine wz_iload_n C rfl rfl dX12_weightOf_33 ?_
      exact wz_iret C dX12_weightOf_34 ⟨_, rfl, h⟩
    · replace h := h.2 c
      refine wz_iload_n C rfl rfl dX12_weightOf_12 ?_
      refine wz_iload_n C rfl rfl dX12_weightOf_13 ?_
      refine wz_iload_n C rfl rfl dX12_weightOf_14 ?_
      refine wd_ishr C dX12_weightOf_15 ?_
      refine wz_iconst C dX12_weightOf_16 ?_
      refine wd_iand C dX12_weightOf_17 ?_
      refine wz_aload_n C rfl rfl dX12_weightOf_18 ?_
      refine wz_getR C (j := 1001) f_X12_weightOf_13 (sOw rfl (by decide)) (by decide) dX12_weightOf_19 ?_
      refine wz_iload_n C rfl rfl dX12_weightOf_22 ?_
      obtain ⟨g3, h⟩ := h
      refine wz_iaload C l3.toNat (n := 14) (sRw rfl (by decide)) (zN g3) (zL g3) (by decide) rfl dX12_weightOf_23 ?_
      refine wz_imul C dX12_weightOf_24 ?_
      refine wz_iadd C dX12_weightOf_25 ?_
      refine wz_istore_2 C rfl dX12_weightOf_26 ?_
      refine wz_iinc_3 C rfl dX12_weightOf_27 ?_
      refine wz_goto C dX12_weightOf_30 (tgt := 4) (by decide) ?_
      exact Wz.less (a0 := 0) (b0 := 0) (by omega) (by omega) (w4 (l2 + ((andZ (shrZ l1 l3) 1) * (I 1001 l3.toNat))) (l3 + 1) I J h)
set_option maxHeartbeats 4000000 in
set_option maxRecDepth 100000 in
theorem k_X12_weightOf (G : KG) (hG : Kok G) (hW : KWx G)  (l1 : Int) (I : Ii) (J : Jj) (Q : Int → Ii → Jj → Prop) (h : wp_X12_weightOf l1 I J Q) : Ctr G yX12_weightOf wsX12_weightOf rm_X12_weightOf [.ref (kadr G 1000), .int (iZ l1)] (I, J) (QsI Q) := by
  unfold wp_X12_weightOf at h
  refine Ctr.ofZ (cc := cX12_weightOf) (nL := 4) (ret := (some .int)) [some (.ref (kadr G 1000)), some (.int (iZ l1)), none, none] hG (by decide +kernel) rfl (Nat.le_of_ble_eq_true rfl) (Nat.le_of_ble_eq_true rfl) (by simp [lvA, lv_args, Value.category]) ?_
  intro X hX C
  refine (?_ : Wz G X 4 (QsU G X (QsI Q)) 0 0 0 [some (.ref (kadr G 1000)), some (.int (iZ l1)), none, none] [] I J)
  refine wz_iconst C dX12_weightOf_0 ?_
  refine wz_istore_2 C rfl dX12_weightOf_1 ?_
  refine wz_iconst C dX12_weightOf_2 ?_
  refine wz_istore_3 C rfl dX12_weightOf_3 ?_
  obtain ⟨n, h⟩ := h
  exact Wz.less (a0 := 0) (b0 := 0) (by omega) (by omega) (lk_X12_weightOf_4 G hG hW X hX C l1 Q n 0 0 I J h)
theorem in_X12_all_X12 : ∀ w ∈ wsX120, w ∈ wsX12_all := by decide +kernel
theorem f_X12_all_87 : FLk wsX12_all RX12 87 15 0 := flk 15 0 rfl tyX12_ok nmX12 in_X12_all_X12 (by decide) (by decide +kernel)
def rm_X12_all : Room := { frames := 0, cells := 0, slots := 0, locals := 0 }
set_option maxHeartbeats 4000000 in
set_option maxRecDepth 100000 in
theorem k_X12_all (G : KG) (hG : Kok G) (hW : KWx G)  (I : Ii) (J : Jj) (Q : Int → Ii → Jj → Prop) (h : wp_X12_all I J Q) : Ctr G yX12_all wsX12_all rm_X12_all [.ref (kadr G 1000)] (I, J) (QsI Q) := by
  unfold wp_X12_all at h
  refine Ctr.ofZ (cc := cX12_all) (nL := 1) (ret := (some .int)) [some (.ref (kadr G 1000))] hG (by decide +kernel) rfl (Nat.le_of_ble_eq_true rfl) (Nat.le_of_ble_eq_true rfl) (by simp [lvA, lv_args, Value.category]) ?_
  intro X hX C
  refine (?_ : Wz G X 1 (QsU G X (QsI Q)) 0 0 0 [some (.ref (kadr G 1000))] [] I J)
  refine wz_iconst C dX12_all_0 ?_
  refine wz_aload_n C rfl rfl dX12_all_1 ?_
  refine wz_getI C rfl f_X12_all_87 (sOw rfl (by decide)) dX12_all_2 ?_
  refine wd_ishl C dX12_all_5 ?_
  refine wz_iconst C dX12_all_6 ?_
  refine wz_isub C dX12_all_7 ?_
  exact wz_iret C dX12_all_8 ⟨_, rfl, h⟩
theorem in_X12_inPart_X12 : ∀ w ∈ wsX120, w ∈ wsX12_inPart := by decide +kernel
theorem f_X12_inPart_87 : FLk wsX12_inPart RX12 87 15 0 := flk 15 0 rfl tyX12_ok nmX12 in_X12_inPart_X12 (by decide) (by decide +kernel)
theorem f_X12_inPart_17 : FLk wsX12_inPart RX12 17 15 6 := flk 15 6 rfl tyX12_ok nmX12 in_X12_inPart_X12 (by decide) (by decide +kernel)
def rm_X12_inPart : Room := { frames := 0, cells := 0, slots := 0, locals := 0 }
set_option maxHeartbeats 4000000 in
set_option maxRecDepth 100000 in
theorem lk_X12_inPart_4 (G : KG) (hG : Kok G) (hW : KWx G) (X : KX) (hX : KR X = rm_X12_inPart) (C : Fr G X cX12_inPart 4 yX12_inPart.cls (some .int) wsX12_inPart) (l1 : Int) (Q : Int → Ii → Jj → Prop) : ∀ (n : Nat) (l2 : Int) (l3 : Int) (I : Ii) (J : Jj), L_X12_inPart_4 l1 Q n l2 l3 I J → Wz G X 4 (QsU G X (QsI Q)) 0 0 4 [some (.ref (kadr G 1000)), some (.int (iZ l1)), some (.int (iZ l2)), some (.int (iZ l3))] [] I J := by
  intro n
  induction n with
  | zero => intro l2 l3 I J h; exact False.elim h
  | succ n w4 =>
    intro l2 l3 I J h
    have h : Lb_X12_inPart_4 l1 Q (L_X12_inPart_4 l1 Q n) l2 l3 I J := h
    unfold Lb_X12_inPart_4 at h
    generalize L_X12_inPart_4 l1 Q n = r4 at h w4
    refine wz_iload_n C rfl rfl dX12_inPart_4 ?_
    refine wz_aload_n C rfl rfl dX12_inPart_5 ?_
    refine wz_getI C rfl f_X12_inPart_87 (sOw rfl (by decide)) dX12_inPart_6 ?_
    obtain ⟨g1, h⟩ := h
    obtain ⟨g2, h⟩ := h
    refine wz_icmp_ge C (tgt := 38) g1 g2 dX12_inPart_9 (by decide) (fun c => ?_) (fun c => ?_)
    · replace h := h.1 c
      refine wz_iload_n C rfl rfl dX12_inPart_38 ?_
      exact wz_iret C dX12_inPart_39 ⟨_, rfl, h⟩
    · replace h := h.2 c
      refine wz_iload_n C rfl rfl dX12_inPart_12 ?_
      refine wz_aload_n C rfl rfl dX12_inPart_13 ?_
      refine wz_getR C (j := 1002) f_X12_inPart_17 (sOw rfl (by decide)) (by decide) dX12_inPart_14 ?_
      refine wz_iload_n C rfl rfl dX12_inPart_17 ?_
      obtain ⟨g3, h⟩ := h
      refine wz_iaload C l3.toNat (n := 14) (sRw rfl (by decide)) (zN g3) (zL g3) (by decide) rfl dX12_inPart_18 ?_
      refine wz_iload_n C rfl rfl dX12_inPart_19 ?_
      obtain ⟨g4, h⟩ := h
      obtain ⟨g5, h⟩ := h
      refine wz_icmp_ne C (tgt := 29) g4 g5 dX12_inPart_20 (by decide) (fun c => ?_) (fun c => ?_)
      · replace h := h.1 c
        refine wz_iconst C dX12_inPart_29 ?_
        refine wd_ior C dX12_inPart_30 ?_
        refine wz_istore_2 C rfl dX12_inPart_31 ?_
        refine wz_iinc_3 C rfl dX12_inPart_32 ?_
        refine wz_goto C dX12_inPart_35 (tgt := 4) (by decide) ?_
        exact Wz.less (a0 := 0) (b0 := 0) (by omega) (by omega) (w4 (orZ l2 0) (l3 + 1) I J h)
      · replace h := h.2 c
        refine wz_iconst C dX12_inPart_23 ?_
        refine wz_iload_n C rfl rfl dX12_inPart_24 ?_
        refine wd_ishl C dX12_inPart_25 ?_
        refine wz_goto C dX12_inPart_26 (tgt := 30) (by decide) ?_
        refine wd_ior C dX12_inPart_30 ?_
        refine wz_istore_2 C rfl dX12_inPart_31 ?_
        refine wz_iinc_3 C rfl dX12_inPart_32 ?_
        refine wz_goto C dX12_inPart_35 (tgt := 4) (by decide) ?_
        exact Wz.less (a0 := 0) (b0 := 0) (by omega) (by omega) (w4 (orZ l2 (shlZ 1 l3)) (l3 + 1) I J h)
set_option maxHeartbeats 4000000 in
set_option maxRecDepth 100000 in
theorem k_X12_inPart (G : KG) (hG : Kok G) (hW : KWx G)  (l1 : Int) (I : Ii) (J : Jj) (Q : Int → Ii → Jj → Prop) (h : wp_X12_inPart l1 I J Q) : Ctr G yX12_inPart wsX12_inPart rm_X12_inPart [.ref (kadr G 1000), .int (iZ l1)] (I, J) (QsI Q) := by
  unfold wp_X12_inPart at h
  refine Ctr.ofZ (cc := cX12_inPart) (nL := 4) (ret := (some .int)) [some (.ref (kadr G 1000)), some (.int (iZ l1)), none, none] hG (by decide +kernel) rfl (Nat.le_of_ble_eq_true rfl) (Nat.le_of_ble_eq_true rfl) (by simp [lvA, lv_args, Value.category]) ?_
  intro X hX C
  refine (?_ : Wz G X 4 (QsU G X (QsI Q)) 0 0 0 [some (.ref (kadr G 1000)), some (.int (iZ l1)), none, none] [] I J)
  refine wz_iconst C dX12_inPart_0 ?_
  refine wz_istore_2 C rfl dX12_inPart_1 ?_
  refine wz_iconst C dX12_inPart_2 ?_
  refine wz_istore_3 C rfl dX12_inPart_3 ?_
  obtain ⟨n, h⟩ := h
  exact Wz.less (a0 := 0) (b0 := 0) (by omega) (by omega) (lk_X12_inPart_4 G hG hW X hX C l1 Q n 0 0 I J h)
theorem in_X12_links_X12 : ∀ w ∈ wsX120, w ∈ wsX12_links := by decide +kernel
theorem f_X12_links_87 : FLk wsX12_links RX12 87 15 0 := flk 15 0 rfl tyX12_ok nmX12 in_X12_links_X12 (by decide) (by decide +kernel)
theorem f_X12_links_28 : FLk wsX12_links RX12 28 15 9 := flk 15 9 rfl tyX12_ok nmX12 in_X12_links_X12 (by decide) (by decide +kernel)
def rm_X12_links : Room := { frames := 0, cells := 0, slots := 0, locals := 0 }
set_option maxHeartbeats 4000000 in
set_option maxRecDepth 100000 in
theorem lk_X12_links_17 (G : KG) (hG : Kok G) (hW : KWx G) (X : KX) (hX : KR X = rm_X12_links) (C : Fr G X cX12_links 6 yX12_links.cls (some .int) wsX12_links) (l1 : Int) (l2 : Int) (Q : Int → Ii → Jj → Prop) (r5 : Int → Int → Ii → Jj → Prop) (w5 : ∀ (l3 : Int) (l4 : Int) (I : Ii) (J : Jj), r5 l3 l4 I J → Wz G X 6 (QsU G X (QsI Q)) 0 0 5 [some (.ref (kadr G 1000)), some (.int (iZ l1)), some (.int (iZ l2)), some (.int (iZ l3)), some (.int (iZ l4)), none] [] I J) : ∀ (n : Nat) (l3 : Int) (l4 : Int) (l5 : Int) (I : Ii) (J : Jj), L_X12_links_17 l1 l2 Q r5 n l3 l4 l5 I J → Wz G X 6 (QsU G X (QsI Q)) 0 0 17 [some (.ref (kadr G 1000)), some (.int (iZ l1)), some (.int (iZ l2)), some (.int (iZ l3)), some (.int (iZ l4)), some (.int (iZ l5))] [] I J := by
  intro n
  induction n with
  | zero => intro l3 l4 l5 I J h; exact False.elim h
  | succ n w17 =>
    intro l3 l4 l5 I J h
    have h : Lb_X12_links_17 l1 l2 Q r5 (L_X12_links_17 l1 l2 Q r5 n) l3 l4 l5 I J := h
    unfold Lb_X12_links_17 at h
    generalize L_X12_links_17 l1 l2 Q r5 n = r17 at h w17
    refine wz_iload C rfl dX12_links_17 ?_
    refine wz_aload_n C rfl rfl dX12_links_19 ?_
    refine wz_getI C rfl f_X12_links_87 (sOw rfl (by decide)) dX12_links_20 ?_
    obtain ⟨g3, h⟩ := h
    obtain ⟨g4, h⟩ := h
    refine wz_icmp_ge C (tgt := 62) g3 g4 dX12_links_23 (by decide) (fun c => ?_) (fun c => ?_)
    · replace h := h.1 c
      refine wz_iinc_4 C rfl dX12_links_62 ?_
      refine wz_goto C dX12_links_65 (tgt := 5) (by decide) ?_
      exact Wz.less (a0 := 0) (b0 := 0) (by omega) (by omega) (Wz.drop (w5 l3 (l4 + 1) I J h) (And.intro rfl (And.intro rfl (And.intro rfl (And.intro rfl (And.intro rfl trivial))))))
    · replace h := h.2 c
      refine wz_iload_n C rfl rfl dX12_links_26 ?_
      refine wz_iload C rfl dX12_links_27 ?_
      refine wd_ishr C dX12_links_29 ?_
      refine wz_iconst C dX12_links_30 ?_
      refine wd_iand C dX12_links_31 ?_
      refine wz_iconst C dX12_links_32 ?_
      refine wz_icmp_ne C (tgt := 62) (toInt_rg _) (by decide) dX12_links_33 (by decide) (fun c => ?_) (fun c => ?_)
      · replace h := h.1 c
        refine wz_iinc_4 C rfl dX12_links_62 ?_
        refine wz_goto C dX12_links_65 (tgt := 5) (by decide) ?_
        exact Wz.less (a0 := 0) (b0 := 0) (by omega) (by omega) (Wz.drop (w5 l3 (l4 + 1) I J h) (And.intro rfl (And.intro rfl (And.intro rfl (And.intro rfl (And.intro rfl trivial))))))
      · replace h := h.2 c
        refine wz_iload_n C rfl rfl dX12_links_36 ?_
        refine wz_iload_n C rfl rfl dX12_links_37 ?_
        refine wz_iload C rfl dX12_links_38 ?_
        refine wd_ishr C dX12_links_40 ?_
        refine wz_iconst C dX12_links_41 ?_
        refine wd_iand C dX12_links_42 ?_
        refine wz_aload_n C rfl rfl dX12_links_43 ?_
        refine wz_getR C (j := 1005) f_X12_links_28 (sOw rfl (by decide)) (by decide) dX12_links_44 ?_
        refine wz_iload C rfl dX12_links_47 ?_
        obtain ⟨g5, h⟩ := h
        refine wy_aald6 C g5 dX12_links_49 ?_
        refine wz_iload C rfl dX12_links_50 ?_
        obtain ⟨g6, h⟩ := h
        refine wz_iaload C l5.toNat (n := 14) (sRw_tab g5) (zN g6) (zL g6) (by decide) rfl dX12_links_52 ?_
        refine wz_imul C dX12_links_53 ?_
        refine wz_iadd C dX12_links_54 ?_
        refine wz_istore_3 C rfl dX12_links_55 ?_
        refine wz_iinc_5 C rfl dX12_links_56 ?_
        refine wz_goto C dX12_links_59 (tgt := 17) (by decide) ?_
        exact Wz.less (a0 := 0) (b0 := 0) (by omega) (by omega) (w17 (l3 + ((andZ (shrZ l2 l5) 1) * (I (1006 + l4.toNat) l5.toNat))) l4 (l5 + 1) I J h)
set_option maxHeartbeats 4000000 in
set_option maxRecDepth 100000 in
theorem lk_X12_links_5 (G : KG) (hG : Kok G) (hW : KWx G) (X : KX) (hX : KR X = rm_X12_links) (C : Fr G X cX12_links 6 yX12_links.cls (some .int) wsX12_links) (l1 : Int) (l2 : Int) (Q : Int → Ii → Jj → Prop) : ∀ (n : Nat) (l3 : Int) (l4 : Int) (I : Ii) (J : Jj), L_X12_links_5 l1 l2 Q n l3 l4 I J → Wz G X 6 (QsU G X (QsI Q)) 0 0 5 [some (.ref (kadr G 1000)), some (.int (iZ l1)), some (.int (iZ l2)), some (.int (iZ l3)), some (.int (iZ l4)), none] [] I J := by
  intro n
  induction n with
  | zero => intro l3 l4 I J h; exact False.elim h
  | succ n w5 =>
    intro l3 l4 I J h
    have h : Lb_X12_links_5 l1 l2 Q (L_X12_links_5 l1 l2 Q n) l3 l4 I J := h
    unfold Lb_X12_links_5 at h
    generalize L_X12_links_5 l1 l2 Q n = r5 at h w5
    refine wz_iload C rfl dX12_links_5 ?_
    refine wz_aload_n C rfl rfl dX12_links_7 ?_
    refine wz_getI C rfl f_X12_links_87 (sOw rfl (by decide)) dX12_links_8 ?_
    obtain ⟨g1, h⟩ := h
    obtain ⟨g2, h⟩ := h
    refine wz_icmp_ge C (tgt := 68) g1 g2 dX12_links_11 (by decide) (fun c => ?_) (fun c => ?_)
    · replace h := h.1 c
      refine wz_iload_n C rfl rfl dX12_links_68 ?_
      exact wz_iret C dX12_links_69 ⟨_, rfl, h⟩
    · replace h := h.2 c
      refine wz_iconst C dX12_links_14 ?_
      refine wz_istore_5 C rfl dX12_links_15 ?_
      obtain ⟨n, h⟩ := h
      exact Wz.less (a0 := 0) (b0 := 0) (by omega) (by omega) (lk_X12_links_17 G hG hW X hX C l1 l2 Q r5 w5 n l3 l4 0 I J h)
set_option maxHeartbeats 4000000 in
set_option maxRecDepth 100000 in
theorem k_X12_links (G : KG) (hG : Kok G) (hW : KWx G)  (l1 : Int) (l2 : Int) (I : Ii) (J : Jj) (Q : Int → Ii → Jj → Prop) (h : wp_X12_links l1 l2 I J Q) : Ctr G yX12_links wsX12_links rm_X12_links [.ref (kadr G 1000), .int (iZ l1), .int (iZ l2)] (I, J) (QsI Q) := by
  unfold wp_X12_links at h
  refine Ctr.ofZ (cc := cX12_links) (nL := 6) (ret := (some .int)) [some (.ref (kadr G 1000)), some (.int (iZ l1)), some (.int (iZ l2)), none, none, none] hG (by decide +kernel) rfl (Nat.le_of_ble_eq_true rfl) (Nat.le_of_ble_eq_true rfl) (by simp [lvA, lv_args, Value.category]) ?_
  intro X hX C
  refine (?_ : Wz G X 6 (QsU G X (QsI Q)) 0 0 0 [some (.ref (kadr G 1000)), some (.int (iZ l1)), some (.int (iZ l2)), none, none, none] [] I J)
  refine wz_iconst C dX12_links_0 ?_
  refine wz_istore_3 C rfl dX12_links_1 ?_
  refine wz_iconst C dX12_links_2 ?_
  refine wz_istore_4 C rfl dX12_links_3 ?_
  obtain ⟨n, h⟩ := h
  exact Wz.less (a0 := 0) (b0 := 0) (by omega) (by omega) (lk_X12_links_5 G hG hW X hX C l1 l2 Q n 0 0 I J h)
theorem in_X12_limit_X12 : ∀ w ∈ wsX120, w ∈ wsX12_limit := by decide +kernel
theorem f_X12_limit_7 : FLk wsX12_limit RX12 7 15 1 := flk 15 1 rfl tyX12_ok nmX12 in_X12_limit_X12 (by decide) (by decide +kernel)
theorem f_X12_limit_79 : FLk wsX12_limit RX12 79 15 2 := flk 15 2 rfl tyX12_ok nmX12 in_X12_limit_X12 (by decide) (by decide +kernel)
def rm_X12_limit : Room := { frames := 1, cells := 0, slots := 0, locals := 23 }
set_option maxHeartbeats 4000000 in
set_option maxRecDepth 100000 in
theorem lk_X12_limit_2 (G : KG) (hG : Kok G) (hW : KWx G) (X : KX) (hX : KR X = rm_X12_limit) (C : Fr G X cX12_limit 2 yX12_limit.cls (some .int) wsX12_limit) (Q : Int → Ii → Jj → Prop) : ∀ (n : Nat) (l1 : Int) (I : Ii) (J : Jj), L_X12_limit_2 Q n l1 I J → Wz G X 2 (QsU G X (QsI Q)) 0 0 2 [some (.ref (kadr G 1000)), some (.int (iZ l1))] [] I J := by
  intro n
  induction n with
  | zero => intro l1 I J h; exact False.elim h
  | succ n w2 =>
    intro l1 I J h
    have h : Lb_X12_limit_2 Q (L_X12_limit_2 Q n) l1 I J := h
    unfold Lb_X12_limit_2 at h
    generalize L_X12_limit_2 Q n = r2 at h w2
    refine wz_aload_n C rfl rfl dX12_limit_2 ?_
    refine wz_getI C rfl f_X12_limit_7 (sOw rfl (by decide)) dX12_limit_3 ?_
    refine wz_iload_n C rfl rfl dX12_limit_6 ?_
    refine wz_imul C dX12_limit_7 ?_
    refine wz_aload_n C rfl rfl dX12_limit_8 ?_
    refine wz_aload_n C rfl rfl dX12_limit_9 ?_
    refine wm_callV C (S := (I, J)) (o := 1000) (As := []) (st := [.ref (kadr G 1000), .int (iZ ((I 1000 1) * l1))]) (a' := 0) (b' := 0) (shK_w (by decide) rfl) rfl (k_X12_all G hG hW I J _ h) 0 gX12_limit_X12_all rfl (by decide +kernel) (by rw [hX]; exact ⟨Nat.le_of_ble_eq_true rfl, Nat.le_of_ble_eq_true rfl⟩) rfl (Nat.le_of_ble_eq_true rfl) (by show 0 + (0) = 0; omega) (by show 0 + (0) = 0; omega) rfl dX12_limit_10 (kk_sI (fun v1 I1 J1 h => ?_))
    refine wm_callV C (S := (I1, J1)) (o := 1000) (As := [.int (iZ v1)]) (st := [.int (iZ ((I 1000 1) * l1))]) (a' := 0) (b' := 0) (shK_w (by decide) rfl) rfl (k_X12_weightOf G hG hW v1 I1 J1 _ h) 1 gX12_limit_X12_weightOf rfl (by decide +kernel) (by rw [hX]; exact ⟨Nat.le_of_ble_eq_true rfl, Nat.le_of_ble_eq_true rfl⟩) rfl (Nat.le_of_ble_eq_true rfl) (by show 0 + (0) = 0; omega) (by show 0 + (0) = 0; omega) rfl dX12_limit_13 (kk_sI (fun v2 I2 J2 h => ?_))
    obtain ⟨g3, h⟩ := h
    obtain ⟨g4, h⟩ := h
    refine wz_icmp_ge C (tgt := 25) g3 g4 dX12_limit_16 (by decide) (fun c => ?_) (fun c => ?_)
    · replace h := h.1 c
      refine wz_iload_n C rfl rfl dX12_limit_25 ?_
      refine wz_aload_n C rfl rfl dX12_limit_26 ?_
      refine wz_getI C rfl f_X12_limit_79 (sOw rfl (by decide)) dX12_limit_27 ?_
      refine wz_iadd C dX12_limit_30 ?_
      exact wz_iret C dX12_limit_31 ⟨_, rfl, h⟩
    · replace h := h.2 c
      refine wz_iinc_1 C rfl dX12_limit_19 ?_
      refine wz_goto C dX12_limit_22 (tgt := 2) (by decide) ?_
      exact Wz.less (a0 := 0) (b0 := 0) (by omega) (by omega) (w2 (l1 + 1) I2 J2 h)
set_option maxHeartbeats 4000000 in
set_option maxRecDepth 100000 in
theorem k_X12_limit (G : KG) (hG : Kok G) (hW : KWx G)  (I : Ii) (J : Jj) (Q : Int → Ii → Jj → Prop) (h : wp_X12_limit I J Q) : Ctr G yX12_limit wsX12_limit rm_X12_limit [.ref (kadr G 1000)] (I, J) (QsI Q) := by
  unfold wp_X12_limit at h
  refine Ctr.ofZ (cc := cX12_limit) (nL := 2) (ret := (some .int)) [some (.ref (kadr G 1000)), none] hG (by decide +kernel) rfl (Nat.le_of_ble_eq_true rfl) (Nat.le_of_ble_eq_true rfl) (by simp [lvA, lv_args, Value.category]) ?_
  intro X hX C
  refine (?_ : Wz G X 2 (QsU G X (QsI Q)) 0 0 0 [some (.ref (kadr G 1000)), none] [] I J)
  refine wz_iconst C dX12_limit_0 ?_
  refine wz_istore_1 C rfl dX12_limit_1 ?_
  obtain ⟨n, h⟩ := h
  exact Wz.less (a0 := 0) (b0 := 0) (by omega) (by omega) (lk_X12_limit_2 G hG hW X hX C Q n 0 I J h)
theorem in_X12_debts_X12 : ∀ w ∈ wsX120, w ∈ wsX12_debts := by decide +kernel
theorem f_X12_debts_7 : FLk wsX12_debts RX12 7 15 1 := flk 15 1 rfl tyX12_ok nmX12 in_X12_debts_X12 (by decide) (by decide +kernel)
def rm_X12_debts : Room := { frames := 2, cells := 0, slots := 0, locals := 44 }
set_option maxHeartbeats 4000000 in
set_option maxRecDepth 100000 in
theorem lk_X12_debts_4 (G : KG) (hG : Kok G) (hW : KWx G) (X : KX) (hX : KR X = rm_X12_debts) (C : Fr G X cX12_debts 3 yX12_debts.cls (some .int) wsX12_debts) (Q : Int → Ii → Jj → Prop) : ∀ (n : Nat) (l1 : Int) (l2 : Int) (I : Ii) (J : Jj), L_X12_debts_4 Q n l1 l2 I J → Wz G X 3 (QsU G X (QsI Q)) 0 0 4 [some (.ref (kadr G 1000)), some (.int (iZ l1)), some (.int (iZ l2))] [] I J := by
  intro n
  induction n with
  | zero => intro l1 l2 I J h; exact False.elim h
  | succ n w4 =>
    intro l1 l2 I J h
    have h : Lb_X12_debts_4 Q (L_X12_debts_4 Q n) l1 l2 I J := h
    unfold Lb_X12_debts_4 at h
    generalize L_X12_debts_4 Q n = r4 at h w4
    refine wz_iload_n C rfl rfl dX12_debts_4 ?_
    refine wz_aload_n C rfl rfl dX12_debts_5 ?_
    refine wz_getI C rfl f_X12_debts_7 (sOw rfl (by decide)) dX12_debts_6 ?_
    obtain ⟨g1, h⟩ := h
    obtain ⟨g2, h⟩ := h
    refine wz_icmp_ge C (tgt := 39) g1 g2 dX12_debts_9 (by decide) (fun c => ?_) (fun c => ?_)
    · replace h := h.1 c
      refine wz_iload_n C rfl rfl dX12_debts_39 ?_
      exact wz_iret C dX12_debts_40 ⟨_, rfl, h⟩
    · replace h := h.2 c
      refine wz_iload_n C rfl rfl dX12_debts_12 ?_
      refine wz_iconst C dX12_debts_13 ?_
      refine wz_aload_n C rfl rfl dX12_debts_14 ?_
      refine wz_aload_n C rfl rfl dX12_debts_15 ?_
      refine wz_iload_n C rfl rfl dX12_debts_16 ?_
      refine wm_callV C (S := (I, J)) (o := 1000) (As := [.int (iZ l2)]) (st := [.ref (kadr G 1000), .int (iZ 0), .int (iZ l1)]) (a' := 0) (b' := 0) (shK_w (by decide) rfl) rfl (k_X12_inPart G hG hW l2 I J _ h) 1 gX12_debts_X12_inPart rfl (by decide +kernel) (by rw [hX]; exact ⟨Nat.le_of_ble_eq_true rfl, Nat.le_of_ble_eq_true rfl⟩) rfl (Nat.le_of_ble_eq_true rfl) (by show 0 + (0) = 0; omega) (by show 0 + (0) = 0; omega) rfl dX12_debts_17 (kk_sI (fun v3 I3 J3 h => ?_))
      refine wm_callV C (S := (I3, J3)) (o := 1000) (As := [.int (iZ v3)]) (st := [.int (iZ 0), .int (iZ l1)]) (a' := 0) (b' := 0) (shK_w (by decide) rfl) rfl (k_X12_weightOf G hG hW v3 I3 J3 _ h) 1 gX12_debts_X12_weightOf rfl (by decide +kernel) (by rw [hX]; exact ⟨Nat.le_of_ble_eq_true rfl, Nat.le_of_ble_eq_true rfl⟩) rfl (Nat.le_of_ble_eq_true rfl) (by show 0 + (0) = 0; omega) (by show 0 + (0) = 0; omega) rfl dX12_debts_20 (kk_sI (fun v4 I4 J4 h => ?_))
      refine wz_aload_n C rfl rfl dX12_debts_23 ?_
      refine wm_callV C (S := (I4, J4)) (o := 1000) (As := []) (st := [.int (iZ v4), .int (iZ 0), .int (iZ l1)]) (a' := 0) (b' := 0) (shK_w (by decide) rfl) rfl (k_X12_limit G hG hW I4 J4 _ h) 0 gX12_debts_X12_limit rfl (by decide +kernel) (by rw [hX]; exact ⟨Nat.le_of_ble_eq_true rfl, Nat.le_of_ble_eq_true rfl⟩) rfl (Nat.le_of_ble_eq_true rfl) (by show 0 + (0) = 0; omega) (by show 0 + (0) = 0; omega) rfl dX12_debts_24 (kk_sI (fun v5 I5 J5 h => ?_))
      refine wz_isub C dX12_debts_27 ?_
      refine wd_max C (st := [.int (iZ l1)]) h (by decide +kernel) (by decide +kernel) (by decide +kernel) (by decide +kernel) (by rw [hX]; exact ⟨Nat.le_of_ble_eq_true rfl, Nat.le_of_ble_eq_true rfl⟩) dX12_debts_28 (fun v6 I6 J6 h => ?_)
      refine wz_iadd C dX12_debts_31 ?_
      refine wz_istore_1 C rfl dX12_debts_32 ?_
      refine wz_iinc_2 C rfl dX12_debts_33 ?_
      refine wz_goto C dX12_debts_36 (tgt := 4) (by decide) ?_
      exact Wz.less (a0 := 0) (b0 := 0) (by omega) (by omega) (w4 (l1 + v6) (l2 + 1) I6 J6 h)
set_option maxHeartbeats 4000000 in
set_option maxRecDepth 100000 in
theorem k_X12_debts (G : KG) (hG : Kok G) (hW : KWx G)  (I : Ii) (J : Jj) (Q : Int → Ii → Jj → Prop) (h : wp_X12_debts I J Q) : Ctr G yX12_debts wsX12_debts rm_X12_debts [.ref (kadr G 1000)] (I, J) (QsI Q) := by
  unfold wp_X12_debts at h
  refine Ctr.ofZ (cc := cX12_debts) (nL := 3) (ret := (some .int)) [some (.ref (kadr G 1000)), none, none] hG (by decide +kernel) rfl (Nat.le_of_ble_eq_true rfl) (Nat.le_of_ble_eq_true rfl) (by simp [lvA, lv_args, Value.category]) ?_
  intro X hX C
  refine (?_ : Wz G X 3 (QsU G X (QsI Q)) 0 0 0 [some (.ref (kadr G 1000)), none, none] [] I J)
  refine wz_iconst C dX12_debts_0 ?_
  refine wz_istore_1 C rfl dX12_debts_1 ?_
  refine wz_iconst C dX12_debts_2 ?_
  refine wz_istore_2 C rfl dX12_debts_3 ?_
  obtain ⟨n, h⟩ := h
  exact Wz.less (a0 := 0) (b0 := 0) (by omega) (by omega) (lk_X12_debts_4 G hG hW X hX C Q n 0 0 I J h)
theorem in_X12_cut_X12 : ∀ w ∈ wsX120, w ∈ wsX12_cut := by decide +kernel
theorem f_X12_cut_87 : FLk wsX12_cut RX12 87 15 0 := flk 15 0 rfl tyX12_ok nmX12 in_X12_cut_X12 (by decide) (by decide +kernel)
theorem f_X12_cut_17 : FLk wsX12_cut RX12 17 15 6 := flk 15 6 rfl tyX12_ok nmX12 in_X12_cut_X12 (by decide) (by decide +kernel)
theorem f_X12_cut_28 : FLk wsX12_cut RX12 28 15 9 := flk 15 9 rfl tyX12_ok nmX12 in_X12_cut_X12 (by decide) (by decide +kernel)
def rm_X12_cut : Room := { frames := 0, cells := 0, slots := 0, locals := 0 }
set_option maxHeartbeats 4000000 in
set_option maxRecDepth 100000 in
theorem lk_X12_cut_14 (G : KG) (hG : Kok G) (hW : KWx G) (X : KX) (hX : KR X = rm_X12_cut) (C : Fr G X cX12_cut 4 yX12_cut.cls (some .int) wsX12_cut) (Q : Int → Ii → Jj → Prop) (r4 : Int → Int → Ii → Jj → Prop) (w4 : ∀ (l1 : Int) (l2 : Int) (I : Ii) (J : Jj), r4 l1 l2 I J → Wz G X 4 (QsU G X (QsI Q)) 0 0 4 [some (.ref (kadr G 1000)), some (.int (iZ l1)), some (.int (iZ l2)), none] [] I J) : ∀ (n : Nat) (l1 : Int) (l2 : Int) (l3 : Int) (I : Ii) (J : Jj), L_X12_cut_14 Q r4 n l1 l2 l3 I J → Wz G X 4 (QsU G X (QsI Q)) 0 0 14 [some (.ref (kadr G 1000)), some (.int (iZ l1)), some (.int (iZ l2)), some (.int (iZ l3))] [] I J := by
  intro n
  induction n with
  | zero => intro l1 l2 l3 I J h; exact False.elim h
  | succ n w14 =>
    intro l1 l2 l3 I J h
    have h : Lb_X12_cut_14 Q r4 (L_X12_cut_14 Q r4 n) l1 l2 l3 I J := h
    unfold Lb_X12_cut_14 at h
    generalize L_X12_cut_14 Q r4 n = r14 at h w14
    refine wz_iload_n C rfl rfl dX12_cut_14 ?_
    refine wz_iload_n C rfl rfl dX12_cut_15 ?_
    obtain ⟨g3, h⟩ := h
    obtain ⟨g4, h⟩ := h
    refine wz_icmp_ge C (tgt := 55) g3 g4 dX12_cut_16 (by decide) (fun c => ?_) (fun c => ?_)
    · replace h := h.1 c
      refine wz_iinc_2 C rfl dX12_cut_55 ?_
      refine wz_goto C dX12_cut_58 (tgt := 4) (by decide) ?_
      exact Wz.less (a0 := 0) (b0 := 0) (by omega) (by omega) (Wz.drop (w4 l1 (l2 + 1) I J h) (And.intro rfl (And.intro rfl (And.intro rfl trivial))))
    · replace h := h.2 c
      refine wz_iload_n C rfl rfl dX12_cut_19 ?_
      refine wz_aload_n C rfl rfl dX12_cut_20 ?_
      refine wz_getR C (j := 1002) f_X12_cut_17 (sOw rfl (by decide)) (by decide) dX12_cut_21 ?_
      refine wz_iload_n C rfl rfl dX12_cut_24 ?_
      obtain ⟨g5, h⟩ := h
      refine wz_iaload C l2.toNat (n := 14) (sRw rfl (by decide)) (zN g5) (zL g5) (by decide) rfl dX12_cut_25 ?_
      refine wz_aload_n C rfl rfl dX12_cut_26 ?_
      refine wz_getR C (j := 1002) f_X12_cut_17 (sOw rfl (by decide)) (by decide) dX12_cut_27 ?_
      refine wz_iload_n C rfl rfl dX12_cut_30 ?_
      obtain ⟨g6, h⟩ := h
      refine wz_iaload C l3.toNat (n := 14) (sRw rfl (by decide)) (zN g6) (zL g6) (by decide) rfl dX12_cut_31 ?_
      obtain ⟨g7, h⟩ := h
      obtain ⟨g8, h⟩ := h
      refine wz_icmp_ne C (tgt := 39) g7 g8 dX12_cut_32 (by decide) (fun c => ?_) (fun c => ?_)
      · replace h := h.1 c
        refine wz_aload_n C rfl rfl dX12_cut_39 ?_
        refine wz_getR C (j := 1005) f_X12_cut_28 (sOw rfl (by decide)) (by decide) dX12_cut_40 ?_
        refine wz_iload_n C rfl rfl dX12_cut_43 ?_
        obtain ⟨g9, h⟩ := h
        refine wy_aald6 C g9 dX12_cut_44 ?_
        refine wz_iload_n C rfl rfl dX12_cut_45 ?_
        obtain ⟨g10, h⟩ := h
        refine wz_iaload C l3.toNat (n := 14) (sRw_tab g9) (zN g10) (zL g10) (by decide) rfl dX12_cut_46 ?_
        refine wz_iadd C dX12_cut_47 ?_
        refine wz_istore_1 C rfl dX12_cut_48 ?_
        refine wz_iinc_3 C rfl dX12_cut_49 ?_
        refine wz_goto C dX12_cut_52 (tgt := 14) (by decide) ?_
        exact Wz.less (a0 := 0) (b0 := 0) (by omega) (by omega) (w14 (l1 + (I (1006 + l2.toNat) l3.toNat)) l2 (l3 + 1) I J h)
      · replace h := h.2 c
        refine wz_iconst C dX12_cut_35 ?_
        refine wz_goto C dX12_cut_36 (tgt := 47) (by decide) ?_
        refine wz_iadd C dX12_cut_47 ?_
        refine wz_istore_1 C rfl dX12_cut_48 ?_
        refine wz_iinc_3 C rfl dX12_cut_49 ?_
        refine wz_goto C dX12_cut_52 (tgt := 14) (by decide) ?_
        exact Wz.less (a0 := 0) (b0 := 0) (by omega) (by omega) (w14 (l1 + 0) l2 (l3 + 1) I J h)
set_option maxHeartbeats 4000000 in
set_option maxRecDepth 100000 in
theorem lk_X12_cut_4 (G : KG) (hG : Kok G) (hW : KWx G) (X : KX) (hX : KR X = rm_X12_cut) (C : Fr G X cX12_cut 4 yX12_cut.cls (some .int) wsX12_cut) (Q : Int → Ii → Jj → Prop) : ∀ (n : Nat) (l1 : Int) (l2 : Int) (I : Ii) (J : Jj), L_X12_cut_4 Q n l1 l2 I J → Wz G X 4 (QsU G X (QsI Q)) 0 0 4 [some (.ref (kadr G 1000)), some (.int (iZ l1)), some (.int (iZ l2)), none] [] I J := by
  intro n
  induction n with
  | zero => intro l1 l2 I J h; exact False.elim h
  | succ n w4 =>
    intro l1 l2 I J h
    have h : Lb_X12_cut_4 Q (L_X12_cut_4 Q n) l1 l2 I J := h
    unfold Lb_X12_cut_4 at h
    generalize L_X12_cut_4 Q n = r4 at h w4
    refine wz_iload_n C rfl rfl dX12_cut_4 ?_
    refine wz_aload_n C rfl rfl dX12_cut_5 ?_
    refine wz_getI C rfl f_X12_cut_87 (sOw rfl (by decide)) dX12_cut_6 ?_
    obtain ⟨g1, h⟩ := h
    obtain ⟨g2, h⟩ := h
    refine wz_icmp_ge C (tgt := 61) g1 g2 dX12_cut_9 (by decide) (fun c => ?_) (fun c => ?_)
    · replace h := h.1 c
      refine wz_iload_n C rfl rfl dX12_cut_61 ?_
      exact wz_iret C dX12_cut_62 ⟨_, rfl, h⟩
    · replace h := h.2 c
      refine wz_iconst C dX12_cut_12 ?_
      refine wz_istore_3 C rfl dX12_cut_13 ?_
      obtain ⟨n, h⟩ := h
      exact Wz.less (a0 := 0) (b0 := 0) (by omega) (by omega) (lk_X12_cut_14 G hG hW X hX C Q r4 w4 n l1 l2 0 I J h)
set_option maxHeartbeats 4000000 in
set_option maxRecDepth 100000 in
theorem k_X12_cut (G : KG) (hG : Kok G) (hW : KWx G)  (I : Ii) (J : Jj) (Q : Int → Ii → Jj → Prop) (h : wp_X12_cut I J Q) : Ctr G yX12_cut wsX12_cut rm_X12_cut [.ref (kadr G 1000)] (I, J) (QsI Q) := by
  unfold wp_X12_cut at h
  refine Ctr.ofZ (cc := cX12_cut) (nL := 4) (ret := (some .int)) [some (.ref (kadr G 1000)), none, none, none] hG (by decide +kernel) rfl (Nat.le_of_ble_eq_true rfl) (Nat.le_of_ble_eq_true rfl) (by simp [lvA, lv_args, Value.category]) ?_
  intro X hX C
  refine (?_ : Wz G X 4 (QsU G X (QsI Q)) 0 0 0 [some (.ref (kadr G 1000)), none, none, none] [] I J)
  refine wz_iconst C dX12_cut_0 ?_
  refine wz_istore_1 C rfl dX12_cut_1 ?_
  refine wz_iconst C dX12_cut_2 ?_
  refine wz_istore_2 C rfl dX12_cut_3 ?_
  obtain ⟨n, h⟩ := h
  exact Wz.less (a0 := 0) (b0 := 0) (by omega) (by omega) (lk_X12_cut_4 G hG hW X hX C Q n 0 0 I J h)
theorem in_X12_partOf_X12 : ∀ w ∈ wsX120, w ∈ wsX12_partOf := by decide +kernel
theorem f_X12_partOf_17 : FLk wsX12_partOf RX12 17 15 6 := flk 15 6 rfl tyX12_ok nmX12 in_X12_partOf_X12 (by decide) (by decide +kernel)
def rm_X12_partOf : Room := { frames := 4, cells := 0, slots := 0, locals := 92 }
set_option maxHeartbeats 4000000 in
set_option maxRecDepth 100000 in
theorem k_X12_partOf (G : KG) (hG : Kok G) (hW : KWx G)  (l1 : Int) (I : Ii) (J : Jj) (Q : Int → Ii → Jj → Prop) (h : wp_X12_partOf l1 I J Q) : Ctr G yX12_partOf wsX12_partOf rm_X12_partOf [.ref (kadr G 1000), .int (iZ l1)] (I, J) (QsI Q) := by
  unfold wp_X12_partOf at h
  refine Ctr.ofZ (cc := cX12_partOf) (nL := 2) (ret := (some .int)) [some (.ref (kadr G 1000)), some (.int (iZ l1))] hG (by decide +kernel) rfl (Nat.le_of_ble_eq_true rfl) (Nat.le_of_ble_eq_true rfl) (by simp [lvA, lv_args, Value.category]) ?_
  intro X hX C
  refine (?_ : Wz G X 2 (QsU G X (QsI Q)) 0 0 0 [some (.ref (kadr G 1000)), some (.int (iZ l1))] [] I J)
  refine wz_aload_n C rfl rfl dX12_partOf_0 ?_
  refine wz_getR C (j := 1002) f_X12_partOf_17 (sOw rfl (by decide)) (by decide) dX12_partOf_1 ?_
  refine wz_aload_n C rfl rfl dX12_partOf_4 ?_
  refine wm_callV C (S := (I, J)) (o := 1000) (As := []) (st := [.ref (kadr G 1002)]) (a' := 0) (b' := 0) (shK_w (by decide) rfl) rfl (k_X12_sets G hG hW I J _ h) 0 gX12_partOf_X12_sets rfl (by decide +kernel) (by rw [hX]; exact ⟨Nat.le_of_ble_eq_true rfl, Nat.le_of_ble_eq_true rfl⟩) rfl (Nat.le_of_ble_eq_true rfl) (by show 0 + (0) = 0; omega) (by show 0 + (0) = 0; omega) rfl dX12_partOf_5 (kk_sK (fun v1 I1 J1 h => ?_))
  refine wz_iload_n C rfl rfl dX12_partOf_8 ?_
  obtain ⟨g2, h⟩ := h
  refine wy_iald C g2 dX12_partOf_9 ?_
  refine wm_callSo C (As := [.int (iZ (I1 v1 l1.toNat))]) (st := [.ref (kadr G 1002)]) (a' := 0) (b' := 0) (k_J6_numberOfTrailingZeros_0f7a4 G hG hW (I1 v1 l1.toNat) I1 J1 _ h) 1 (goodIn_wsS gX12_partOf_J6_numberOfTrailingZeros_0f7a4) (by decide +kernel) (by decide +kernel) (by decide +kernel) rfl (by decide +kernel) (by rw [hX]; exact ⟨Nat.le_of_ble_eq_true rfl, Nat.le_of_ble_eq_true rfl⟩) rfl (Nat.le_of_ble_eq_true rfl) (by show 0 + (0) = 0; omega) (by show 0 + (0) = 0; omega) rfl dX12_partOf_10 (kk_sI (fun v3 I3 J3 h => ?_))
  obtain ⟨g4, h⟩ := h
  refine wz_iaload C v3.toNat (n := 14) (sRw rfl (by decide)) (zN g4) (zL g4) (by decide) rfl dX12_partOf_13 ?_
  exact wz_iret C dX12_partOf_14 ⟨_, rfl, h⟩
theorem in_X12_debtsIf_X12 : ∀ w ∈ wsX120, w ∈ wsX12_debtsIf := by decide +kernel
theorem f_X12_debtsIf_7 : FLk wsX12_debtsIf RX12 7 15 1 := flk 15 1 rfl tyX12_ok nmX12 in_X12_debtsIf_X12 (by decide) (by decide +kernel)
def rm_X12_debtsIf : Room := { frames := 4, cells := 0, slots := 0, locals := 92 }
set_option maxHeartbeats 4000000 in
set_option maxRecDepth 100000 in
theorem bk_X12_debtsIf_54 (G : KG) (hG : Kok G) (hW : KWx G) (X : KX) (hX : KR X = rm_X12_debtsIf) (C : Fr G X cX12_debtsIf 5 yX12_debtsIf.cls (some .int) wsX12_debtsIf) (l1 : Int) (l2 : Int) (Q : Int → Ii → Jj → Prop) (r5 : Int → Int → Ii → Jj → Prop) (w5 : ∀ (l3 : Int) (l4 : Int) (I : Ii) (J : Jj), r5 l3 l4 I J → Wz G X 5 (QsU G X (QsI Q)) 0 0 5 [some (.ref (kadr G 1000)), some (.int (iZ l1)), some (.int (iZ l2)), some (.int (iZ l3)), some (.int (iZ l4))] [] I J) (l4 : Int) (t0 : Int) (t1 : Int) (t3 : Int) (I : Ii) (J : Jj) (h : B_X12_debtsIf_54 l1 l2 Q r5 l4 t0 t1 t3 I J) : Wz G X 5 (QsU G X (QsI Q)) 0 0 54 [some (.ref (kadr G 1000)), some (.int (iZ l1)), some (.int (iZ l2)), none, some (.int (iZ l4))] [.int (iZ t3), .ref (kadr G 1000), .int (iZ t1), .int (iZ t0)] I J := by
  unfold B_X12_debtsIf_54 at h
  refine wm_callV C (S := (I, J)) (o := 1000) (As := [.int (iZ t3)]) (st := [.int (iZ t1), .int (iZ t0)]) (a' := 0) (b' := 0) (shK_w (by decide) rfl) rfl (k_X12_weightOf G hG hW t3 I J _ h) 1 gX12_debtsIf_X12_weightOf rfl (by decide +kernel) (by rw [hX]; exact ⟨Nat.le_of_ble_eq_true rfl, Nat.le_of_ble_eq_true rfl⟩) rfl (Nat.le_of_ble_eq_true rfl) (by show 0 + (0) = 0; omega) (by show 0 + (0) = 0; omega) rfl dX12_debtsIf_54 (kk_sI (fun v10 I10 J10 h => ?_))
  refine wz_aload_n C rfl rfl dX12_debtsIf_57 ?_
  refine wm_callV C (S := (I10, J10)) (o := 1000) (As := []) (st := [.int (iZ v10), .int (iZ t1), .int (iZ t0)]) (a' := 0) (b' := 0) (shK_w (by decide) rfl) rfl (k_X12_limit G hG hW I10 J10 _ h) 0 gX12_debtsIf_X12_limit rfl (by decide +kernel) (by rw [hX]; exact ⟨Nat.le_of_ble_eq_true rfl, Nat.le_of_ble_eq_true rfl⟩) rfl (Nat.le_of_ble_eq_true rfl) (by show 0 + (0) = 0; omega) (by show 0 + (0) = 0; omega) rfl dX12_debtsIf_58 (kk_sI (fun v11 I11 J11 h => ?_))
  refine wz_isub C dX12_debtsIf_61 ?_
  refine wd_max C (st := [.int (iZ t0)]) h (by decide +kernel) (by decide +kernel) (by decide +kernel) (by decide +kernel) (by rw [hX]; exact ⟨Nat.le_of_ble_eq_true rfl, Nat.le_of_ble_eq_true rfl⟩) dX12_debtsIf_62 (fun v12 I12 J12 h => ?_)
  refine wz_iadd C dX12_debtsIf_65 ?_
  refine wz_istore_3 C rfl dX12_debtsIf_66 ?_
  refine wz_iinc_4 C rfl dX12_debtsIf_67 ?_
  refine wz_goto C dX12_debtsIf_70 (tgt := 5) (by decide) ?_
  exact Wz.less (a0 := 0) (b0 := 0) (by omega) (by omega) (w5 (t0 + v12) (l4 + 1) I12 J12 h)
set_option maxHeartbeats 4000000 in
set_option maxRecDepth 100000 in
theorem lk_X12_debtsIf_5 (G : KG) (hG : Kok G) (hW : KWx G) (X : KX) (hX : KR X = rm_X12_debtsIf) (C : Fr G X cX12_debtsIf 5 yX12_debtsIf.cls (some .int) wsX12_debtsIf) (l1 : Int) (l2 : Int) (Q : Int → Ii → Jj → Prop) : ∀ (n : Nat) (l3 : Int) (l4 : Int) (I : Ii) (J : Jj), L_X12_debtsIf_5 l1 l2 Q n l3 l4 I J → Wz G X 5 (QsU G X (QsI Q)) 0 0 5 [some (.ref (kadr G 1000)), some (.int (iZ l1)), some (.int (iZ l2)), some (.int (iZ l3)), some (.int (iZ l4))] [] I J := by
  intro n
  induction n with
  | zero => intro l3 l4 I J h; exact False.elim h
  | succ n w5 =>
    intro l3 l4 I J h
    have h : Lb_X12_debtsIf_5 l1 l2 Q (L_X12_debtsIf_5 l1 l2 Q n) l3 l4 I J := h
    unfold Lb_X12_debtsIf_5 at h
    generalize L_X12_debtsIf_5 l1 l2 Q n = r5 at h w5
    refine wz_iload C rfl dX12_debtsIf_5 ?_
    refine wz_aload_n C rfl rfl dX12_debtsIf_7 ?_
    refine wz_getI C rfl f_X12_debtsIf_7 (sOw rfl (by decide)) dX12_debtsIf_8 ?_
    obtain ⟨g1, h⟩ := h
    obtain ⟨g2, h⟩ := h
    refine wz_icmp_ge C (tgt := 73) g1 g2 dX12_debtsIf_11 (by decide) (fun c => ?_) (fun c => ?_)
    · replace h := h.1 c
      refine wz_iload_n C rfl rfl dX12_debtsIf_73 ?_
      exact wz_iret C dX12_debtsIf_74 ⟨_, rfl, h⟩
    · replace h := h.2 c
      refine wz_iload_n C rfl rfl dX12_debtsIf_14 ?_
      refine wz_iconst C dX12_debtsIf_15 ?_
      refine wz_aload_n C rfl rfl dX12_debtsIf_16 ?_
      refine wz_iload C rfl dX12_debtsIf_17 ?_
      refine wz_iload_n C rfl rfl dX12_debtsIf_19 ?_
      obtain ⟨g3, h⟩ := h
      refine wz_icmp_ne C (tgt := 39) g1 g3 dX12_debtsIf_20 (by decide) (fun c => ?_) (fun c => ?_)
      · replace h := h.1 c
        refine wz_aload_n C rfl rfl dX12_debtsIf_39 ?_
        refine wz_iload C rfl dX12_debtsIf_40 ?_
        refine wm_callV C (S := (I, J)) (o := 1000) (As := [.int (iZ l4)]) (st := [.ref (kadr G 1000), .int (iZ 0), .int (iZ l3)]) (a' := 0) (b' := 0) (shK_w (by decide) rfl) rfl (k_X12_inPart G hG hW l4 I J _ h) 1 gX12_debtsIf_X12_inPart rfl (by decide +kernel) (by rw [hX]; exact ⟨Nat.le_of_ble_eq_true rfl, Nat.le_of_ble_eq_true rfl⟩) rfl (Nat.le_of_ble_eq_true rfl) (by show 0 + (0) = 0; omega) (by show 0 + (0) = 0; omega) rfl dX12_debtsIf_42 (kk_sI (fun v4 I4 J4 h => ?_))
        refine wz_aload_n C rfl rfl dX12_debtsIf_45 ?_
        refine wm_callV C (S := (I4, J4)) (o := 1000) (As := []) (st := [.int (iZ v4), .ref (kadr G 1000), .int (iZ 0), .int (iZ l3)]) (a' := 0) (b' := 0) (shK_w (by decide) rfl) rfl (k_X12_sets G hG hW I4 J4 _ h) 0 gX12_debtsIf_X12_sets rfl (by decide +kernel) (by rw [hX]; exact ⟨Nat.le_of_ble_eq_true rfl, Nat.le_of_ble_eq_true rfl⟩) rfl (Nat.le_of_ble_eq_true rfl) (by show 0 + (0) = 0; omega) (by show 0 + (0) = 0; omega) rfl dX12_debtsIf_46 (kk_sK (fun v5 I5 J5 h => ?_))
        refine wz_iload_n C rfl rfl dX12_debtsIf_49 ?_
        obtain ⟨g6, h⟩ := h
        refine wy_iald C g6 dX12_debtsIf_50 ?_
        refine wz_iconst C dX12_debtsIf_51 ?_
        refine wd_ixor C dX12_debtsIf_52 ?_
        refine wd_iand C dX12_debtsIf_53 ?_
        exact Wz.less (a0 := 0) (b0 := 0) (by omega) (by omega) (Wz.drop (bk_X12_debtsIf_54 G hG hW X hX C l1 l2 Q r5 w5 l4 l3 0 (andZ v4 (xorZ (I5 v5 l1.toNat) (-1))) I5 J5 h) (And.intro rfl (And.intro rfl (And.intro rfl (And.intro rfl trivial)))))
      · replace h := h.2 c
        refine wz_aload_n C rfl rfl dX12_debtsIf_23 ?_
        refine wz_iload C rfl dX12_debtsIf_24 ?_
        refine wm_callV C (S := (I, J)) (o := 1000) (As := [.int (iZ l4)]) (st := [.ref (kadr G 1000), .int (iZ 0), .int (iZ l3)]) (a' := 0) (b' := 0) (shK_w (by decide) rfl) rfl (k_X12_inPart G hG hW l4 I J _ h) 1 gX12_debtsIf_X12_inPart rfl (by decide +kernel) (by rw [hX]; exact ⟨Nat.le_of_ble_eq_true rfl, Nat.le_of_ble_eq_true rfl⟩) rfl (Nat.le_of_ble_eq_true rfl) (by show 0 + (0) = 0; omega) (by show 0 + (0) = 0; omega) rfl dX12_debtsIf_26 (kk_sI (fun v7 I7 J7 h => ?_))
        refine wz_aload_n C rfl rfl dX12_debtsIf_29 ?_
        refine wm_callV C (S := (I7, J7)) (o := 1000) (As := []) (st := [.int (iZ v7), .ref (kadr G 1000), .int (iZ 0), .int (iZ l3)]) (a' := 0) (b' := 0) (shK_w (by decide) rfl) rfl (k_X12_sets G hG hW I7 J7 _ h) 0 gX12_debtsIf_X12_sets rfl (by decide +kernel) (by rw [hX]; exact ⟨Nat.le_of_ble_eq_true rfl, Nat.le_of_ble_eq_true rfl⟩) rfl (Nat.le_of_ble_eq_true rfl) (by show 0 + (0) = 0; omega) (by show 0 + (0) = 0; omega) rfl dX12_debtsIf_30 (kk_sK (fun v8 I8 J8 h => ?_))
        refine wz_iload_n C rfl rfl dX12_debtsIf_33 ?_
        obtain ⟨g9, h⟩ := h
        refine wy_iald C g9 dX12_debtsIf_34 ?_
        refine wd_ior C dX12_debtsIf_35 ?_
        refine wz_goto C dX12_debtsIf_36 (tgt := 54) (by decide) ?_
        exact Wz.less (a0 := 0) (b0 := 0) (by omega) (by omega) (Wz.drop (bk_X12_debtsIf_54 G hG hW X hX C l1 l2 Q r5 w5 l4 l3 0 (orZ v7 (I8 v8 l1.toNat)) I8 J8 h) (And.intro rfl (And.intro rfl (And.intro rfl (And.intro rfl trivial)))))
set_option maxHeartbeats 4000000 in
set_option maxRecDepth 100000 in
theorem k_X12_debtsIf (G : KG) (hG : Kok G) (hW : KWx G)  (l1 : Int) (l2 : Int) (I : Ii) (J : Jj) (Q : Int → Ii → Jj → Prop) (h : wp_X12_debtsIf l1 l2 I J Q) : Ctr G yX12_debtsIf wsX12_debtsIf rm_X12_debtsIf [.ref (kadr G 1000), .int (iZ l1), .int (iZ l2)] (I, J) (QsI Q) := by
  unfold wp_X12_debtsIf at h
  refine Ctr.ofZ (cc := cX12_debtsIf) (nL := 5) (ret := (some .int)) [some (.ref (kadr G 1000)), some (.int (iZ l1)), some (.int (iZ l2)), none, none] hG (by decide +kernel) rfl (Nat.le_of_ble_eq_true rfl) (Nat.le_of_ble_eq_true rfl) (by simp [lvA, lv_args, Value.category]) ?_
  intro X hX C
  refine (?_ : Wz G X 5 (QsU G X (QsI Q)) 0 0 0 [some (.ref (kadr G 1000)), some (.int (iZ l1)), some (.int (iZ l2)), none, none] [] I J)
  refine wz_iconst C dX12_debtsIf_0 ?_
  refine wz_istore_3 C rfl dX12_debtsIf_1 ?_
  refine wz_iconst C dX12_debtsIf_2 ?_
  refine wz_istore_4 C rfl dX12_debtsIf_3 ?_
  obtain ⟨n, h⟩ := h
  exact Wz.less (a0 := 0) (b0 := 0) (by omega) (by omega) (lk_X12_debtsIf_5 G hG hW X hX C l1 l2 Q n 0 0 I J h)
def rm_X12_gain : Room := { frames := 5, cells := 0, slots := 0, locals := 113 }
set_option maxHeartbeats 4000000 in
set_option maxRecDepth 100000 in
theorem k_X12_gain (G : KG) (hG : Kok G) (hW : KWx G)  (l1 : Int) (l2 : Int) (I : Ii) (J : Jj) (Q : Int → Ii → Jj → Prop) (h : wp_X12_gain l1 l2 I J Q) : Ctr G yX12_gain wsX12_gain rm_X12_gain [.ref (kadr G 1000), .int (iZ l1), .int (iZ l2)] (I, J) (QsI Q) := by
  unfold wp_X12_gain at h
  refine Ctr.ofZ (cc := cX12_gain) (nL := 3) (ret := (some .int)) [some (.ref (kadr G 1000)), some (.int (iZ l1)), some (.int (iZ l2))] hG (by decide +kernel) rfl (Nat.le_of_ble_eq_true rfl) (Nat.le_of_ble_eq_true rfl) (by simp [lvA, lv_args, Value.category]) ?_
  intro X hX C
  refine (?_ : Wz G X 3 (QsU G X (QsI Q)) 0 0 0 [some (.ref (kadr G 1000)), some (.int (iZ l1)), some (.int (iZ l2))] [] I J)
  refine wz_aload_n C rfl rfl dX12_gain_0 ?_
  refine wz_iload_n C rfl rfl dX12_gain_1 ?_
  refine wm_callV C (S := (I, J)) (o := 1000) (As := [.int (iZ l1)]) (st := []) (a' := 0) (b' := 0) (shK_w (by decide) rfl) rfl (k_X12_partOf G hG hW l1 I J _ h) 1 gX12_gain_X12_partOf rfl (by decide +kernel) (by rw [hX]; exact ⟨Nat.le_of_ble_eq_true rfl, Nat.le_of_ble_eq_true rfl⟩) rfl (Nat.le_of_ble_eq_true rfl) (by show 0 + (0) = 0; omega) (by show 0 + (0) = 0; omega) rfl dX12_gain_2 (kk_sI (fun v1 I1 J1 h => ?_))
  refine wz_iload_n C rfl rfl dX12_gain_5 ?_
  obtain ⟨g2, h⟩ := h
  obtain ⟨g3, h⟩ := h
  refine wz_icmp_ne C (tgt := 13) g2 g3 dX12_gain_6 (by decide) (fun c => ?_) (fun c => ?_)
  · replace h := h.1 c
    refine wz_aload_n C rfl rfl dX12_gain_13 ?_
    refine wz_aload_n C rfl rfl dX12_gain_14 ?_
    refine wm_callV C (S := (I1, J1)) (o := 1000) (As := []) (st := [.ref (kadr G 1000)]) (a' := 0) (b' := 0) (shK_w (by decide) rfl) rfl (k_X12_sets G hG hW I1 J1 _ h) 0 gX12_gain_X12_sets rfl (by decide +kernel) (by rw [hX]; exact ⟨Nat.le_of_ble_eq_true rfl, Nat.le_of_ble_eq_true rfl⟩) rfl (Nat.le_of_ble_eq_true rfl) (by show 0 + (0) = 0; omega) (by show 0 + (0) = 0; omega) rfl dX12_gain_15 (kk_sK (fun v4 I4 J4 h => ?_))
    refine wz_iload_n C rfl rfl dX12_gain_18 ?_
    obtain ⟨g5, h⟩ := h
    refine wy_iald C g5 dX12_gain_19 ?_
    refine wz_aload_n C rfl rfl dX12_gain_20 ?_
    refine wz_iload_n C rfl rfl dX12_gain_21 ?_
    refine wm_callV C (S := (I4, J4)) (o := 1000) (As := [.int (iZ l2)]) (st := [.int (iZ (I4 v4 l1.toNat)), .ref (kadr G 1000)]) (a' := 0) (b' := 0) (shK_w (by decide) rfl) rfl (k_X12_inPart G hG hW l2 I4 J4 _ h) 1 gX12_gain_X12_inPart rfl (by decide +kernel) (by rw [hX]; exact ⟨Nat.le_of_ble_eq_true rfl, Nat.le_of_ble_eq_true rfl⟩) rfl (Nat.le_of_ble_eq_true rfl) (by show 0 + (0) = 0; omega) (by show 0 + (0) = 0; omega) rfl dX12_gain_22 (kk_sI (fun v6 I6 J6 h => ?_))
    refine wm_callV C (S := (I6, J6)) (o := 1000) (As := [.int (iZ (I4 v4 l1.toNat)), .int (iZ v6)]) (st := []) (a' := 0) (b' := 0) (shK_w (by decide) rfl) rfl (k_X12_links G hG hW (I4 v4 l1.toNat) v6 I6 J6 _ h) 2 gX12_gain_X12_links rfl (by decide +kernel) (by rw [hX]; exact ⟨Nat.le_of_ble_eq_true rfl, Nat.le_of_ble_eq_true rfl⟩) rfl (Nat.le_of_ble_eq_true rfl) (by show 0 + (0) = 0; omega) (by show 0 + (0) = 0; omega) rfl dX12_gain_25 (kk_sI (fun v7 I7 J7 h => ?_))
    refine wz_aload_n C rfl rfl dX12_gain_28 ?_
    refine wz_aload_n C rfl rfl dX12_gain_29 ?_
    refine wm_callV C (S := (I7, J7)) (o := 1000) (As := []) (st := [.ref (kadr G 1000), .int (iZ v7)]) (a' := 0) (b' := 0) (shK_w (by decide) rfl) rfl (k_X12_sets G hG hW I7 J7 _ h) 0 gX12_gain_X12_sets rfl (by decide +kernel) (by rw [hX]; exact ⟨Nat.le_of_ble_eq_true rfl, Nat.le_of_ble_eq_true rfl⟩) rfl (Nat.le_of_ble_eq_true rfl) (by show 0 + (0) = 0; omega) (by show 0 + (0) = 0; omega) rfl dX12_gain_30 (kk_sK (fun v8 I8 J8 h => ?_))
    refine wz_iload_n C rfl rfl dX12_gain_33 ?_
    obtain ⟨g9, h⟩ := h
    refine wy_iald C g9 dX12_gain_34 ?_
    refine wz_aload_n C rfl rfl dX12_gain_35 ?_
    refine wz_aload_n C rfl rfl dX12_gain_36 ?_
    refine wz_iload_n C rfl rfl dX12_gain_37 ?_
    refine wm_callV C (S := (I8, J8)) (o := 1000) (As := [.int (iZ l1)]) (st := [.ref (kadr G 1000), .int (iZ (I8 v8 l1.toNat)), .ref (kadr G 1000), .int (iZ v7)]) (a' := 0) (b' := 0) (shK_w (by decide) rfl) rfl (k_X12_partOf G hG hW l1 I8 J8 _ h) 1 gX12_gain_X12_partOf rfl (by decide +kernel) (by rw [hX]; exact ⟨Nat.le_of_ble_eq_true rfl, Nat.le_of_ble_eq_true rfl⟩) rfl (Nat.le_of_ble_eq_true rfl) (by show 0 + (0) = 0; omega) (by show 0 + (0) = 0; omega) rfl dX12_gain_38 (kk_sI (fun v10 I10 J10 h => ?_))
    refine wm_callV C (S := (I10, J10)) (o := 1000) (As := [.int (iZ v10)]) (st := [.int (iZ (I8 v8 l1.toNat)), .ref (kadr G 1000), .int (iZ v7)]) (a' := 0) (b' := 0) (shK_w (by decide) rfl) rfl (k_X12_inPart G hG hW v10 I10 J10 _ h) 1 gX12_gain_X12_inPart rfl (by decide +kernel) (by rw [hX]; exact ⟨Nat.le_of_ble_eq_true rfl, Nat.le_of_ble_eq_true rfl⟩) rfl (Nat.le_of_ble_eq_true rfl) (by show 0 + (0) = 0; omega) (by show 0 + (0) = 0; omega) rfl dX12_gain_41 (kk_sI (fun v11 I11 J11 h => ?_))
    refine wz_aload_n C rfl rfl dX12_gain_44 ?_
    refine wm_callV C (S := (I11, J11)) (o := 1000) (As := []) (st := [.int (iZ v11), .int (iZ (I8 v8 l1.toNat)), .ref (kadr G 1000), .int (iZ v7)]) (a' := 0) (b' := 0) (shK_w (by decide) rfl) rfl (k_X12_sets G hG hW I11 J11 _ h) 0 gX12_gain_X12_sets rfl (by decide +kernel) (by rw [hX]; exact ⟨Nat.le_of_ble_eq_true rfl, Nat.le_of_ble_eq_true rfl⟩) rfl (Nat.le_of_ble_eq_true rfl) (by show 0 + (0) = 0; omega) (by show 0 + (0) = 0; omega) rfl dX12_gain_45 (kk_sK (fun v12 I12 J12 h => ?_))
    refine wz_iload_n C rfl rfl dX12_gain_48 ?_
    obtain ⟨g13, h⟩ := h
    refine wy_iald C g13 dX12_gain_49 ?_
    refine wz_iconst C dX12_gain_50 ?_
    refine wd_ixor C dX12_gain_51 ?_
    refine wd_iand C dX12_gain_52 ?_
    refine wm_callV C (S := (I12, J12)) (o := 1000) (As := [.int (iZ (I8 v8 l1.toNat)), .int (iZ (andZ v11 (xorZ (I12 v12 l1.toNat) (-1))))]) (st := [.int (iZ v7)]) (a' := 0) (b' := 0) (shK_w (by decide) rfl) rfl (k_X12_links G hG hW (I8 v8 l1.toNat) (andZ v11 (xorZ (I12 v12 l1.toNat) (-1))) I12 J12 _ h) 2 gX12_gain_X12_links rfl (by decide +kernel) (by rw [hX]; exact ⟨Nat.le_of_ble_eq_true rfl, Nat.le_of_ble_eq_true rfl⟩) rfl (Nat.le_of_ble_eq_true rfl) (by show 0 + (0) = 0; omega) (by show 0 + (0) = 0; omega) rfl dX12_gain_53 (kk_sI (fun v14 I14 J14 h => ?_))
    refine wz_isub C dX12_gain_56 ?_
    exact wz_iret C dX12_gain_57 ⟨_, rfl, h⟩
  · replace h := h.2 c
    refine wz_iconst C dX12_gain_9 ?_
    refine wz_goto C dX12_gain_10 (tgt := 57) (by decide) ?_
    exact wz_iret C dX12_gain_57 ⟨_, rfl, h⟩
