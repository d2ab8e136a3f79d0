theorem in_Jx4a65c_get_915e3_Jx4a65c : ∀ w ∈ wsJx4a65c0, w ∈ wsJx4a65c_get_915e3 := by decide +kernel
theorem f_Jx4a65c_get_915e3_48 : FLk wsJx4a65c_get_915e3 RJx4a65c 48 2 2 := flk 2 2 rfl tyJx4a65c_ok nmJx4a65c in_Jx4a65c_get_915e3_Jx4a65c (by decide) (by decide +kernel)
def rm_Jx4a65c_get_915e3 : Room := { frames := 2, cells := 0, slots := 0, locals := 51 }
set_option maxHeartbeats 4000000 in
set_option maxRecDepth 100000 in
theorem k_Jx4a65c_get_915e3 (G : KG) (hG : Kok G) (hW : KWx G)  (k0 : Nat) (l1 : Int) (I : Ii) (J : Jj) (hk0 : isAL k0) (Q : Nat → Ii → Jj → Prop) (h : wp_Jx4a65c_get_915e3 k0 l1 I J Q) : Ctr G yJx4a65c_get_915e3 wsJx4a65c_get_915e3 rm_Jx4a65c_get_915e3 [.ref (kadr G k0), .int (iZ l1)] (I, J) (QsK G Q) := by
  unfold wp_Jx4a65c_get_915e3 at h
  refine Ctr.ofZ (cc := cJx4a65c_get_915e3) (nL := 2) (ret := (some (.object "java/lang/Object"))) [some (.ref (kadr G k0)), some (.int (iZ l1))] hG (by decide +kernel) rfl (Nat.le_of_ble_eq_true rfl) (Nat.le_of_ble_eq_true rfl) (by simp [lvA, lv_args, Value.category]) ?_
  intro X hX C
  refine (?_ : Wz G X 2 (QsU G X (QsK G Q)) 0 0 0 [some (.ref (kadr G k0)), some (.int (iZ l1))] [] I J)
  refine wz_iload_n C rfl rfl dJx4a65c_get_915e3_0 ?_
  refine wz_aload_n C rfl rfl dJx4a65c_get_915e3_1 ?_
  refine wz_getI C rfl f_Jx4a65c_get_915e3_48 (sAL_2 hk0) dJx4a65c_get_915e3_2 ?_
  refine wm_callSo C (As := [.int (iZ l1), .int (iZ (I k0 2))]) (st := []) (a' := 0) (b' := 0) (k_J15_checkIndex_7cf53 G hG hW l1 (I k0 2) I J _ h) 2 (goodIn_wsS gJx4a65c_get_915e3_J15_checkIndex_7cf53) (by decide +kernel) (by decide +kernel) (by decide +kernel) rfl (by decide +kernel) (by rw [hX]; exact ⟨Nat.le_of_ble_eq_true rfl, Nat.le_of_ble_eq_true rfl⟩) rfl (Nat.le_of_ble_eq_true rfl) (by show 0 + (0) = 0; omega) (by show 0 + (0) = 0; omega) rfl dJx4a65c_get_915e3_5 (kk_sI (fun v1 I1 J1 h => ?_))
  refine wz_pop C rfl dJx4a65c_get_915e3_8 ?_
  refine wz_aload_n C rfl rfl dJx4a65c_get_915e3_9 ?_
  refine wz_iload_n C rfl rfl dJx4a65c_get_915e3_10 ?_
  refine wm_callV C (S := (I1, J1)) (o := k0) (As := [.int (iZ l1)]) (st := []) (a' := 0) (b' := 0) (spAL hk0) rfl (k_Jx4a65c_elementData_915e3 G hG hW k0 l1 I1 J1 hk0 _ h) 1 gJx4a65c_get_915e3_Jx4a65c_elementData_915e3 rfl (by decide +kernel) (by rw [hX]; exact ⟨Nat.le_of_ble_eq_true rfl, Nat.le_of_ble_eq_true rfl⟩) rfl (Nat.le_of_ble_eq_true rfl) (by show 0 + (0) = 0; omega) (by show 0 + (0) = 0; omega) rfl dJx4a65c_get_915e3_11 (kk_sK (fun v2 I2 J2 h => ?_))
  exact wy_aret C (Or.inl ⟨_, rfl⟩) dJx4a65c_get_915e3_14 ⟨_, rfl, h⟩
theorem in_Jx4a65c_grow_92f84_Jx4a65c : ∀ w ∈ wsJx4a65c0, w ∈ wsJx4a65c_grow_92f84 := by decide +kernel
theorem f_Jx4a65c_grow_92f84_9 : FLk wsJx4a65c_grow_92f84 RJx4a65c 9 2 1 := flk 2 1 rfl tyJx4a65c_ok nmJx4a65c in_Jx4a65c_grow_92f84_Jx4a65c (by decide) (by decide +kernel)
theorem fp_Jx4a65c_1 : FPk 2 1 (.array (.object "java/lang/Object")) := fun C9 T9 N9 h => by
  have h : some (RJx4a65c, TJx4a65c, 3) = some (C9, T9, N9) := h
  cases h
  exact ⟨rfl, by decide +kernel⟩
def rm_Jx4a65c_grow_92f84 : Room := { frames := 3, cells := 1, slots := 300, locals := 141 }
set_option maxHeartbeats 4000000 in
set_option maxRecDepth 100000 in
theorem bk_Jx4a65c_grow_92f84_20 (G : KG) (hG : Kok G) (hW : KWx G) (X : KX) (hX : KR X = rm_Jx4a65c_grow_92f84) (C : Fr G X cJx4a65c_grow_92f84 4 yJx4a65c_grow_92f84.cls (some (.array (.object "java/lang/Object"))) wsJx4a65c_grow_92f84) (k0 : Nat) (l1 : Int) (hk0 : isAL k0) (Q : Nat → Ii → Jj → Prop) (l2 : Int) (I : Ii) (J : Jj) (h : B_Jx4a65c_grow_92f84_20 k0 l1 Q l2 I J) : Wz G X 4 (QsU G X (QsK G Q)) 1 300 20 [some (.ref (kadr G k0)), some (.int (iZ l1)), some (.int (iZ l2)), none] [] I J := by
  unfold B_Jx4a65c_grow_92f84_20 at h
  refine wz_iload_n C rfl rfl dJx4a65c_grow_92f84_20 ?_
  refine wz_iload_n C rfl rfl dJx4a65c_grow_92f84_21 ?_
  refine wz_iload_n C rfl rfl dJx4a65c_grow_92f84_22 ?_
  refine wz_isub C dJx4a65c_grow_92f84_23 ?_
  refine wz_iload_n C rfl rfl dJx4a65c_grow_92f84_24 ?_
  refine wz_iconst C dJx4a65c_grow_92f84_25 ?_
  refine wd_ishr C dJx4a65c_grow_92f84_26 ?_
  refine wm_callSo C (As := [.int (iZ l2), .int (iZ (l1 - l2)), .int (iZ (shrZ l2 1))]) (st := []) (a' := 1) (b' := 300) (k_J8_newLength_cabcc G hG hW l2 (l1 - l2) (shrZ l2 1) I J _ h) 3 (goodIn_wsS gJx4a65c_grow_92f84_J8_newLength_cabcc) (by decide +kernel) (by decide +kernel) (by decide +kernel) rfl (by decide +kernel) (by rw [hX]; exact ⟨Nat.le_of_ble_eq_true rfl, Nat.le_of_ble_eq_true rfl⟩) rfl (Nat.le_of_ble_eq_true rfl) (by show 0 + (1) = 1; omega) (by show 0 + (300) = 300; omega) rfl dJx4a65c_grow_92f84_27 (kk_sI (fun v11 I11 J11 h => ?_))
  refine wz_istore_3 C rfl dJx4a65c_grow_92f84_30 ?_
  refine wz_aload_n C rfl rfl dJx4a65c_grow_92f84_31 ?_
  refine wz_aload_n C rfl rfl dJx4a65c_grow_92f84_32 ?_
  obtain ⟨g12, h⟩ := h
  refine wy_getM C f_Jx4a65c_grow_92f84_9 (sAL_1 hk0) g12 dJx4a65c_grow_92f84_33 ?_
  refine wz_iload_n C rfl rfl dJx4a65c_grow_92f84_36 ?_
  refine wm_callSo C (As := [.ref (kadr G ((I11 k0 1).toNat)), .int (iZ v11)]) (st := [.ref (kadr G k0)]) (a' := 0) (b' := 0) (k_J7_copyOf_1904c G hG hW ((I11 k0 1).toNat) v11 I11 J11 _ h) 2 (goodIn_wsS gJx4a65c_grow_92f84_J7_copyOf_1904c) (by decide +kernel) (by decide +kernel) (by decide +kernel) rfl (by decide +kernel) (by rw [hX]; exact ⟨Nat.le_of_ble_eq_true rfl, Nat.le_of_ble_eq_true rfl⟩) rfl (Nat.le_of_ble_eq_true rfl) (by show 1 + (0) = 1; omega) (by show 300 + (0) = 300; omega) rfl dJx4a65c_grow_92f84_37 (kk_sK (fun v13 I13 J13 h => ?_))
  refine wy_dup_x1 C rfl rfl dJx4a65c_grow_92f84_40 ?_
  refine wy_putM1 C f_Jx4a65c_grow_92f84_9 fp_Jx4a65c_1 hk0 dJx4a65c_grow_92f84_41 (fun I14 e => ?_)
  replace h := h I14 e
  exact wy_aret C (Or.inr ⟨_, rfl⟩) dJx4a65c_grow_92f84_44 ⟨_, rfl, h⟩
set_option maxHeartbeats 4000000 in
set_option maxRecDepth 100000 in
theorem k_Jx4a65c_grow_92f84 (G : KG) (hG : Kok G) (hW : KWx G)  (k0 : Nat) (l1 : Int) (I : Ii) (J : Jj) (hk0 : isAL k0) (Q : Nat → Ii → Jj → Prop) (h : wp_Jx4a65c_grow_92f84 k0 l1 I J Q) : Ctr G yJx4a65c_grow_92f84 wsJx4a65c_grow_92f84 rm_Jx4a65c_grow_92f84 [.ref (kadr G k0), .int (iZ l1)] (I, J) (QsK G Q) := by
  unfold wp_Jx4a65c_grow_92f84 at h
  refine Ctr.ofZ (cc := cJx4a65c_grow_92f84) (nL := 4) (ret := (some (.array (.object "java/lang/Object")))) [some (.ref (kadr G k0)), some (.int (iZ l1)), none, none] hG (by decide +kernel) rfl (Nat.le_of_ble_eq_true rfl) (Nat.le_of_ble_eq_true rfl) (by simp [lvA, lv_args, Value.category]) ?_
  intro X hX C
  refine (?_ : Wz G X 4 (QsU G X (QsK G Q)) 1 300 0 [some (.ref (kadr G k0)), some (.int (iZ l1)), none, none] [] I J)
  refine wz_aload_n C rfl rfl dJx4a65c_grow_92f84_0 ?_
  obtain ⟨g1, h⟩ := h
  refine wy_getM C f_Jx4a65c_grow_92f84_9 (sAL_1 hk0) g1 dJx4a65c_grow_92f84_1 ?_
  obtain ⟨g2, h⟩ := h
  refine wy_alen3 C hW g2 dJx4a65c_grow_92f84_4 ?_
  refine wz_istore_2 C rfl dJx4a65c_grow_92f84_5 ?_
  refine wz_iload_n C rfl rfl dJx4a65c_grow_92f84_6 ?_
  obtain ⟨g3, h⟩ := h
  refine wz_if_gt C (tgt := 20) g3 dJx4a65c_grow_92f84_7 (by decide) (fun c => ?_) (fun c => ?_)
  · replace h := h.1 c
    exact Wz.less (a0 := 1) (b0 := 300) (by omega) (by omega) (bk_Jx4a65c_grow_92f84_20 G hG hW X hX C k0 l1 hk0 Q (dL I ((I k0 1).toNat)) I J h)
  · replace h := h.2 c
    refine wz_aload_n C rfl rfl dJx4a65c_grow_92f84_10 ?_
    obtain ⟨g4, h⟩ := h
    refine wy_getM C f_Jx4a65c_grow_92f84_9 (sAL_1 hk0) g4 dJx4a65c_grow_92f84_11 ?_
    refine wy_gets C hW.de (by decide +kernel) dJx4a65c_grow_92f84_14 ?_
    obtain ⟨g5, h⟩ := h
    refine wy_acmp0 C (tgt := 45) g5 dJx4a65c_grow_92f84_17 (by decide) (fun c => ?_) (fun c => ?_)
    · replace h := h.1 c
      refine wz_aload_n C rfl rfl dJx4a65c_grow_92f84_45 ?_
      refine wz_bipush C (by decide) dJx4a65c_grow_92f84_46 ?_
      refine wz_iload_n C rfl rfl dJx4a65c_grow_92f84_48 ?_
      refine wd_max C (st := [.ref (kadr G k0)]) h (by decide +kernel) (by decide +kernel) (by decide +kernel) (by decide +kernel) (by rw [hX]; exact ⟨Nat.le_of_ble_eq_true rfl, Nat.le_of_ble_eq_true rfl⟩) dJx4a65c_grow_92f84_49 (fun v6 I6 J6 h => ?_)
      obtain ⟨g7, h⟩ := h
      refine wy_newO C hW 10 g7 (by decide) (by decide +kernel) dJx4a65c_grow_92f84_52 (a' := 0) (b' := 290) (by omega) (by omega) (fun I8 e => ?_)
      replace h := h I8 e
      replace h := h _ rfl
      refine wy_dup_x1 C rfl rfl dJx4a65c_grow_92f84_55 ?_
      refine wy_putM1 C f_Jx4a65c_grow_92f84_9 fp_Jx4a65c_1 hk0 dJx4a65c_grow_92f84_56 (fun I10 e => ?_)
      replace h := h I10 e
      exact wy_aret C (Or.inr ⟨_, rfl⟩) dJx4a65c_grow_92f84_59 ⟨_, rfl, h⟩
    · replace h := h.2 c
      exact Wz.less (a0 := 1) (b0 := 300) (by omega) (by omega) (bk_Jx4a65c_grow_92f84_20 G hG hW X hX C k0 l1 hk0 Q (dL I ((I k0 1).toNat)) I J h)
theorem in_Jx4a65c_grow_d5877_Jx4a65c : ∀ w ∈ wsJx4a65c0, w ∈ wsJx4a65c_grow_d5877 := by decide +kernel
theorem f_Jx4a65c_grow_d5877_48 : FLk wsJx4a65c_grow_d5877 RJx4a65c 48 2 2 := flk 2 2 rfl tyJx4a65c_ok nmJx4a65c in_Jx4a65c_grow_d5877_Jx4a65c (by decide) (by decide +kernel)
def rm_Jx4a65c_grow_d5877 : Room := { frames := 4, cells := 1, slots := 300, locals := 164 }
set_option maxHeartbeats 4000000 in
set_option maxRecDepth 100000 in
theorem k_Jx4a65c_grow_d5877 (G : KG) (hG : Kok G) (hW : KWx G)  (k0 : Nat) (I : Ii) (J : Jj) (hk0 : isAL k0) (Q : Nat → Ii → Jj → Prop) (h : wp_Jx4a65c_grow_d5877 k0 I J Q) : Ctr G yJx4a65c_grow_d5877 wsJx4a65c_grow_d5877 rm_Jx4a65c_grow_d5877 [.ref (kadr G k0)] (I, J) (QsK G Q) := by
  unfold wp_Jx4a65c_grow_d5877 at h
  refine Ctr.ofZ (cc := cJx4a65c_grow_d5877) (nL := 1) (ret := (some (.array (.object "java/lang/Object")))) [some (.ref (kadr G k0))] hG (by decide +kernel) rfl (Nat.le_of_ble_eq_true rfl) (Nat.le_of_ble_eq_true rfl) (by simp [lvA, lv_args, Value.category]) ?_
  intro X hX C
  refine (?_ : Wz G X 1 (QsU G X (QsK G Q)) 1 300 0 [some (.ref (kadr G k0))] [] I J)
  refine wz_aload_n C rfl rfl dJx4a65c_grow_d5877_0 ?_
  refine wz_aload_n C rfl rfl dJx4a65c_grow_d5877_1 ?_
  refine wz_getI C rfl f_Jx4a65c_grow_d5877_48 (sAL_2 hk0) dJx4a65c_grow_d5877_2 ?_
  refine wz_iconst C dJx4a65c_grow_d5877_5 ?_
  refine wz_iadd C dJx4a65c_grow_d5877_6 ?_
  refine wm_callV C (S := (I, J)) (o := k0) (As := [.int (iZ ((I k0 2) + 1))]) (st := []) (a' := 0) (b' := 0) (spAL hk0) rfl (k_Jx4a65c_grow_92f84 G hG hW k0 ((I k0 2) + 1) I J hk0 _ h) 1 gJx4a65c_grow_d5877_Jx4a65c_grow_92f84 rfl (by decide +kernel) (by rw [hX]; exact ⟨Nat.le_of_ble_eq_true rfl, Nat.le_of_ble_eq_true rfl⟩) rfl (Nat.le_of_ble_eq_true rfl) (by show 1 + (0) = 1; omega) (by show 300 + (0) = 300; omega) rfl dJx4a65c_grow_d5877_7 (kk_sK (fun v1 I1 J1 h => ?_))
  exact wy_aret C (Or.inr ⟨_, rfl⟩) dJx4a65c_grow_d5877_10 ⟨_, rfl, h⟩
theorem in_Jx4a65c_add_72be8_Jx4a65c : ∀ w ∈ wsJx4a65c0, w ∈ wsJx4a65c_add_72be8 := by decide +kernel
theorem f_Jx4a65c_add_72be8_48 : FLk wsJx4a65c_add_72be8 RJx4a65c 48 2 2 := flk 2 2 rfl tyJx4a65c_ok nmJx4a65c in_Jx4a65c_add_72be8_Jx4a65c (by decide) (by decide +kernel)
theorem fp_Jx4a65c_2 : FPk 2 2 .int := fun C9 T9 N9 h => by
  have h : some (RJx4a65c, TJx4a65c, 3) = some (C9, T9, N9) := h
  cases h
  exact ⟨rfl, by decide +kernel⟩
def rm_Jx4a65c_add_72be8 : Room := { frames := 5, cells := 1, slots := 300, locals := 184 }
set_option maxHeartbeats 4000000 in
set_option maxRecDepth 100000 in
theorem bk_Jx4a65c_add_72be8_11 (G : KG) (hG : Kok G) (hW : KWx G) (X : KX) (hX : KR X = rm_Jx4a65c_add_72be8) (C : Fr G X cJx4a65c_add_72be8 4 yJx4a65c_add_72be8.cls none wsJx4a65c_add_72be8) (k0 : Nat) (k1 : Nat) (k2 : Nat) (l3 : Int) (hk0 : isAL k0) (Q : Ii → Jj → Prop) (p2 : Nat) (I : Ii) (J : Jj) (h : B_Jx4a65c_add_72be8_11 k0 k1 k2 l3 Q p2 I J) : Wz G X 4 (QsU G X (QsV Q)) 0 0 11 [some (.ref (kadr G k0)), some (.ref (kadr G k1)), some (.ref (kadr G p2)), some (.int (iZ l3))] [] I J := by
  unfold B_Jx4a65c_add_72be8_11 at h
  refine wz_aload_n C rfl rfl dJx4a65c_add_72be8_11 ?_
  refine wz_iload_n C rfl rfl dJx4a65c_add_72be8_12 ?_
  refine wz_aload_n C rfl rfl dJx4a65c_add_72be8_13 ?_
  obtain ⟨g6, h⟩ := h
  refine wy_aast3 C hW g6 dJx4a65c_add_72be8_14 (fun I5 e => ?_)
  replace h := h I5 e
  refine wz_aload_n C rfl rfl dJx4a65c_add_72be8_15 ?_
  refine wz_iload_n C rfl rfl dJx4a65c_add_72be8_16 ?_
  refine wz_iconst C dJx4a65c_add_72be8_17 ?_
  refine wz_iadd C dJx4a65c_add_72be8_18 ?_
  refine wd_putI C f_Jx4a65c_add_72be8_48 fp_Jx4a65c_2 (sAL_2 hk0) dJx4a65c_add_72be8_19 (fun I7 e => ?_)
  replace h := h I7 e
  exact wz_vret C dJx4a65c_add_72be8_22 ⟨rfl, h⟩
set_option maxHeartbeats 4000000 in
set_option maxRecDepth 100000 in
theorem k_Jx4a65c_add_72be8 (G : KG) (hG : Kok G) (hW : KWx G)  (k0 : Nat) (k1 : Nat) (k2 : Nat) (l3 : Int) (I : Ii) (J : Jj) (hk0 : isAL k0) (Q : Ii → Jj → Prop) (h : wp_Jx4a65c_add_72be8 k0 k1 k2 l3 I J Q) : Ctr G yJx4a65c_add_72be8 wsJx4a65c_add_72be8 rm_Jx4a65c_add_72be8 [.ref (kadr G k0), .ref (kadr G k1), .ref (kadr G k2), .int (iZ l3)] (I, J) (QsV Q) := by
  unfold wp_Jx4a65c_add_72be8 at h
  refine Ctr.ofZ (cc := cJx4a65c_add_72be8) (nL := 4) (ret := none) [some (.ref (kadr G k0)), some (.ref (kadr G k1)), some (.ref (kadr G k2)), some (.int (iZ l3))] hG (by decide +kernel) rfl (Nat.le_of_ble_eq_true rfl) (Nat.le_of_ble_eq_true rfl) (by simp [lvA, lv_args, Value.category]) ?_
  intro X hX C
  refine (?_ : Wz G X 4 (QsU G X (QsV Q)) 1 300 0 [some (.ref (kadr G k0)), some (.ref (kadr G k1)), some (.ref (kadr G k2)), some (.int (iZ l3))] [] I J)
  refine wz_iload_n C rfl rfl dJx4a65c_add_72be8_0 ?_
  refine wz_aload_n C rfl rfl dJx4a65c_add_72be8_1 ?_
  obtain ⟨g1, h⟩ := h
  refine wy_alen3 C hW g1 dJx4a65c_add_72be8_2 ?_
  obtain ⟨g2, h⟩ := h
  obtain ⟨g3, h⟩ := h
  refine wz_icmp_ne C (tgt := 11) g2 g3 dJx4a65c_add_72be8_3 (by decide) (fun c => ?_) (fun c => ?_)
  · replace h := h.1 c
    exact Wz.less (a0 := 0) (b0 := 0) (by omega) (by omega) (bk_Jx4a65c_add_72be8_11 G hG hW X hX C k0 k1 k2 l3 hk0 Q k2 I J h)
  · replace h := h.2 c
    refine wz_aload_n C rfl rfl dJx4a65c_add_72be8_6 ?_
    refine wm_callV C (S := (I, J)) (o := k0) (As := []) (st := []) (a' := 0) (b' := 0) (spAL hk0) rfl (k_Jx4a65c_grow_d5877 G hG hW k0 I J hk0 _ h) 0 gJx4a65c_add_72be8_Jx4a65c_grow_d5877 rfl (by decide +kernel) (by rw [hX]; exact ⟨Nat.le_of_ble_eq_true rfl, Nat.le_of_ble_eq_true rfl⟩) rfl (Nat.le_of_ble_eq_true rfl) (by show 1 + (0) = 1; omega) (by show 300 + (0) = 300; omega) rfl dJx4a65c_add_72be8_7 (kk_sK (fun v4 I4 J4 h => ?_))
    refine wz_astore_2 C rfl dJx4a65c_add_72be8_10 ?_
    exact Wz.less (a0 := 0) (b0 := 0) (by omega) (by omega) (bk_Jx4a65c_add_72be8_11 G hG hW X hX C k0 k1 k2 l3 hk0 Q v4 I4 J4 h)
theorem in_Jx4a65c_add_9ea2d_Jx4a65c : ∀ w ∈ wsJx4a65c0, w ∈ wsJx4a65c_add_9ea2d := by decide +kernel
theorem f_Jx4a65c_add_9ea2d_63 : FLs wsJx4a65c_add_9ea2d RJx4a65c 63 2 0 "java/util/ArrayList" := fls 2 0 "java/util/ArrayList" rfl tyJx4a65c_ok nmJx4a65c in_Jx4a65c_add_9ea2d_Jx4a65c (by decide) (by decide +kernel) (by decide +kernel)
theorem fp_Jx4a65c_0 : FPk 2 0 .int := fun C9 T9 N9 h => by
  have h : some (RJx4a65c, TJx4a65c, 3) = some (C9, T9, N9) := h
  cases h
  exact ⟨rfl, by decide +kernel⟩
theorem f_Jx4a65c_add_9ea2d_9 : FLk wsJx4a65c_add_9ea2d RJx4a65c 9 2 1 := flk 2 1 rfl tyJx4a65c_ok nmJx4a65c in_Jx4a65c_add_9ea2d_Jx4a65c (by decide) (by decide +kernel)
theorem f_Jx4a65c_add_9ea2d_48 : FLk wsJx4a65c_add_9ea2d RJx4a65c 48 2 2 := flk 2 2 rfl tyJx4a65c_ok nmJx4a65c in_Jx4a65c_add_9ea2d_Jx4a65c (by decide) (by decide +kernel)
def rm_Jx4a65c_add_9ea2d : Room := { frames := 6, cells := 1, slots := 300, locals := 207 }
set_option maxHeartbeats 4000000 in
set_option maxRecDepth 100000 in
theorem k_Jx4a65c_add_9ea2d (G : KG) (hG : Kok G) (hW : KWx G)  (k0 : Nat) (k1 : Nat) (I : Ii) (J : Jj) (hk0 : isAL k0) (Q : Int → Ii → Jj → Prop) (h : wp_Jx4a65c_add_9ea2d k0 k1 I J Q) : Ctr G yJx4a65c_add_9ea2d wsJx4a65c_add_9ea2d rm_Jx4a65c_add_9ea2d [.ref (kadr G k0), .ref (kadr G k1)] (I, J) (QsB Q) := by
  unfold wp_Jx4a65c_add_9ea2d at h
  refine Ctr.ofZ (cc := cJx4a65c_add_9ea2d) (nL := 2) (ret := (some .boolean)) [some (.ref (kadr G k0)), some (.ref (kadr G k1))] hG (by decide +kernel) rfl (Nat.le_of_ble_eq_true rfl) (Nat.le_of_ble_eq_true rfl) (by simp [lvA, lv_args, Value.category]) ?_
  intro X hX C
  refine (?_ : Wz G X 2 (QsU G X (QsB Q)) 1 300 0 [some (.ref (kadr G k0)), some (.ref (kadr G k1))] [] I J)
  refine wz_aload_n C rfl rfl dJx4a65c_add_9ea2d_0 ?_
  refine wz_dup C rfl dJx4a65c_add_9ea2d_1 ?_
  refine wy_getS C f_Jx4a65c_add_9ea2d_63 (sAL_0 hk0) dJx4a65c_add_9ea2d_2 ?_
  refine wz_iconst C dJx4a65c_add_9ea2d_5 ?_
  refine wz_iadd C dJx4a65c_add_9ea2d_6 ?_
  refine wy_putS C f_Jx4a65c_add_9ea2d_63 fp_Jx4a65c_0 (sAL_0 hk0) dJx4a65c_add_9ea2d_7 (fun I1 e => ?_)
  replace h := h I1 e
  refine wz_aload_n C rfl rfl dJx4a65c_add_9ea2d_10 ?_
  refine wz_aload_n C rfl rfl dJx4a65c_add_9ea2d_11 ?_
  refine wz_aload_n C rfl rfl dJx4a65c_add_9ea2d_12 ?_
  obtain ⟨g2, h⟩ := h
  refine wy_getM C f_Jx4a65c_add_9ea2d_9 (sAL_1 hk0) g2 dJx4a65c_add_9ea2d_13 ?_
  refine wz_aload_n C rfl rfl dJx4a65c_add_9ea2d_16 ?_
  refine wz_getI C rfl f_Jx4a65c_add_9ea2d_48 (sAL_2 hk0) dJx4a65c_add_9ea2d_17 ?_
  refine wm_callV C (S := (I1, J)) (o := k0) (As := [.ref (kadr G k1), .ref (kadr G ((I1 k0 1).toNat)), .int (iZ (I1 k0 2))]) (st := []) (a' := 0) (b' := 0) (spAL hk0) rfl (k_Jx4a65c_add_72be8 G hG hW k0 k1 ((I1 k0 1).toNat) (I1 k0 2) I1 J hk0 _ h) 3 gJx4a65c_add_9ea2d_Jx4a65c_add_72be8 rfl (by decide +kernel) (by rw [hX]; exact ⟨Nat.le_of_ble_eq_true rfl, Nat.le_of_ble_eq_true rfl⟩) rfl (Nat.le_of_ble_eq_true rfl) (by show 1 + (0) = 1; omega) (by show 300 + (0) = 300; omega) rfl dJx4a65c_add_9ea2d_20 (kk_sV (fun I3 J3 h => ?_))
  refine wz_iconst C dJx4a65c_add_9ea2d_23 ?_
  exact wz_zret C (Or.inr rfl) dJx4a65c_add_9ea2d_24 ⟨_, rfl, (Or.inr rfl), h⟩
theorem in_Jx4a65c_fastRemove_b59b0_Jx4a65c : ∀ w ∈ wsJx4a65c0, w ∈ wsJx4a65c_fastRemove_b59b0 := by decide +kernel
theorem f_Jx4a65c_fastRemove_b59b0_63 : FLs wsJx4a65c_fastRemove_b59b0 RJx4a65c 63 2 0 "java/util/ArrayList" := fls 2 0 "java/util/ArrayList" rfl tyJx4a65c_ok nmJx4a65c in_Jx4a65c_fastRemove_b59b0_Jx4a65c (by decide) (by decide +kernel) (by decide +kernel)
theorem f_Jx4a65c_fastRemove_b59b0_48 : FLk wsJx4a65c_fastRemove_b59b0 RJx4a65c 48 2 2 := flk 2 2 rfl tyJx4a65c_ok nmJx4a65c in_Jx4a65c_fastRemove_b59b0_Jx4a65c (by decide) (by decide +kernel)
def rm_Jx4a65c_fastRemove_b59b0 : Room := { frames := 1, cells := 0, slots := 0, locals := 80 }
set_option maxHeartbeats 4000000 in
set_option maxRecDepth 100000 in
theorem bk_Jx4a65c_fastRemove_b59b0_34 (G : KG) (hG : Kok G) (hW : KWx G) (X : KX) (hX : KR X = rm_Jx4a65c_fastRemove_b59b0) (C : Fr G X cJx4a65c_fastRemove_b59b0 4 yJx4a65c_fastRemove_b59b0.cls none wsJx4a65c_fastRemove_b59b0) (k0 : Nat) (k1 : Nat) (l2 : Int) (hk0 : isAL k0) (Q : Ii → Jj → Prop) (l3 : Int) (I : Ii) (J : Jj) (h : B_Jx4a65c_fastRemove_b59b0_34 k0 k1 l2 Q l3 I J) : Wz G X 4 (QsU G X (QsV Q)) 0 0 34 [some (.ref (kadr G k0)), some (.ref (kadr G k1)), none, some (.int (iZ l3))] [] I J := by
  unfold B_Jx4a65c_fastRemove_b59b0_34 at h
  refine wz_aload_n C rfl rfl dJx4a65c_fastRemove_b59b0_34 ?_
  refine wz_aload_n C rfl rfl dJx4a65c_fastRemove_b59b0_35 ?_
  refine wz_iload_n C rfl rfl dJx4a65c_fastRemove_b59b0_36 ?_
  refine wy_dup_x1 C rfl rfl dJx4a65c_fastRemove_b59b0_37 ?_
  refine wd_putI C f_Jx4a65c_fastRemove_b59b0_48 fp_Jx4a65c_2 (sAL_2 hk0) dJx4a65c_fastRemove_b59b0_38 (fun I6 e => ?_)
  replace h := h I6 e
  refine wy_null C dJx4a65c_fastRemove_b59b0_41 ?_
  obtain ⟨g8, h⟩ := h
  refine wy_aast3N C g8 dJx4a65c_fastRemove_b59b0_42 (fun I7 e => ?_)
  replace h := h I7 e
  exact wz_vret C dJx4a65c_fastRemove_b59b0_43 ⟨rfl, h⟩
set_option maxHeartbeats 4000000 in
set_option maxRecDepth 100000 in
theorem k_Jx4a65c_fastRemove_b59b0 (G : KG) (hG : Kok G) (hW : KWx G)  (k0 : Nat) (k1 : Nat) (l2 : Int) (I : Ii) (J : Jj) (hk0 : isAL k0) (Q : Ii → Jj → Prop) (h : wp_Jx4a65c_fastRemove_b59b0 k0 k1 l2 I J Q) : Ctr G yJx4a65c_fastRemove_b59b0 wsJx4a65c_fastRemove_b59b0 rm_Jx4a65c_fastRemove_b59b0 [.ref (kadr G k0), .ref (kadr G k1), .int (iZ l2)] (I, J) (QsV Q) := by
  unfold wp_Jx4a65c_fastRemove_b59b0 at h
  refine Ctr.ofZ (cc := cJx4a65c_fastRemove_b59b0) (nL := 4) (ret := none) [some (.ref (kadr G k0)), some (.ref (kadr G k1)), some (.int (iZ l2)), none] hG (by decide +kernel) rfl (Nat.le_of_ble_eq_true rfl) (Nat.le_of_ble_eq_true rfl) (by simp [lvA, lv_args, Value.category]) ?_
  intro X hX C
  refine (?_ : Wz G X 4 (QsU G X (QsV Q)) 0 0 0 [some (.ref (kadr G k0)), some (.ref (kadr G k1)), some (.int (iZ l2)), none] [] I J)
  refine wz_aload_n C rfl rfl dJx4a65c_fastRemove_b59b0_0 ?_
  refine wz_dup C rfl dJx4a65c_fastRemove_b59b0_1 ?_
  refine wy_getS C f_Jx4a65c_fastRemove_b59b0_63 (sAL_0 hk0) dJx4a65c_fastRemove_b59b0_2 ?_
  refine wz_iconst C dJx4a65c_fastRemove_b59b0_5 ?_
  refine wz_iadd C dJx4a65c_fastRemove_b59b0_6 ?_
  refine wy_putS C f_Jx4a65c_fastRemove_b59b0_63 fp_Jx4a65c_0 (sAL_0 hk0) dJx4a65c_fastRemove_b59b0_7 (fun I1 e => ?_)
  replace h := h I1 e
  refine wz_aload_n C rfl rfl dJx4a65c_fastRemove_b59b0_10 ?_
  refine wz_getI C rfl f_Jx4a65c_fastRemove_b59b0_48 (sAL_2 hk0) dJx4a65c_fastRemove_b59b0_11 ?_
  refine wz_iconst C dJx4a65c_fastRemove_b59b0_14 ?_
  refine wz_isub C dJx4a65c_fastRemove_b59b0_15 ?_
  refine wz_dup C rfl dJx4a65c_fastRemove_b59b0_16 ?_
  refine wz_istore_3 C rfl dJx4a65c_fastRemove_b59b0_17 ?_
  refine wz_iload_n C rfl rfl dJx4a65c_fastRemove_b59b0_18 ?_
  obtain ⟨g2, h⟩ := h
  obtain ⟨g3, h⟩ := h
  refine wz_icmp_le C (tgt := 34) g2 g3 dJx4a65c_fastRemove_b59b0_19 (by decide) (fun c => ?_) (fun c => ?_)
  · replace h := h.1 c
    exact Wz.less (a0 := 0) (b0 := 0) (by omega) (by omega) (Wz.drop (bk_Jx4a65c_fastRemove_b59b0_34 G hG hW X hX C k0 k1 l2 hk0 Q ((I1 k0 2) - 1) I1 J h) (And.intro rfl (And.intro rfl (And.intro rfl trivial))))
  · replace h := h.2 c
    refine wz_aload_n C rfl rfl dJx4a65c_fastRemove_b59b0_22 ?_
    refine wz_iload_n C rfl rfl dJx4a65c_fastRemove_b59b0_23 ?_
    refine wz_iconst C dJx4a65c_fastRemove_b59b0_24 ?_
    refine wz_iadd C dJx4a65c_fastRemove_b59b0_25 ?_
    refine wz_aload_n C rfl rfl dJx4a65c_fastRemove_b59b0_26 ?_
    refine wz_iload_n C rfl rfl dJx4a65c_fastRemove_b59b0_27 ?_
    refine wz_iload_n C rfl rfl dJx4a65c_fastRemove_b59b0_28 ?_
    refine wz_iload_n C rfl rfl dJx4a65c_fastRemove_b59b0_29 ?_
    refine wz_isub C dJx4a65c_fastRemove_b59b0_30 ?_
    obtain ⟨g5, h⟩ := h
    refine wy_copyDD C g5 (by decide +kernel) (by decide +kernel) (by decide +kernel) (by decide +kernel) (by rw [hX]; exact ⟨Nat.le_of_ble_eq_true rfl, Nat.le_of_ble_eq_true rfl⟩) dJx4a65c_fastRemove_b59b0_31 (fun I4 e => ?_)
    replace h := h I4 e
    exact Wz.less (a0 := 0) (b0 := 0) (by omega) (by omega) (Wz.drop (bk_Jx4a65c_fastRemove_b59b0_34 G hG hW X hX C k0 k1 l2 hk0 Q ((I1 k0 2) - 1) I4 J h) (And.intro rfl (And.intro rfl (And.intro rfl trivial))))
theorem in_Jx4a65c_remove_915e3_Jx4a65c : ∀ w ∈ wsJx4a65c0, w ∈ wsJx4a65c_remove_915e3 := by decide +kernel
theorem f_Jx4a65c_remove_915e3_48 : FLk wsJx4a65c_remove_915e3 RJx4a65c 48 2 2 := flk 2 2 rfl tyJx4a65c_ok nmJx4a65c in_Jx4a65c_remove_915e3_Jx4a65c (by decide) (by decide +kernel)
theorem f_Jx4a65c_remove_915e3_9 : FLk wsJx4a65c_remove_915e3 RJx4a65c 9 2 1 := flk 2 1 rfl tyJx4a65c_ok nmJx4a65c in_Jx4a65c_remove_915e3_Jx4a65c (by decide) (by decide +kernel)
def rm_Jx4a65c_remove_915e3 : Room := { frames := 2, cells := 0, slots := 0, locals := 103 }
set_option maxHeartbeats 4000000 in
set_option maxRecDepth 100000 in
theorem k_Jx4a65c_remove_915e3 (G : KG) (hG : Kok G) (hW : KWx G)  (k0 : Nat) (l1 : Int) (I : Ii) (J : Jj) (hk0 : isAL k0) (Q : Nat → Ii → Jj → Prop) (h : wp_Jx4a65c_remove_915e3 k0 l1 I J Q) : Ctr G yJx4a65c_remove_915e3 wsJx4a65c_remove_915e3 rm_Jx4a65c_remove_915e3 [.ref (kadr G k0), .int (iZ l1)] (I, J) (QsK G Q) := by
  unfold wp_Jx4a65c_remove_915e3 at h
  refine Ctr.ofZ (cc := cJx4a65c_remove_915e3) (nL := 4) (ret := (some (.object "java/lang/Object"))) [some (.ref (kadr G k0)), some (.int (iZ l1)), none, none] hG (by decide +kernel) rfl (Nat.le_of_ble_eq_true rfl) (Nat.le_of_ble_eq_true rfl) (by simp [lvA, lv_args, Value.category]) ?_
  intro X hX C
  refine (?_ : Wz G X 4 (QsU G X (QsK G Q)) 0 0 0 [some (.ref (kadr G k0)), some (.int (iZ l1)), none, none] [] I J)
  refine wz_iload_n C rfl rfl dJx4a65c_remove_915e3_0 ?_
  refine wz_aload_n C rfl rfl dJx4a65c_remove_915e3_1 ?_
  refine wz_getI C rfl f_Jx4a65c_remove_915e3_48 (sAL_2 hk0) dJx4a65c_remove_915e3_2 ?_
  refine wm_callSo C (As := [.int (iZ l1), .int (iZ (I k0 2))]) (st := []) (a' := 0) (b' := 0) (k_J15_checkIndex_7cf53 G hG hW l1 (I k0 2) I J _ h) 2 (goodIn_wsS gJx4a65c_remove_915e3_J15_checkIndex_7cf53) (by decide +kernel) (by decide +kernel) (by decide +kernel) rfl (by decide +kernel) (by rw [hX]; exact ⟨Nat.le_of_ble_eq_true rfl, Nat.le_of_ble_eq_true rfl⟩) rfl (Nat.le_of_ble_eq_true rfl) (by show 0 + (0) = 0; omega) (by show 0 + (0) = 0; omega) rfl dJx4a65c_remove_915e3_5 (kk_sI (fun v1 I1 J1 h => ?_))
  refine wz_pop C rfl dJx4a65c_remove_915e3_8 ?_
  refine wz_aload_n C rfl rfl dJx4a65c_remove_915e3_9 ?_
  obtain ⟨g2, h⟩ := h
  refine wy_getM C f_Jx4a65c_remove_915e3_9 (sAL_1 hk0) g2 dJx4a65c_remove_915e3_10 ?_
  refine wz_astore_2 C rfl dJx4a65c_remove_915e3_13 ?_
  refine wz_aload_n C rfl rfl dJx4a65c_remove_915e3_14 ?_
  refine wz_iload_n C rfl rfl dJx4a65c_remove_915e3_15 ?_
  obtain ⟨g3, h⟩ := h
  refine wy_aald3 C g3 dJx4a65c_remove_915e3_16 ?_
  refine wz_astore_3 C rfl dJx4a65c_remove_915e3_17 ?_
  refine wz_aload_n C rfl rfl dJx4a65c_remove_915e3_18 ?_
  refine wz_aload_n C rfl rfl dJx4a65c_remove_915e3_19 ?_
  refine wz_iload_n C rfl rfl dJx4a65c_remove_915e3_20 ?_
  refine wm_callV C (S := (I1, J1)) (o := k0) (As := [.ref (kadr G ((I1 k0 1).toNat)), .int (iZ l1)]) (st := []) (a' := 0) (b' := 0) (spAL hk0) rfl (k_Jx4a65c_fastRemove_b59b0 G hG hW k0 ((I1 k0 1).toNat) l1 I1 J1 hk0 _ h) 2 gJx4a65c_remove_915e3_Jx4a65c_fastRemove_b59b0 rfl (by decide +kernel) (by rw [hX]; exact ⟨Nat.le_of_ble_eq_true rfl, Nat.le_of_ble_eq_true rfl⟩) rfl (Nat.le_of_ble_eq_true rfl) (by show 0 + (0) = 0; omega) (by show 0 + (0) = 0; omega) rfl dJx4a65c_remove_915e3_21 (kk_sV (fun I4 J4 h => ?_))
  refine wz_aload_n C rfl rfl dJx4a65c_remove_915e3_24 ?_
  exact wy_aret C (Or.inl ⟨_, rfl⟩) dJx4a65c_remove_915e3_25 ⟨_, rfl, h⟩
