def rm_X12_best : Room := { frames := 65, cells := 3, slots := 42, locals := 3229 }
set_option maxHeartbeats 4000000 in
set_option maxRecDepth 100000 in
theorem k_X12_best (G : KG) (hG : Kok G) (hW : KWx G)  (I : Ii) (J : Jj) (Q : Nat → Ii → Jj → Prop) (h : wp_X12_best I J Q) : Ctr G yX12_best wsX12_best rm_X12_best [.ref (kadr G 1000)] (I, J) (QsK G Q) := by
  unfold wp_X12_best at h
  refine Ctr.ofZ (cc := cX12_best) (nL := 4) (ret := (some (.array .int))) [some (.ref (kadr G 1000)), none, none, none] hG (by decide +kernel) rfl (Nat.le_of_ble_eq_true rfl) (Nat.le_of_ble_eq_true rfl) (by simp [lvA, lv_args, Value.category]) ?_
  intro X hX C
  refine (?_ : Wz G X 4 (QsU G X (QsK G Q)) 3 42 0 [some (.ref (kadr G 1000)), none, none, none] [] I J)
  refine wz_iconst C dX12_best_0 ?_
  obtain ⟨g1, h⟩ := h
  refine wy_newI C 14 g1 (by decide) (by decide +kernel) dX12_best_1 (a' := 2) (b' := 28) (by omega) (by omega) (fun I2 e => ?_)
  replace h := h I2 e
  replace h := h _ rfl
  refine wz_dup C rfl dX12_best_3 ?_
  refine wz_iconst C dX12_best_4 ?_
  refine wz_iconst C dX12_best_5 ?_
  obtain ⟨g4, h⟩ := h
  refine wy_iast C g4 dX12_best_6 (fun I5 e => ?_)
  replace h := h I5 e
  refine wz_dup C rfl dX12_best_7 ?_
  refine wz_iconst C dX12_best_8 ?_
  refine wz_iconst C dX12_best_9 ?_
  obtain ⟨g6, h⟩ := h
  refine wy_iast C g6 dX12_best_10 (fun I7 e => ?_)
  replace h := h I7 e
  refine wz_astore_1 C rfl dX12_best_11 ?_
  refine wz_aload_n C rfl rfl dX12_best_12 ?_
  refine wm_callV C (S := (I7, J)) (o := 1000) (As := []) (st := []) (a' := 2) (b' := 28) (shK_w (by decide) rfl) rfl (k_X12_groups G hG hW I7 J _ h) 0 gX12_best_X12_groups rfl (by decide +kernel) (by rw [hX]; exact ⟨Nat.le_of_ble_eq_true rfl, Nat.le_of_ble_eq_true rfl⟩) rfl (Nat.le_of_ble_eq_true rfl) (by show 0 + (2) = 2; omega) (by show 0 + (28) = 28; omega) rfl dX12_best_13 (kk_sI (fun v8 I8 J8 h => ?_))
  obtain ⟨g9, h⟩ := h
  refine wy_newI C 14 g9 (by decide) (by decide +kernel) dX12_best_16 (a' := 1) (b' := 14) (by omega) (by omega) (fun I10 e => ?_)
  replace h := h I10 e
  replace h := h _ rfl
  refine wz_astore_2 C rfl dX12_best_18 ?_
  refine wz_aload_n C rfl rfl dX12_best_19 ?_
  refine wm_callV C (S := (I10, J8)) (o := 1000) (As := []) (st := []) (a' := 1) (b' := 14) (shK_w (by decide) rfl) rfl (k_X12_groups G hG hW I10 J8 _ h) 0 gX12_best_X12_groups rfl (by decide +kernel) (by rw [hX]; exact ⟨Nat.le_of_ble_eq_true rfl, Nat.le_of_ble_eq_true rfl⟩) rfl (Nat.le_of_ble_eq_true rfl) (by show 0 + (1) = 1; omega) (by show 0 + (14) = 14; omega) rfl dX12_best_20 (kk_sI (fun v12 I12 J12 h => ?_))
  refine wz_iconst C dX12_best_23 ?_
  refine wz_iadd C dX12_best_24 ?_
  obtain ⟨g13, h⟩ := h
  refine wy_newI C 14 g13 (by decide) (by decide +kernel) dX12_best_25 (a' := 0) (b' := 0) (by omega) (by omega) (fun I14 e => ?_)
  replace h := h I14 e
  replace h := h _ rfl
  refine wz_astore_3 C rfl dX12_best_27 ?_
  refine wz_aload_n C rfl rfl dX12_best_28 ?_
  refine wz_iconst C dX12_best_29 ?_
  refine wz_aload_n C rfl rfl dX12_best_30 ?_
  refine wz_aload_n C rfl rfl dX12_best_31 ?_
  refine wz_aload_n C rfl rfl dX12_best_32 ?_
  refine wm_callV C (S := (I14, J12)) (o := 1000) (As := [.int (iZ 0), .ref (kadr G ((I8 999 0).toNat)), .ref (kadr G ((I 999 0).toNat)), .ref (kadr G ((I12 999 0).toNat))]) (st := []) (a' := 0) (b' := 0) (shK_w (by decide) rfl) rfl (k_X12_search G hG hW ((I8 999 0).toNat) ((I 999 0).toNat) ((I12 999 0).toNat) 0 I14 J12 _ h) 4 gX12_best_X12_search rfl (by decide +kernel) (by rw [hX]; exact ⟨Nat.le_of_ble_eq_true rfl, Nat.le_of_ble_eq_true rfl⟩) rfl (Nat.le_of_ble_eq_true rfl) (by show 0 + (0) = 0; omega) (by show 0 + (0) = 0; omega) rfl dX12_best_33 (kk_sV (fun I16 J16 h => ?_))
  refine wz_aload_n C rfl rfl dX12_best_36 ?_
  refine wz_aload_n C rfl rfl dX12_best_37 ?_
  refine wm_callV C (S := (I16, J16)) (o := 1000) (As := []) (st := [.ref (kadr G ((I12 999 0).toNat))]) (a' := 0) (b' := 0) (shK_w (by decide) rfl) rfl (k_X12_groups G hG hW I16 J16 _ h) 0 gX12_best_X12_groups rfl (by decide +kernel) (by rw [hX]; exact ⟨Nat.le_of_ble_eq_true rfl, Nat.le_of_ble_eq_true rfl⟩) rfl (Nat.le_of_ble_eq_true rfl) (by show 0 + (0) = 0; omega) (by show 0 + (0) = 0; omega) rfl dX12_best_38 (kk_sI (fun v17 I17 J17 h => ?_))
  refine wz_aload_n C rfl rfl dX12_best_41 ?_
  refine wz_iconst C dX12_best_42 ?_
  obtain ⟨g18, h⟩ := h
  refine wy_iald C g18 dX12_best_43 ?_
  obtain ⟨g19, h⟩ := h
  refine wy_iast C g19 dX12_best_44 (fun I20 e => ?_)
  replace h := h I20 e
  refine wz_aload_n C rfl rfl dX12_best_45 ?_
  refine wz_aload_n C rfl rfl dX12_best_46 ?_
  refine wm_callV C (S := (I20, J17)) (o := 1000) (As := []) (st := [.ref (kadr G ((I12 999 0).toNat))]) (a' := 0) (b' := 0) (shK_w (by decide) rfl) rfl (k_X12_groups G hG hW I20 J17 _ h) 0 gX12_best_X12_groups rfl (by decide +kernel) (by rw [hX]; exact ⟨Nat.le_of_ble_eq_true rfl, Nat.le_of_ble_eq_true rfl⟩) rfl (Nat.le_of_ble_eq_true rfl) (by show 0 + (0) = 0; omega) (by show 0 + (0) = 0; omega) rfl dX12_best_47 (kk_sI (fun v21 I21 J21 h => ?_))
  refine wz_iconst C dX12_best_50 ?_
  refine wz_iadd C dX12_best_51 ?_
  refine wz_aload_n C rfl rfl dX12_best_52 ?_
  refine wz_iconst C dX12_best_53 ?_
  obtain ⟨g22, h⟩ := h
  refine wy_iald C g22 dX12_best_54 ?_
  obtain ⟨g23, h⟩ := h
  refine wy_iast C g23 dX12_best_55 (fun I24 e => ?_)
  replace h := h I24 e
  refine wz_aload_n C rfl rfl dX12_best_56 ?_
  exact wy_aret C (Or.inr ⟨_, rfl⟩) dX12_best_57 ⟨_, rfl, h⟩
