def rm_X12_shrink : Room := { frames := 5, cells := 0, slots := 0, locals := 122 }
set_option maxHeartbeats 4000000 in
set_option maxRecDepth 100000 in
theorem bk_X12_shrink_13 (G : KG) (hG : Kok G) (X : KX) (hX : KR X = rm_X12_shrink) (C : Fr G X cX12_shrink 1 yX12_shrink.cls (some .int) wsX12_shrink) (Q : Int → Ii → Jj → Prop) (t1 : Int) (I : Ii) (J : Jj) (h : B_X12_shrink_13 Q t1 I J) : Wz G X 1 (QsU G X (QsI Q)) 0 0 13 [some (.ref (kadr G 0))] [.int (iZ t1), .ref (kadr G 0)] I J := by
  unfold B_X12_shrink_13 at h
  refine wm_callV C (o := 0) (As := [.int (iZ t1)]) (st := []) (a' := 0) (b' := 0) rfl rfl (k_X12_goes G hG t1 I J _ h) 1 gX12_shrink_X12_goes rfl (by decide +kernel) (by rw [hX]; exact ⟨Nat.le_of_ble_eq_true rfl, Nat.le_of_ble_eq_true rfl⟩) rfl (Nat.le_of_ble_eq_true rfl) rfl rfl rfl dX12_shrink_13 (kk_sB (fun v3 I3 J3 hb3 h => ?_))
  refine wz_if_ne C (tgt := 21) (rgB hb3) dX12_shrink_16 (by decide) (fun c => ?_) (fun c => ?_)
  · replace h := h.1 c
    refine wz_aload_n C rfl rfl dX12_shrink_21 ?_
    refine wm_callV C (o := 0) (As := []) (st := []) (a' := 0) (b' := 0) rfl rfl (k_X12_laysAside G hG I3 J3 _ h) 0 gX12_shrink_X12_laysAside rfl (by decide +kernel) (by rw [hX]; exact ⟨Nat.le_of_ble_eq_true rfl, Nat.le_of_ble_eq_true rfl⟩) rfl (Nat.le_of_ble_eq_true rfl) rfl rfl rfl dX12_shrink_22 (kk_sV (fun I4 J4 h => ?_))
    refine wz_aload_n C rfl rfl dX12_shrink_25 ?_
    refine wz_aload_n C rfl rfl dX12_shrink_26 ?_
    refine wm_callV C (o := 0) (As := []) (st := [.ref (kadr G 0)]) (a' := 0) (b' := 0) rfl rfl (k_X12_shrinks G hG I4 J4 _ h) 0 gX12_shrink_X12_shrinks rfl (by decide +kernel) (by rw [hX]; exact ⟨Nat.le_of_ble_eq_true rfl, Nat.le_of_ble_eq_true rfl⟩) rfl (Nat.le_of_ble_eq_true rfl) rfl rfl rfl dX12_shrink_27 (kk_sI (fun v5 I5 J5 h => ?_))
    refine wm_callV C (o := 0) (As := [.int (iZ v5)]) (st := []) (a' := 0) (b' := 0) rfl rfl (k_X12_kept G hG v5 I5 J5 _ h) 1 gX12_shrink_X12_kept rfl (by decide +kernel) (by rw [hX]; exact ⟨Nat.le_of_ble_eq_true rfl, Nat.le_of_ble_eq_true rfl⟩) rfl (Nat.le_of_ble_eq_true rfl) rfl rfl rfl dX12_shrink_30 (kk_sI (fun v6 I6 J6 h => ?_))
    exact wz_iret C dX12_shrink_33 ⟨_, rfl, h⟩
  · replace h := h.2 c
    refine wz_iconst C dX12_shrink_19 ?_
    exact wz_iret C dX12_shrink_20 ⟨_, rfl, h⟩
set_option maxHeartbeats 4000000 in
set_option maxRecDepth 100000 in
theorem k_X12_shrink (G : KG) (hG : Kok G) (I : Ii) (J : Jj) (Q : Int → Ii → Jj → Prop) (h : wp_X12_shrink I J Q) : Ctr G yX12_shrink wsX12_shrink rm_X12_shrink [.ref (kadr G 0)] (I, J) (QsI Q) := by
  unfold wp_X12_shrink at h
  skip
  refine Ctr.ofZ (cc := cX12_shrink) (nL := 1) (ret := (some .int)) [some (.ref (kadr G 0))] hG (by decide +kernel) rfl (Nat.le_of_ble_eq_true rfl) (Nat.le_of_ble_eq_true rfl) (by simp [lvA, lv_args, Value.category]) ?_
  intro X hX C
  refine wz_aload_n C rfl rfl dX12_shrink_0 ?_
  refine wz_aload_n C rfl rfl dX12_shrink_1 ?_
  refine wm_callV C (o := 0) (As := []) (st := [.ref (kadr G 0)]) (a' := 0) (b' := 0) rfl rfl (k_X12_whyShrink G hG I J _ h) 0 gX12_shrink_X12_whyShrink rfl (by decide +kernel) (by rw [hX]; exact ⟨Nat.le_of_ble_eq_true rfl, Nat.le_of_ble_eq_true rfl⟩) rfl (Nat.le_of_ble_eq_true rfl) rfl rfl rfl dX12_shrink_2 (kk_sI (fun v1 I1 J1 h => ?_))
  obtain ⟨g2, h⟩ := h
  refine wz_if_ne C (tgt := 12) g2 dX12_shrink_5 (by decide) (fun c => ?_) (fun c => ?_)
  · replace h := h.1 c
    refine wz_iconst C dX12_shrink_12 ?_
    exact bk_X12_shrink_13 G hG X hX C Q 0 I1 J1 h
  · replace h := h.2 c
    refine wz_iconst C dX12_shrink_8 ?_
    refine wz_goto C dX12_shrink_9 (tgt := 13) (by decide) ?_
    exact bk_X12_shrink_13 G hG X hX C Q 1 I1 J1 h
theorem in_X12_grow_X12 : ∀ w ∈ wsX120, w ∈ wsX12_grow := by decide +kernel
theorem f_X12_grow_26 : FLk wsX12_grow RX12 26 12 15 := flk 12 15 rfl tyX12_ok nmX12 in_X12_grow_X12 (by decide) (by decide +kernel)
def rm_X12_grow : Room := { frames := 2, cells := 0, slots := 0, locals := 42 }
set_option maxHeartbeats 4000000 in
set_option maxRecDepth 100000 in
theorem bk_X12_grow_15 (G : KG) (hG : Kok G) (X : KX) (hX : KR X = rm_X12_grow) (C : Fr G X cX12_grow 1 yX12_grow.cls (some .int) wsX12_grow) (Q : Int → Ii → Jj → Prop) (t1 : Int) (I : Ii) (J : Jj) (h : B_X12_grow_15 Q t1 I J) : Wz G X 1 (QsU G X (QsI Q)) 0 0 15 [some (.ref (kadr G 0))] [.int (iZ t1), .ref (kadr G 0)] I J := by
  unfold B_X12_grow_15 at h
  refine wm_callV C (o := 0) (As := [.int (iZ t1)]) (st := []) (a' := 0) (b' := 0) rfl rfl (k_X12_goes G hG t1 I J _ h) 1 gX12_grow_X12_goes rfl (by decide +kernel) (by rw [hX]; exact ⟨Nat.le_of_ble_eq_true rfl, Nat.le_of_ble_eq_true rfl⟩) rfl (Nat.le_of_ble_eq_true rfl) rfl rfl rfl dX12_grow_15 (kk_sB (fun v2 I2 J2 hb2 h => ?_))
  refine wz_if_ne C (tgt := 23) (rgB hb2) dX12_grow_18 (by decide) (fun c => ?_) (fun c => ?_)
  · replace h := h.1 c
    refine wz_aload_n C rfl rfl dX12_grow_23 ?_
    refine wm_callV C (o := 0) (As := []) (st := []) (a' := 0) (b' := 0) rfl rfl (k_X12_laysAside G hG I2 J2 _ h) 0 gX12_grow_X12_laysAside rfl (by decide +kernel) (by rw [hX]; exact ⟨Nat.le_of_ble_eq_true rfl, Nat.le_of_ble_eq_true rfl⟩) rfl (Nat.le_of_ble_eq_true rfl) rfl rfl rfl dX12_grow_24 (kk_sV (fun I3 J3 h => ?_))
    refine wz_aload_n C rfl rfl dX12_grow_27 ?_
    refine wz_aload_n C rfl rfl dX12_grow_28 ?_
    refine wm_callV C (o := 0) (As := []) (st := [.ref (kadr G 0)]) (a' := 0) (b' := 0) rfl rfl (k_X12_grows G hG I3 J3 _ h) 0 gX12_grow_X12_grows rfl (by decide +kernel) (by rw [hX]; exact ⟨Nat.le_of_ble_eq_true rfl, Nat.le_of_ble_eq_true rfl⟩) rfl (Nat.le_of_ble_eq_true rfl) rfl rfl rfl dX12_grow_29 (kk_sI (fun v4 I4 J4 h => ?_))
    refine wm_callV C (o := 0) (As := [.int (iZ v4)]) (st := []) (a' := 0) (b' := 0) rfl rfl (k_X12_kept G hG v4 I4 J4 _ h) 1 gX12_grow_X12_kept rfl (by decide +kernel) (by rw [hX]; exact ⟨Nat.le_of_ble_eq_true rfl, Nat.le_of_ble_eq_true rfl⟩) rfl (Nat.le_of_ble_eq_true rfl) rfl rfl rfl dX12_grow_32 (kk_sI (fun v5 I5 J5 h => ?_))
    exact wz_iret C dX12_grow_35 ⟨_, rfl, h⟩
  · replace h := h.2 c
    refine wz_iconst C dX12_grow_21 ?_
    exact wz_iret C dX12_grow_22 ⟨_, rfl, h⟩
set_option maxHeartbeats 4000000 in
set_option maxRecDepth 100000 in
theorem k_X12_grow (G : KG) (hG : Kok G) (I : Ii) (J : Jj) (Q : Int → Ii → Jj → Prop) (h : wp_X12_grow I J Q) : Ctr G yX12_grow wsX12_grow rm_X12_grow [.ref (kadr G 0)] (I, J) (QsI Q) := by
  unfold wp_X12_grow at h
  skip
  refine Ctr.ofZ (cc := cX12_grow) (nL := 1) (ret := (some .int)) [some (.ref (kadr G 0))] hG (by decide +kernel) rfl (Nat.le_of_ble_eq_true rfl) (Nat.le_of_ble_eq_true rfl) (by simp [lvA, lv_args, Value.category]) ?_
  intro X hX C
  refine wz_aload_n C rfl rfl dX12_grow_0 ?_
  refine wz_aload_n C rfl rfl dX12_grow_1 ?_
  refine wz_getR C (j := 2) f_X12_grow_26 rfl dX12_grow_2 ?_
  refine wz_iconst C dX12_grow_5 ?_
  refine wz_iaload C 5 (n := 350) rfl rfl (by decide) (by decide) rfl dX12_grow_6 ?_
  obtain ⟨g1, h⟩ := h
  refine wz_if_le C (tgt := 14) g1 dX12_grow_7 (by decide) (fun c => ?_) (fun c => ?_)
  · replace h := h.1 c
    refine wz_iconst C dX12_grow_14 ?_
    exact bk_X12_grow_15 G hG X hX C Q 0 I J h
  · replace h := h.2 c
    refine wz_iconst C dX12_grow_10 ?_
    refine wz_goto C dX12_grow_11 (tgt := 15) (by decide) ?_
    exact bk_X12_grow_15 G hG X hX C Q 1 I J h
def rm_X12_move : Room := { frames := 5, cells := 0, slots := 0, locals := 109 }
set_option maxHeartbeats 4000000 in
set_option maxRecDepth 100000 in
theorem bk_X12_move_27 (G : KG) (hG : Kok G) (X : KX) (hX : KR X = rm_X12_move) (C : Fr G X cX12_move 4 yX12_move.cls (some .int) wsX12_move) (l1 : Int) (l2 : Int) (Q : Int → Ii → Jj → Prop) (t1 : Int) (t2 : Int) (I : Ii) (J : Jj) (h : B_X12_move_27 l1 l2 Q t1 t2 I J) : Wz G X 4 (QsU G X (QsI Q)) 0 0 27 [some (.ref (kadr G 0)), some (.int (iZ l1)), some (.int (iZ l2)), none] [.int (iZ t2), .int (iZ t1), .ref (kadr G 0)] I J := by
  unfold B_X12_move_27 at h
  refine wm_callV C (o := 0) (As := [.int (iZ t1), .int (iZ t2)]) (st := []) (a' := 0) (b' := 0) rfl rfl (k_X12_goesBoth G hG t1 t2 I J _ h) 2 gX12_move_X12_goesBoth rfl (by decide +kernel) (by rw [hX]; exact ⟨Nat.le_of_ble_eq_true rfl, Nat.le_of_ble_eq_true rfl⟩) rfl (Nat.le_of_ble_eq_true rfl) rfl rfl rfl dX12_move_27 (kk_sB (fun v4 I4 J4 hb4 h => ?_))
  refine wz_if_ne C (tgt := 35) (rgB hb4) dX12_move_30 (by decide) (fun c => ?_) (fun c => ?_)
  · replace h := h.1 c
    refine wz_aload_n C rfl rfl dX12_move_35 ?_
    refine wm_callV C (o := 0) (As := []) (st := []) (a' := 0) (b' := 0) rfl rfl (k_X12_laysAside G hG I4 J4 _ h) 0 gX12_move_X12_laysAside rfl (by decide +kernel) (by rw [hX]; exact ⟨Nat.le_of_ble_eq_true rfl, Nat.le_of_ble_eq_true rfl⟩) rfl (Nat.le_of_ble_eq_true rfl) rfl rfl rfl dX12_move_36 (kk_sV (fun I5 J5 h => ?_))
    refine wz_aload_n C rfl rfl dX12_move_39 ?_
    refine wz_aload_n C rfl rfl dX12_move_40 ?_
    refine wz_iload_n C rfl rfl dX12_move_41 ?_
    refine wz_iload_n C rfl rfl dX12_move_42 ?_
    refine wm_callV C (o := 0) (As := [.int (iZ l1), .int (iZ l2)]) (st := [.ref (kadr G 0)]) (a' := 0) (b' := 0) rfl rfl (k_X12_moves G hG l1 l2 I5 J5 _ h) 2 gX12_move_X12_moves rfl (by decide +kernel) (by rw [hX]; exact ⟨Nat.le_of_ble_eq_true rfl, Nat.le_of_ble_eq_true rfl⟩) rfl (Nat.le_of_ble_eq_true rfl) rfl rfl rfl dX12_move_43 (kk_sI (fun v6 I6 J6 h => ?_))
    refine wm_callV C (o := 0) (As := [.int (iZ v6)]) (st := []) (a' := 0) (b' := 0) rfl rfl (k_X12_kept G hG v6 I6 J6 _ h) 1 gX12_move_X12_kept rfl (by decide +kernel) (by rw [hX]; exact ⟨Nat.le_of_ble_eq_true rfl, Nat.le_of_ble_eq_true rfl⟩) rfl (Nat.le_of_ble_eq_true rfl) rfl rfl rfl dX12_move_46 (kk_sI (fun v7 I7 J7 h => ?_))
    exact wz_iret C dX12_move_49 ⟨_, rfl, h⟩
  · replace h := h.2 c
    refine wz_iconst C dX12_move_33 ?_
    exact wz_iret C dX12_move_34 ⟨_, rfl, h⟩
set_option maxHeartbeats 4000000 in
set_option maxRecDepth 100000 in
theorem k_X12_move (G : KG) (hG : Kok G) (l1 : Int) (l2 : Int) (I : Ii) (J : Jj) (Q : Int → Ii → Jj → Prop) (h : wp_X12_move l1 l2 I J Q) : Ctr G yX12_move wsX12_move rm_X12_move [.ref (kadr G 0), .int (iZ l1), .int (iZ l2)] (I, J) (QsI Q) := by
  unfold wp_X12_move at h
  skip
  refine Ctr.ofZ (cc := cX12_move) (nL := 4) (ret := (some .int)) [some (.ref (kadr G 0)), some (.int (iZ l1)), some (.int (iZ l2)), none] hG (by decide +kernel) rfl (Nat.le_of_ble_eq_true rfl) (Nat.le_of_ble_eq_true rfl) (by simp [lvA, lv_args, Value.category]) ?_
  intro X hX C
  refine wz_aload_n C rfl rfl dX12_move_0 ?_
  refine wz_iload_n C rfl rfl dX12_move_1 ?_
  refine wz_iload_n C rfl rfl dX12_move_2 ?_
  refine wm_callV C (o := 0) (As := [.int (iZ l1), .int (iZ l2)]) (st := []) (a' := 0) (b' := 0) rfl rfl (k_X12_areThere G hG l1 l2 I J _ h) 2 gX12_move_X12_areThere rfl (by decide +kernel) (by rw [hX]; exact ⟨Nat.le_of_ble_eq_true rfl, Nat.le_of_ble_eq_true rfl⟩) rfl (Nat.le_of_ble_eq_true rfl) rfl rfl rfl dX12_move_3 (kk_sB (fun v1 I1 J1 hb1 h => ?_))
  refine wz_istore_3 C rfl dX12_move_6 ?_
  refine wz_aload_n C rfl rfl dX12_move_7 ?_
  refine wz_iload_n C rfl rfl dX12_move_8 ?_
  refine wz_iload_n C rfl rfl dX12_move_9 ?_
  refine wz_if_eq C (tgt := 26) (rgB hb1) dX12_move_10 (by decide) (fun c => ?_) (fun c => ?_)
  · replace h := h.1 c
    refine wz_iconst C dX12_move_26 ?_
    exact Wz.drop (bk_X12_move_27 G hG X hX C l1 l2 Q v1 0 I1 J1 h) (And.intro rfl (And.intro rfl (And.intro rfl trivial)))
  · replace h := h.2 c
    refine wz_aload_n C rfl rfl dX12_move_13 ?_
    refine wz_iload_n C rfl rfl dX12_move_14 ?_
    refine wz_iload_n C rfl rfl dX12_move_15 ?_
    refine wm_callV C (o := 0) (As := [.int (iZ l1), .int (iZ l2)]) (st := [.int (iZ v1), .ref (kadr G 0)]) (a' := 0) (b' := 0) rfl rfl (k_X12_whyMove G hG l1 l2 I1 J1 _ h) 2 gX12_move_X12_whyMove rfl (by decide +kernel) (by rw [hX]; exact ⟨Nat.le_of_ble_eq_true rfl, Nat.le_of_ble_eq_true rfl⟩) rfl (Nat.le_of_ble_eq_true rfl) rfl rfl rfl dX12_move_16 (kk_sI (fun v2 I2 J2 h => ?_))
    obtain ⟨g3, h⟩ := h
    refine wz_if_ne C (tgt := 26) g3 dX12_move_19 (by decide) (fun c => ?_) (fun c => ?_)
    · replace h := h.1 c
      refine wz_iconst C dX12_move_26 ?_
      exact Wz.drop (bk_X12_move_27 G hG X hX C l1 l2 Q v1 0 I2 J2 h) (And.intro rfl (And.intro rfl (And.intro rfl trivial)))
    · replace h := h.2 c
      refine wz_iconst C dX12_move_22 ?_
      refine wz_goto C dX12_move_23 (tgt := 27) (by decide) ?_
      exact Wz.drop (bk_X12_move_27 G hG X hX C l1 l2 Q v1 1 I2 J2 h) (And.intro rfl (And.intro rfl (And.intro rfl trivial)))
theorem in_X12_step_X12 : ∀ w ∈ wsX120, w ∈ wsX12_step := by decide +kernel
theorem f_X12_step_90 : FLk wsX12_step RX12 90 12 0 := flk 12 0 rfl tyX12_ok nmX12 in_X12_step_X12 (by decide) (by decide +kernel)
def rm_X12_step : Room := { frames := 8, cells := 0, slots := 0, locals := 180 }
set_option maxHeartbeats 4000000 in
set_option maxRecDepth 100000 in
theorem k_X12_step (G : KG) (hG : Kok G) (I : Ii) (J : Jj) (Q : Int → Ii → Jj → Prop) (h : wp_X12_step I J Q) : Ctr G yX12_step wsX12_step rm_X12_step [.ref (kadr G 0)] (I, J) (QsI Q) := by
  unfold wp_X12_step at h
  skip
  refine Ctr.ofZ (cc := cX12_step) (nL := 2) (ret := (some .int)) [some (.ref (kadr G 0)), none] hG (by decide +kernel) rfl (Nat.le_of_ble_eq_true rfl) (Nat.le_of_ble_eq_true rfl) (by simp [lvA, lv_args, Value.category]) ?_
  intro X hX C
  refine wz_aload_n C rfl rfl dX12_step_0 ?_
  refine wz_iconst C dX12_step_1 ?_
  refine wd_putI C f_X12_step_90 fp_X12_0 rfl dX12_step_2 (fun I1 e => ?_)
  replace h := h I1 e
  refine wz_aload_n C rfl rfl dX12_step_5 ?_
  refine wm_callV C (o := 0) (As := []) (st := []) (a' := 0) (b' := 0) rfl rfl (k_X12_laysAside G hG I1 J _ h) 0 gX12_step_X12_laysAside rfl (by decide +kernel) (by rw [hX]; exact ⟨Nat.le_of_ble_eq_true rfl, Nat.le_of_ble_eq_true rfl⟩) rfl (Nat.le_of_ble_eq_true rfl) rfl rfl rfl dX12_step_6 (kk_sV (fun I2 J2 h => ?_))
  refine wz_aload_n C rfl rfl dX12_step_9 ?_
  refine wm_callV C (o := 0) (As := []) (st := []) (a' := 0) (b' := 0) rfl rfl (k_X12_stepNow G hG I2 J2 _ h) 0 gX12_step_X12_stepNow rfl (by decide +kernel) (by rw [hX]; exact ⟨Nat.le_of_ble_eq_true rfl, Nat.le_of_ble_eq_true rfl⟩) rfl (Nat.le_of_ble_eq_true rfl) rfl rfl rfl dX12_step_10 (kk_sI (fun v3 I3 J3 h => ?_))
  refine wz_istore_1 C rfl dX12_step_13 ?_
  refine wz_iload_n C rfl rfl dX12_step_14 ?_
  refine wz_iconst C dX12_step_15 ?_
  obtain ⟨g4, h⟩ := h
  refine wz_icmp_ne C (tgt := 23) g4 (by decide) dX12_step_16 (by decide) (fun c => ?_) (fun c => ?_)
  · replace h := h.1 c
    refine wz_aload_n C rfl rfl dX12_step_23 ?_
    refine wz_iload_n C rfl rfl dX12_step_24 ?_
    refine wm_callV C (o := 0) (As := [.int (iZ v3)]) (st := []) (a' := 0) (b' := 0) rfl rfl (k_X12_kept G hG v3 I3 J3 _ h) 1 gX12_step_X12_kept rfl (by decide +kernel) (by rw [hX]; exact ⟨Nat.le_of_ble_eq_true rfl, Nat.le_of_ble_eq_true rfl⟩) rfl (Nat.le_of_ble_eq_true rfl) rfl rfl rfl dX12_step_25 (kk_sI (fun v5 I5 J5 h => ?_))
    exact wz_iret C dX12_step_28 ⟨_, rfl, h⟩
  · replace h := h.2 c
    refine wz_iconst C dX12_step_19 ?_
    refine wz_goto C dX12_step_20 (tgt := 28) (by decide) ?_
    exact wz_iret C dX12_step_28 ⟨_, rfl, h⟩
def rm_X12_steps : Room := { frames := 9, cells := 0, slots := 0, locals := 203 }
set_option maxHeartbeats 4000000 in
set_option maxRecDepth 100000 in
theorem k_X12_steps (G : KG) (hG : Kok G) (l1 : Int) (I : Ii) (J : Jj) (Q : Int → Ii → Jj → Prop) (h : wp_X12_steps l1 I J Q) : Ctr G yX12_steps wsX12_steps rm_X12_steps [.ref (kadr G 0), .int (iZ l1)] (I, J) (QsI Q) := by
  unfold wp_X12_steps at h
  skip
  refine Ctr.ofZ (cc := cX12_steps) (nL := 2) (ret := (some .int)) [some (.ref (kadr G 0)), some (.int (iZ l1))] hG (by decide +kernel) rfl (Nat.le_of_ble_eq_true rfl) (Nat.le_of_ble_eq_true rfl) (by simp [lvA, lv_args, Value.category]) ?_
  intro X hX C
  refine wz_aload_n C rfl rfl dX12_steps_0 ?_
  refine wz_iload_n C rfl rfl dX12_steps_1 ?_
  refine wd_i2l C dX12_steps_2 ?_
  refine wz_lconst C (v := lZ 1) (by decide) dX12_steps_3 ?_
  refine wz_ldc2_w C (v := lZ 99) (by decide +kernel) dX12_steps_4 ?_
  refine wm_callS C (As := [.long (i2lZ l1), .long (lZ 1), .long (lZ 99)]) (st := [.ref (kadr G 0)]) (a' := 0) (b' := 0) (k_X12_isIn G hG (i2lZ l1) (lZ 1) (lZ 99) I J _ h) 3 gX12_steps_X12_isIn rfl (by decide +kernel) (by rw [hX]; exact ⟨Nat.le_of_ble_eq_true rfl, Nat.le_of_ble_eq_true rfl⟩) rfl (Nat.le_of_ble_eq_true rfl) rfl rfl rfl dX12_steps_7 (kk_sB (fun v1 I1 J1 hb1 h => ?_))
  refine wm_callV C (o := 0) (As := [.int (iZ v1)]) (st := []) (a' := 0) (b' := 0) rfl rfl (k_X12_goes G hG v1 I1 J1 _ h) 1 gX12_steps_X12_goes rfl (by decide +kernel) (by rw [hX]; exact ⟨Nat.le_of_ble_eq_true rfl, Nat.le_of_ble_eq_true rfl⟩) rfl (Nat.le_of_ble_eq_true rfl) rfl rfl rfl dX12_steps_10 (kk_sB (fun v2 I2 J2 hb2 h => ?_))
  refine wz_if_ne C (tgt := 18) (rgB hb2) dX12_steps_13 (by decide) (fun c => ?_) (fun c => ?_)
  · replace h := h.1 c
    refine wz_aload_n C rfl rfl dX12_steps_18 ?_
    refine wm_callV C (o := 0) (As := []) (st := []) (a' := 0) (b' := 0) rfl rfl (k_X12_laysAside G hG I2 J2 _ h) 0 gX12_steps_X12_laysAside rfl (by decide +kernel) (by rw [hX]; exact ⟨Nat.le_of_ble_eq_true rfl, Nat.le_of_ble_eq_true rfl⟩) rfl (Nat.le_of_ble_eq_true rfl) rfl rfl rfl dX12_steps_19 (kk_sV (fun I3 J3 h => ?_))
    refine wz_aload_n C rfl rfl dX12_steps_22 ?_
    refine wz_aload_n C rfl rfl dX12_steps_23 ?_
    refine wz_iload_n C rfl rfl dX12_steps_24 ?_
    refine wm_callV C (o := 0) (As := [.int (iZ l1)]) (st := [.ref (kadr G 0)]) (a' := 0) (b' := 0) rfl rfl (k_X12_stepsNow G hG l1 I3 J3 _ h) 1 gX12_steps_X12_stepsNow rfl (by decide +kernel) (by rw [hX]; exact ⟨Nat.le_of_ble_eq_true rfl, Nat.le_of_ble_eq_true rfl⟩) rfl (Nat.le_of_ble_eq_true rfl) rfl rfl rfl dX12_steps_25 (kk_sI (fun v4 I4 J4 h => ?_))
    refine wm_callV C (o := 0) (As := [.int (iZ v4)]) (st := []) (a' := 0) (b' := 0) rfl rfl (k_X12_kept G hG v4 I4 J4 _ h) 1 gX12_steps_X12_kept rfl (by decide +kernel) (by rw [hX]; exact ⟨Nat.le_of_ble_eq_true rfl, Nat.le_of_ble_eq_true rfl⟩) rfl (Nat.le_of_ble_eq_true rfl) rfl rfl rfl dX12_steps_28 (kk_sI (fun v5 I5 J5 h => ?_))
    exact wz_iret C dX12_steps_31 ⟨_, rfl, h⟩
  · replace h := h.2 c
    refine wz_iconst C dX12_steps_16 ?_
    exact wz_iret C dX12_steps_17 ⟨_, rfl, h⟩
theorem in_X12_placeApart_X12 : ∀ w ∈ wsX120, w ∈ wsX12_placeApart := by decide +kernel
theorem f_X12_placeApart_90 : FLk wsX12_placeApart RX12 90 12 0 := flk 12 0 rfl tyX12_ok nmX12 in_X12_placeApart_X12 (by decide) (by decide +kernel)
def rm_X12_placeApart : Room := { frames := 4, cells := 0, slots := 0, locals := 93 }
set_option maxHeartbeats 4000000 in
set_option maxRecDepth 100000 in
theorem bk_X12_placeApart_44 (G : KG) (hG : Kok G) (X : KX) (hX : KR X = rm_X12_placeApart) (C : Fr G X cX12_placeApart 4 yX12_placeApart.cls (some .int) wsX12_placeApart) (l1 : Int) (l2 : Int) (Q : Int → Ii → Jj → Prop) (t1 : Int) (I : Ii) (J : Jj) (h : B_X12_placeApart_44 l1 l2 Q t1 I J) : Wz G X 4 (QsU G X (QsI Q)) 0 0 44 [some (.ref (kadr G 0)), some (.int (iZ l1)), some (.int (iZ l2)), none] [.int (iZ t1), .ref (kadr G 0)] I J := by
  unfold B_X12_placeApart_44 at h
  refine wd_putI C f_X12_placeApart_90 fp_X12_0 rfl dX12_placeApart_44 (fun I6 e => ?_)
  replace h := h I6 e
  refine wz_aload_n C rfl rfl dX12_placeApart_47 ?_
  refine wz_getI C rfl f_X12_placeApart_90 rfl dX12_placeApart_48 ?_
  obtain ⟨g7, h⟩ := h
  refine wz_if_le C (tgt := 56) g7 dX12_placeApart_51 (by decide) (fun c => ?_) (fun c => ?_)
  · replace h := h.1 c
    refine wz_aload_n C rfl rfl dX12_placeApart_56 ?_
    refine wm_callV C (o := 0) (As := []) (st := []) (a' := 0) (b' := 0) rfl rfl (k_X12_laysAside G hG I6 J _ h) 0 gX12_placeApart_X12_laysAside rfl (by decide +kernel) (by rw [hX]; exact ⟨Nat.le_of_ble_eq_true rfl, Nat.le_of_ble_eq_true rfl⟩) rfl (Nat.le_of_ble_eq_true rfl) rfl rfl rfl dX12_placeApart_57 (kk_sV (fun I8 J8 h => ?_))
    refine wz_aload_n C rfl rfl dX12_placeApart_60 ?_
    refine wz_aload_n C rfl rfl dX12_placeApart_61 ?_
    refine wz_iload_n C rfl rfl dX12_placeApart_62 ?_
    refine wz_iload_n C rfl rfl dX12_placeApart_63 ?_
    refine wm_callV C (o := 0) (As := [.int (iZ l1), .int (iZ l2)]) (st := [.ref (kadr G 0)]) (a' := 0) (b' := 0) rfl rfl (k_X12_placesApart G hG l1 l2 I8 J8 _ h) 2 gX12_placeApart_X12_placesApart rfl (by decide +kernel) (by rw [hX]; exact ⟨Nat.le_of_ble_eq_true rfl, Nat.le_of_ble_eq_true rfl⟩) rfl (Nat.le_of_ble_eq_true rfl) rfl rfl rfl dX12_placeApart_64 (kk_sI (fun v9 I9 J9 h => ?_))
    refine wm_callV C (o := 0) (As := [.int (iZ v9)]) (st := []) (a' := 0) (b' := 0) rfl rfl (k_X12_kept G hG v9 I9 J9 _ h) 1 gX12_placeApart_X12_kept rfl (by decide +kernel) (by rw [hX]; exact ⟨Nat.le_of_ble_eq_true rfl, Nat.le_of_ble_eq_true rfl⟩) rfl (Nat.le_of_ble_eq_true rfl) rfl rfl rfl dX12_placeApart_67 (kk_sI (fun v10 I10 J10 h => ?_))
    exact wz_iret C dX12_placeApart_70 ⟨_, rfl, h⟩
  · replace h := h.2 c
    refine wz_iconst C dX12_placeApart_54 ?_
    exact wz_iret C dX12_placeApart_55 ⟨_, rfl, h⟩
set_option maxHeartbeats 4000000 in
set_option maxRecDepth 100000 in
theorem bk_X12_placeApart_23 (G : KG) (hG : Kok G) (X : KX) (hX : KR X = rm_X12_placeApart) (C : Fr G X cX12_placeApart 4 yX12_placeApart.cls (some .int) wsX12_placeApart) (l1 : Int) (l2 : Int) (Q : Int → Ii → Jj → Prop) (t1 : Int) (t2 : Int) (I : Ii) (J : Jj) (h : B_X12_placeApart_23 l1 l2 Q t1 t2 I J) : Wz G X 4 (QsU G X (QsI Q)) 0 0 23 [some (.ref (kadr G 0)), some (.int (iZ l1)), some (.int (iZ l2)), none] [.int (iZ t2), .int (iZ t1), .ref (kadr G 0)] I J := by
  unfold B_X12_placeApart_23 at h
  refine wm_callV C (o := 0) (As := [.int (iZ t1), .int (iZ t2)]) (st := []) (a' := 0) (b' := 0) rfl rfl (k_X12_goesBoth G hG t1 t2 I J _ h) 2 gX12_placeApart_X12_goesBoth rfl (by decide +kernel) (by rw [hX]; exact ⟨Nat.le_of_ble_eq_true rfl, Nat.le_of_ble_eq_true rfl⟩) rfl (Nat.le_of_ble_eq_true rfl) rfl rfl rfl dX12_placeApart_23 (kk_sB (fun v4 I4 J4 hb4 h => ?_))
  refine wz_if_ne C (tgt := 31) (rgB hb4) dX12_placeApart_26 (by decide) (fun c => ?_) (fun c => ?_)
  · replace h := h.1 c
    refine wz_aload_n C rfl rfl dX12_placeApart_31 ?_
    refine wz_aload_n C rfl rfl dX12_placeApart_32 ?_
    refine wm_callV C (o := 0) (As := []) (st := [.ref (kadr G 0)]) (a' := 0) (b' := 0) rfl rfl (k_X12_mayApart G hG I4 J4 _ h) 0 gX12_placeApart_X12_mayApart rfl (by decide +kernel) (by rw [hX]; exact ⟨Nat.le_of_ble_eq_true rfl, Nat.le_of_ble_eq_true rfl⟩) rfl (Nat.le_of_ble_eq_true rfl) rfl rfl rfl dX12_placeApart_33 (kk_sB (fun v5 I5 J5 hb5 h => ?_))
    refine wz_if_eq C (tgt := 43) (rgB hb5) dX12_placeApart_36 (by decide) (fun c => ?_) (fun c => ?_)
    · replace h := h.1 c
      refine wz_iconst C dX12_placeApart_43 ?_
      exact bk_X12_placeApart_44 G hG X hX C l1 l2 Q 3 I5 J5 h
    · replace h := h.2 c
      refine wz_iconst C dX12_placeApart_39 ?_
      refine wz_goto C dX12_placeApart_40 (tgt := 44) (by decide) ?_
      exact bk_X12_placeApart_44 G hG X hX C l1 l2 Q 0 I5 J5 h
  · replace h := h.2 c
    refine wz_iconst C dX12_placeApart_29 ?_
    exact wz_iret C dX12_placeApart_30 ⟨_, rfl, h⟩
set_option maxHeartbeats 4000000 in
set_option maxRecDepth 100000 in
theorem k_X12_placeApart (G : KG) (hG : Kok G) (l1 : Int) (l2 : Int) (I : Ii) (J : Jj) (Q : Int → Ii → Jj → Prop) (h : wp_X12_placeApart l1 l2 I J Q) : Ctr G yX12_placeApart wsX12_placeApart rm_X12_placeApart [.ref (kadr G 0), .int (iZ l1), .int (iZ l2)] (I, J) (QsI Q) := by
  unfold wp_X12_placeApart at h
  skip
  refine Ctr.ofZ (cc := cX12_placeApart) (nL := 4) (ret := (some .int)) [some (.ref (kadr G 0)), some (.int (iZ l1)), some (.int (iZ l2)), none] hG (by decide +kernel) rfl (Nat.le_of_ble_eq_true rfl) (Nat.le_of_ble_eq_true rfl) (by simp [lvA, lv_args, Value.category]) ?_
  intro X hX C
  refine wz_aload_n C rfl rfl dX12_placeApart_0 ?_
  refine wz_iload_n C rfl rfl dX12_placeApart_1 ?_
  refine wz_iload_n C rfl rfl dX12_placeApart_2 ?_
  refine wm_callV C (o := 0) (As := [.int (iZ l1), .int (iZ l2)]) (st := []) (a' := 0) (b' := 0) rfl rfl (k_X12_areVertices G hG l1 l2 I J _ h) 2 gX12_placeApart_X12_areVertices rfl (by decide +kernel) (by rw [hX]; exact ⟨Nat.le_of_ble_eq_true rfl, Nat.le_of_ble_eq_true rfl⟩) rfl (Nat.le_of_ble_eq_true rfl) rfl rfl rfl dX12_placeApart_3 (kk_sB (fun v1 I1 J1 hb1 h => ?_))
  refine wz_istore_3 C rfl dX12_placeApart_6 ?_
  refine wz_aload_n C rfl rfl dX12_placeApart_7 ?_
  refine wz_iload_n C rfl rfl dX12_placeApart_8 ?_
  refine wz_iload_n C rfl rfl dX12_placeApart_9 ?_
  refine wz_if_eq C (tgt := 22) (rgB hb1) dX12_placeApart_10 (by decide) (fun c => ?_) (fun c => ?_)
  · replace h := h.1 c
    refine wz_iconst C dX12_placeApart_22 ?_
    exact Wz.drop (bk_X12_placeApart_23 G hG X hX C l1 l2 Q v1 0 I1 J1 h) (And.intro rfl (And.intro rfl (And.intro rfl trivial)))
  · replace h := h.2 c
    refine wz_iload_n C rfl rfl dX12_placeApart_13 ?_
    refine wz_iload_n C rfl rfl dX12_placeApart_14 ?_
    obtain ⟨g2, h⟩ := h
    obtain ⟨g3, h⟩ := h
    refine wz_icmp_eq C (tgt := 22) g2 g3 dX12_placeApart_15 (by decide) (fun c => ?_) (fun c => ?_)
    · replace h := h.1 c
      refine wz_iconst C dX12_placeApart_22 ?_
      exact Wz.drop (bk_X12_placeApart_23 G hG X hX C l1 l2 Q v1 0 I1 J1 h) (And.intro rfl (And.intro rfl (And.intro rfl trivial)))
    · replace h := h.2 c
      refine wz_iconst C dX12_placeApart_18 ?_
      refine wz_goto C dX12_placeApart_19 (tgt := 23) (by decide) ?_
      exact Wz.drop (bk_X12_placeApart_23 G hG X hX C l1 l2 Q v1 1 I1 J1 h) (And.intro rfl (And.intro rfl (And.intro rfl trivial)))
def rm_X12_setCredit : Room := { frames := 2, cells := 0, slots := 0, locals := 42 }
set_option maxHeartbeats 4000000 in
set_option maxRecDepth 100000 in
theorem k_X12_setCredit (G : KG) (hG : Kok G) (l1 : Int) (I : Ii) (J : Jj) (Q : Int → Ii → Jj → Prop) (h : wp_X12_setCredit l1 I J Q) : Ctr G yX12_setCredit wsX12_setCredit rm_X12_setCredit [.ref (kadr G 0), .int (iZ l1)] (I, J) (QsI Q) := by
  unfold wp_X12_setCredit at h
  skip
  refine Ctr.ofZ (cc := cX12_setCredit) (nL := 2) (ret := (some .int)) [some (.ref (kadr G 0)), some (.int (iZ l1))] hG (by decide +kernel) rfl (Nat.le_of_ble_eq_true rfl) (Nat.le_of_ble_eq_true rfl) (by simp [lvA, lv_args, Value.category]) ?_
  intro X hX C
  refine wz_aload_n C rfl rfl dX12_setCredit_0 ?_
  refine wz_iload_n C rfl rfl dX12_setCredit_1 ?_
  refine wd_i2l C dX12_setCredit_2 ?_
  refine wz_lconst C (v := lZ 0) (by decide) dX12_setCredit_3 ?_
  refine wz_ldc2_w C (v := lZ 99) (by decide +kernel) dX12_setCredit_4 ?_
  refine wm_callS C (As := [.long (i2lZ l1), .long (lZ 0), .long (lZ 99)]) (st := [.ref (kadr G 0)]) (a' := 0) (b' := 0) (k_X12_isIn G hG (i2lZ l1) (lZ 0) (lZ 99) I J _ h) 3 gX12_setCredit_X12_isIn rfl (by decide +kernel) (by rw [hX]; exact ⟨Nat.le_of_ble_eq_true rfl, Nat.le_of_ble_eq_true rfl⟩) rfl (Nat.le_of_ble_eq_true rfl) rfl rfl rfl dX12_setCredit_7 (kk_sB (fun v1 I1 J1 hb1 h => ?_))
  refine wm_callV C (o := 0) (As := [.int (iZ v1)]) (st := []) (a' := 0) (b' := 0) rfl rfl (k_X12_goes G hG v1 I1 J1 _ h) 1 gX12_setCredit_X12_goes rfl (by decide +kernel) (by rw [hX]; exact ⟨Nat.le_of_ble_eq_true rfl, Nat.le_of_ble_eq_true rfl⟩) rfl (Nat.le_of_ble_eq_true rfl) rfl rfl rfl dX12_setCredit_10 (kk_sB (fun v2 I2 J2 hb2 h => ?_))
  refine wz_if_ne C (tgt := 18) (rgB hb2) dX12_setCredit_13 (by decide) (fun c => ?_) (fun c => ?_)
  · replace h := h.1 c
    refine wz_aload_n C rfl rfl dX12_setCredit_18 ?_
    refine wm_callV C (o := 0) (As := []) (st := []) (a' := 0) (b' := 0) rfl rfl (k_X12_laysAside G hG I2 J2 _ h) 0 gX12_setCredit_X12_laysAside rfl (by decide +kernel) (by rw [hX]; exact ⟨Nat.le_of_ble_eq_true rfl, Nat.le_of_ble_eq_true rfl⟩) rfl (Nat.le_of_ble_eq_true rfl) rfl rfl rfl dX12_setCredit_19 (kk_sV (fun I3 J3 h => ?_))
    refine wz_aload_n C rfl rfl dX12_setCredit_22 ?_
    refine wz_aload_n C rfl rfl dX12_setCredit_23 ?_
    refine wz_iload_n C rfl rfl dX12_setCredit_24 ?_
    refine wm_callV C (o := 0) (As := [.int (iZ l1)]) (st := [.ref (kadr G 0)]) (a' := 0) (b' := 0) rfl rfl (k_X12_setsCredit G hG l1 I3 J3 _ h) 1 gX12_setCredit_X12_setsCredit rfl (by decide +kernel) (by rw [hX]; exact ⟨Nat.le_of_ble_eq_true rfl, Nat.le_of_ble_eq_true rfl⟩) rfl (Nat.le_of_ble_eq_true rfl) rfl rfl rfl dX12_setCredit_25 (kk_sI (fun v4 I4 J4 h => ?_))
    refine wm_callV C (o := 0) (As := [.int (iZ v4)]) (st := []) (a' := 0) (b' := 0) rfl rfl (k_X12_kept G hG v4 I4 J4 _ h) 1 gX12_setCredit_X12_kept rfl (by decide +kernel) (by rw [hX]; exact ⟨Nat.le_of_ble_eq_true rfl, Nat.le_of_ble_eq_true rfl⟩) rfl (Nat.le_of_ble_eq_true rfl) rfl rfl rfl dX12_setCredit_28 (kk_sI (fun v5 I5 J5 h => ?_))
    exact wz_iret C dX12_setCredit_31 ⟨_, rfl, h⟩
  · replace h := h.2 c
    refine wz_iconst C dX12_setCredit_16 ?_
    exact wz_iret C dX12_setCredit_17 ⟨_, rfl, h⟩
def rm_X12_commandHere : Room := { frames := 2, cells := 0, slots := 0, locals := 42 }
set_option maxHeartbeats 4000000 in
set_option maxRecDepth 100000 in
theorem k_X12_commandHere (G : KG) (hG : Kok G) (I : Ii) (J : Jj) (Q : Int → Ii → Jj → Prop) (h : wp_X12_commandHere I J Q) : Ctr G yX12_commandHere wsX12_commandHere rm_X12_commandHere [.ref (kadr G 0)] (I, J) (QsI Q) := by
  unfold wp_X12_commandHere at h
  skip
  refine Ctr.ofZ (cc := cX12_commandHere) (nL := 1) (ret := (some .int)) [some (.ref (kadr G 0))] hG (by decide +kernel) rfl (Nat.le_of_ble_eq_true rfl) (Nat.le_of_ble_eq_true rfl) (by simp [lvA, lv_args, Value.category]) ?_
  intro X hX C
  refine wz_aload_n C rfl rfl dX12_commandHere_0 ?_
  refine wz_ldc2_w C (v := lZ 646522315) (by decide +kernel) dX12_commandHere_1 ?_
  refine wm_callV C (o := 0) (As := [.long (lZ 646522315)]) (st := []) (a' := 0) (b' := 0) rfl rfl (k_X12_isWord G hG (lZ 646522315) I J _ h) 1 gX12_commandHere_X12_isWord rfl (by decide +kernel) (by rw [hX]; exact ⟨Nat.le_of_ble_eq_true rfl, Nat.le_of_ble_eq_true rfl⟩) rfl (Nat.le_of_ble_eq_true rfl) rfl rfl rfl dX12_commandHere_4 (kk_sB (fun v1 I1 J1 hb1 h => ?_))
  refine wz_if_eq C (tgt := 12) (rgB hb1) dX12_commandHere_7 (by decide) (fun c => ?_) (fun c => ?_)
  · replace h := h.1 c
    refine wz_aload_n C rfl rfl dX12_commandHere_12 ?_
    refine wz_ldc2_w C (v := lZ 248311) (by decide +kernel) dX12_commandHere_13 ?_
    refine wm_callV C (o := 0) (As := [.long (lZ 248311)]) (st := []) (a' := 0) (b' := 0) rfl rfl (k_X12_isWord G hG (lZ 248311) I1 J1 _ h) 1 gX12_commandHere_X12_isWord rfl (by decide +kernel) (by rw [hX]; exact ⟨Nat.le_of_ble_eq_true rfl, Nat.le_of_ble_eq_true rfl⟩) rfl (Nat.le_of_ble_eq_true rfl) rfl rfl rfl dX12_commandHere_16 (kk_sB (fun v2 I2 J2 hb2 h => ?_))
    refine wz_if_eq C (tgt := 24) (rgB hb2) dX12_commandHere_19 (by decide) (fun c => ?_) (fun c => ?_)
    · replace h := h.1 c
      refine wz_aload_n C rfl rfl dX12_commandHere_24 ?_
      refine wz_ldc2_w C (v := lZ 442053) (by decide +kernel) dX12_commandHere_25 ?_
      refine wm_callV C (o := 0) (As := [.long (lZ 442053)]) (st := []) (a' := 0) (b' := 0) rfl rfl (k_X12_isWord G hG (lZ 442053) I2 J2 _ h) 1 gX12_commandHere_X12_isWord rfl (by decide +kernel) (by rw [hX]; exact ⟨Nat.le_of_ble_eq_true rfl, Nat.le_of_ble_eq_true rfl⟩) rfl (Nat.le_of_ble_eq_true rfl) rfl rfl rfl dX12_commandHere_28 (kk_sB (fun v3 I3 J3 hb3 h => ?_))
      refine wz_if_eq C (tgt := 36) (rgB hb3) dX12_commandHere_31 (by decide) (fun c => ?_) (fun c => ?_)
      · replace h := h.1 c
        refine wz_aload_n C rfl rfl dX12_commandHere_36 ?_
        refine wz_ldc2_w C (v := lZ 643248) (by decide +kernel) dX12_commandHere_37 ?_
        refine wm_callV C (o := 0) (As := [.long (lZ 643248)]) (st := []) (a' := 0) (b' := 0) rfl rfl (k_X12_isWord G hG (lZ 643248) I3 J3 _ h) 1 gX12_commandHere_X12_isWord rfl (by decide +kernel) (by rw [hX]; exact ⟨Nat.le_of_ble_eq_true rfl, Nat.le_of_ble_eq_true rfl⟩) rfl (Nat.le_of_ble_eq_true rfl) rfl rfl rfl dX12_commandHere_40 (kk_sB (fun v4 I4 J4 hb4 h => ?_))
        refine wz_if_eq C (tgt := 48) (rgB hb4) dX12_commandHere_43 (by decide) (fun c => ?_) (fun c => ?_)
        · replace h := h.1 c
          refine wz_aload_n C rfl rfl dX12_commandHere_48 ?_
          refine wz_ldc2_w C (v := lZ 20583955) (by decide +kernel) dX12_commandHere_49 ?_
          refine wm_callV C (o := 0) (As := [.long (lZ 20583955)]) (st := []) (a' := 0) (b' := 0) rfl rfl (k_X12_isWord G hG (lZ 20583955) I4 J4 _ h) 1 gX12_commandHere_X12_isWord rfl (by decide +kernel) (by rw [hX]; exact ⟨Nat.le_of_ble_eq_true rfl, Nat.le_of_ble_eq_true rfl⟩) rfl (Nat.le_of_ble_eq_true rfl) rfl rfl rfl dX12_commandHere_52 (kk_sB (fun v5 I5 J5 hb5 h => ?_))
          refine wz_if_eq C (tgt := 60) (rgB hb5) dX12_commandHere_55 (by decide) (fun c => ?_) (fun c => ?_)
          · replace h := h.1 c
            refine wz_aload_n C rfl rfl dX12_commandHere_60 ?_
            refine wz_ldc2_w C (v := lZ 71284) (by decide +kernel) dX12_commandHere_61 ?_
            refine wm_callV C (o := 0) (As := [.long (lZ 71284)]) (st := []) (a' := 0) (b' := 0) rfl rfl (k_X12_isWord G hG (lZ 71284) I5 J5 _ h) 1 gX12_commandHere_X12_isWord rfl (by decide +kernel) (by rw [hX]; exact ⟨Nat.le_of_ble_eq_true rfl, Nat.le_of_ble_eq_true rfl⟩) rfl (Nat.le_of_ble_eq_true rfl) rfl rfl rfl dX12_commandHere_64 (kk_sB (fun v6 I6 J6 hb6 h => ?_))
            refine wz_if_eq C (tgt := 72) (rgB hb6) dX12_commandHere_67 (by decide) (fun c => ?_) (fun c => ?_)
            · replace h := h.1 c
              refine wz_aload_n C rfl rfl dX12_commandHere_72 ?_
              refine wz_ldc2_w C (v := lZ 1574484) (by decide +kernel) dX12_commandHere_73 ?_
              refine wm_callV C (o := 0) (As := [.long (lZ 1574484)]) (st := []) (a' := 0) (b' := 0) rfl rfl (k_X12_isWord G hG (lZ 1574484) I6 J6 _ h) 1 gX12_commandHere_X12_isWord rfl (by decide +kernel) (by rw [hX]; exact ⟨Nat.le_of_ble_eq_true rfl, Nat.le_of_ble_eq_true rfl⟩) rfl (Nat.le_of_ble_eq_true rfl) rfl rfl rfl dX12_commandHere_76 (kk_sB (fun v7 I7 J7 hb7 h => ?_))
              refine wz_if_eq C (tgt := 85) (rgB hb7) dX12_commandHere_79 (by decide) (fun c => ?_) (fun c => ?_)
              · replace h := h.1 c
                refine wz_aload_n C rfl rfl dX12_commandHere_85 ?_
                refine wz_ldc2_w C (v := lZ 119705908) (by decide +kernel) dX12_commandHere_86 ?_
                refine wm_callV C (o := 0) (As := [.long (lZ 119705908)]) (st := []) (a' := 0) (b' := 0) rfl rfl (k_X12_isWord G hG (lZ 119705908) I7 J7 _ h) 1 gX12_commandHere_X12_isWord rfl (by decide +kernel) (by rw [hX]; exact ⟨Nat.le_of_ble_eq_true rfl, Nat.le_of_ble_eq_true rfl⟩) rfl (Nat.le_of_ble_eq_true rfl) rfl rfl rfl dX12_commandHere_89 (kk_sB (fun v8 I8 J8 hb8 h => ?_))
                refine wz_if_eq C (tgt := 98) (rgB hb8) dX12_commandHere_92 (by decide) (fun c => ?_) (fun c => ?_)
                · replace h := h.1 c
                  refine wz_aload_n C rfl rfl dX12_commandHere_98 ?_
                  refine wz_ldc2_w C (v := lZ 609752116) (by decide +kernel) dX12_commandHere_99 ?_
                  refine wm_callV C (o := 0) (As := [.long (lZ 609752116)]) (st := []) (a' := 0) (b' := 0) rfl rfl (k_X12_isWord G hG (lZ 609752116) I8 J8 _ h) 1 gX12_commandHere_X12_isWord rfl (by decide +kernel) (by rw [hX]; exact ⟨Nat.le_of_ble_eq_true rfl, Nat.le_of_ble_eq_true rfl⟩) rfl (Nat.le_of_ble_eq_true rfl) rfl rfl rfl dX12_commandHere_102 (kk_sB (fun v9 I9 J9 hb9 h => ?_))
                  refine wz_if_eq C (tgt := 113) (rgB hb9) dX12_commandHere_105 (by decide) (fun c => ?_) (fun c => ?_)
                  · replace h := h.1 c
                    refine wz_iconst C dX12_commandHere_113 ?_
                    exact wz_iret C dX12_commandHere_114 ⟨_, rfl, h⟩
                  · replace h := h.2 c
                    refine wz_bipush C (by decide) dX12_commandHere_108 ?_
                    refine wz_goto C dX12_commandHere_110 (tgt := 114) (by decide) ?_
                    exact wz_iret C dX12_commandHere_114 ⟨_, rfl, h⟩
                · replace h := h.2 c
                  refine wz_bipush C (by decide) dX12_commandHere_95 ?_
                  exact wz_iret C dX12_commandHere_97 ⟨_, rfl, h⟩
              · replace h := h.2 c
                refine wz_bipush C (by decide) dX12_commandHere_82 ?_
                exact wz_iret C dX12_commandHere_84 ⟨_, rfl, h⟩
            · replace h := h.2 c
              refine wz_iconst C dX12_commandHere_70 ?_
              exact wz_iret C dX12_commandHere_71 ⟨_, rfl, h⟩
          · replace h := h.2 c
            refine wz_iconst C dX12_commandHere_58 ?_
            exact wz_iret C dX12_commandHere_59 ⟨_, rfl, h⟩
        · replace h := h.2 c
          refine wz_iconst C dX12_commandHere_46 ?_
          exact wz_iret C dX12_commandHere_47 ⟨_, rfl, h⟩
      · replace h := h.2 c
        refine wz_iconst C dX12_commandHere_34 ?_
        exact wz_iret C dX12_commandHere_35 ⟨_, rfl, h⟩
    · replace h := h.2 c
      refine wz_iconst C dX12_commandHere_22 ?_
      exact wz_iret C dX12_commandHere_23 ⟨_, rfl, h⟩
  · replace h := h.2 c
    refine wz_iconst C dX12_commandHere_10 ?_
    exact wz_iret C dX12_commandHere_11 ⟨_, rfl, h⟩
theorem in_X12_command_X12 : ∀ w ∈ wsX120, w ∈ wsX12_command := by decide +kernel
theorem f_X12_command_145 : FLk wsX12_command RX12 145 12 43 := flk 12 43 rfl tyX12_ok nmX12 in_X12_command_X12 (by decide) (by decide +kernel)
theorem f_X12_command_446 : FLk wsX12_command RX12 446 12 42 := flk 12 42 rfl tyX12_ok nmX12 in_X12_command_X12 (by decide) (by decide +kernel)
theorem fp_X12_42 : FPk 12 42 .int := fun C9 T9 N9 h => by
  have h : some (RX12, TX12, 48) = some (C9, T9, N9) := h
  cases h
  exact ⟨rfl, by decide +kernel⟩
theorem f_X12_command_449 : FLk wsX12_command RX12 449 12 41 := flk 12 41 rfl tyX12_ok nmX12 in_X12_command_X12 (by decide) (by decide +kernel)
theorem f_X12_command_69 : FLk wsX12_command RX12 69 12 36 := flk 12 36 rfl tyX12_ok nmX12 in_X12_command_X12 (by decide) (by decide +kernel)
theorem f_X12_command_72 : FLk wsX12_command RX12 72 12 37 := flk 12 37 rfl tyX12_ok nmX12 in_X12_command_X12 (by decide) (by decide +kernel)
theorem f_X12_command_75 : FLk wsX12_command RX12 75 12 38 := flk 12 38 rfl tyX12_ok nmX12 in_X12_command_X12 (by decide) (by decide +kernel)
theorem fp_X12_41 : FPk 12 41 .int := fun C9 T9 N9 h => by
  have h : some (RX12, TX12, 48) = some (C9, T9, N9) := h
  cases h
  exact ⟨rfl, by decide +kernel⟩
def rm_X12_command : Room := { frames := 3, cells := 0, slots := 0, locals := 66 }
set_option maxHeartbeats 4000000 in
set_option maxRecDepth 100000 in
theorem bk_X12_command_229 (G : KG) (hG : Kok G) (X : KX) (hX : KR X = rm_X12_command) (C : Fr G X cX12_command 3 yX12_command.cls none wsX12_command) (Q : Ii → Jj → Prop) (t1 : Int) (t2 : Int) (I : Ii) (J : Jj) (h : B_X12_command_229 Q t1 t2 I J) : Wz G X 3 (QsU G X (QsV Q)) 0 0 229 [none, none, none] [.int (iZ t2), .int (iZ t1), .ref (kadr G 0)] I J := by
  unfold B_X12_command_229 at h
  refine wm_callS C (As := [.int (iZ t2)]) (st := [.int (iZ t1), .ref (kadr G 0)]) (a' := 0) (b' := 0) (k_X12_truth G hG t2 I J _ h) 1 gX12_command_X12_truth rfl (by decide +kernel) (by rw [hX]; exact ⟨Nat.le_of_ble_eq_true rfl, Nat.le_of_ble_eq_true rfl⟩) rfl (Nat.le_of_ble_eq_true rfl) rfl rfl rfl dX12_command_229 (kk_sI (fun v39 I39 J39 h => ?_))
  refine wz_iadd C dX12_command_232 ?_
  refine wd_putI C f_X12_command_145 fp_X12_43 rfl dX12_command_233 (fun I40 e => ?_)
  replace h := h I40 e
  exact wz_vret C dX12_command_236 ⟨rfl, h⟩
set_option maxHeartbeats 4000000 in
set_option maxRecDepth 100000 in
theorem bk_X12_command_195 (G : KG) (hG : Kok G) (X : KX) (hX : KR X = rm_X12_command) (C : Fr G X cX12_command 3 yX12_command.cls none wsX12_command) (Q : Ii → Jj → Prop) (l1 : Int) (I : Ii) (J : Jj) (h : B_X12_command_195 Q l1 I J) : Wz G X 3 (QsU G X (QsV Q)) 0 0 195 [some (.ref (kadr G 0)), some (.int (iZ l1)), none] [] I J := by
  unfold B_X12_command_195 at h
  refine wz_aload_n C rfl rfl dX12_command_195 ?_
  refine wm_callV C (o := 0) (As := []) (st := []) (a' := 0) (b' := 0) rfl rfl (k_X12_isGood G hG I J _ h) 0 gX12_command_X12_isGood rfl (by decide +kernel) (by rw [hX]; exact ⟨Nat.le_of_ble_eq_true rfl, Nat.le_of_ble_eq_true rfl⟩) rfl (Nat.le_of_ble_eq_true rfl) rfl rfl rfl dX12_command_196 (kk_sB (fun v36 I36 J36 hb36 h => ?_))
  refine wz_if_ne C (tgt := 203) (rgB hb36) dX12_command_199 (by decide) (fun c => ?_) (fun c => ?_)
  · replace h := h.1 c
    refine wz_aload_n C rfl rfl dX12_command_203 ?_
    refine wz_dup C rfl dX12_command_204 ?_
    refine wz_getI C rfl f_X12_command_449 rfl dX12_command_205 ?_
    refine wz_iconst C dX12_command_208 ?_
    refine wz_iadd C dX12_command_209 ?_
    refine wd_putI C f_X12_command_449 fp_X12_41 rfl dX12_command_210 (fun I37 e => ?_)
    replace h := h I37 e
    refine wz_aload_n C rfl rfl dX12_command_213 ?_
    refine wz_dup C rfl dX12_command_214 ?_
    refine wz_getI C rfl f_X12_command_145 rfl dX12_command_215 ?_
    refine wz_iload_n C rfl rfl dX12_command_218 ?_
    refine wz_bipush C (by decide) dX12_command_219 ?_
    obtain ⟨g38, h⟩ := h
    refine wz_icmp_ne C (tgt := 228) g38 (by decide) dX12_command_221 (by decide) (fun c => ?_) (fun c => ?_)
    · replace h := h.1 c
      refine wz_iconst C dX12_command_228 ?_
      exact Wz.drop (bk_X12_command_229 G hG X hX C Q (I37 0 43) 0 I37 J36 h) trivial
    · replace h := h.2 c
      refine wz_iconst C dX12_command_224 ?_
      refine wz_goto C dX12_command_225 (tgt := 229) (by decide) ?_
      exact Wz.drop (bk_X12_command_229 G hG X hX C Q (I37 0 43) 1 I37 J36 h) trivial
  · replace h := h.2 c
    exact wz_vret C dX12_command_202 ⟨rfl, h⟩
set_option maxHeartbeats 4000000 in
set_option maxRecDepth 100000 in
theorem bk_X12_command_183 (G : KG) (hG : Kok G) (X : KX) (hX : KR X = rm_X12_command) (C : Fr G X cX12_command 3 yX12_command.cls none wsX12_command) (Q : Ii → Jj → Prop) (l1 : Int) (I : Ii) (J : Jj) (h : B_X12_command_183 Q l1 I J) : Wz G X 3 (QsU G X (QsV Q)) 0 0 183 [some (.ref (kadr G 0)), some (.int (iZ l1)), none] [] I J := by
  unfold B_X12_command_183 at h
  refine wz_iload_n C rfl rfl dX12_command_183 ?_
  refine wz_bipush C (by decide) dX12_command_184 ?_
  obtain ⟨g34, h⟩ := h
  refine wz_icmp_ne C (tgt := 195) g34 (by decide) dX12_command_186 (by decide) (fun c => ?_) (fun c => ?_)
  · replace h := h.1 c
    exact bk_X12_command_195 G hG X hX C Q l1 I J h
  · replace h := h.2 c
    refine wz_aload_n C rfl rfl dX12_command_189 ?_
    refine wz_bipush C (by decide) dX12_command_190 ?_
    refine wm_callV C (o := 0) (As := [.int (iZ 40)]) (st := []) (a' := 0) (b' := 0) rfl rfl (k_X12_mustSign G hG 40 I J _ h) 1 gX12_command_X12_mustSign rfl (by decide +kernel) (by rw [hX]; exact ⟨Nat.le_of_ble_eq_true rfl, Nat.le_of_ble_eq_true rfl⟩) rfl (Nat.le_of_ble_eq_true rfl) rfl rfl rfl dX12_command_192 (kk_sV (fun I35 J35 h => ?_))
    exact bk_X12_command_195 G hG X hX C Q l1 I35 J35 h
set_option maxHeartbeats 4000000 in
set_option maxRecDepth 100000 in
theorem bk_X12_command_164 (G : KG) (hG : Kok G) (X : KX) (hX : KR X = rm_X12_command) (C : Fr G X cX12_command 3 yX12_command.cls none wsX12_command) (Q : Ii → Jj → Prop) (l1 : Int) (l2 : Int) (I : Ii) (J : Jj) (h : B_X12_command_164 Q l1 l2 I J) : Wz G X 3 (QsU G X (QsV Q)) 0 0 164 [some (.ref (kadr G 0)), some (.int (iZ l1)), some (.int (iZ l2))] [] I J := by
  unfold B_X12_command_164 at h
  refine wz_iload_n C rfl rfl dX12_command_164 ?_
  refine wz_bipush C (by decide) dX12_command_165 ?_
  obtain ⟨g30, h⟩ := h
  refine wz_icmp_ne C (tgt := 183) g30 (by decide) dX12_command_167 (by decide) (fun c => ?_) (fun c => ?_)
  · replace h := h.1 c
    exact Wz.drop (bk_X12_command_183 G hG X hX C Q l1 I J h) (And.intro rfl (And.intro rfl trivial))
  · replace h := h.2 c
    refine wz_aload_n C rfl rfl dX12_command_170 ?_
    refine wz_getR C (j := 17) f_X12_command_72 rfl dX12_command_171 ?_
    refine wz_iload_n C rfl rfl dX12_command_174 ?_
    refine wz_aload_n C rfl rfl dX12_command_175 ?_
    refine wz_iconst C dX12_command_176 ?_
    refine wz_bipush C (by decide) dX12_command_177 ?_
    refine wm_callV C (o := 0) (As := [.int (iZ 1), .int (iZ 20)]) (st := [.int (iZ l2), .ref (kadr G 17)]) (a' := 0) (b' := 0) rfl rfl (k_X12_number G hG 1 20 I J _ h) 2 gX12_command_X12_number rfl (by decide +kernel) (by rw [hX]; exact ⟨Nat.le_of_ble_eq_true rfl, Nat.le_of_ble_eq_true rfl⟩) rfl (Nat.le_of_ble_eq_true rfl) rfl rfl rfl dX12_command_179 (kk_sI (fun v31 I31 J31 h => ?_))
    obtain ⟨g32, h⟩ := h
    refine wd_iastore C l2.toNat (n := 60) rfl (zN g32) (zL g32) (by decide) dX12_command_182 (fun I33 e => ?_)
    replace h := h I33 e
    exact Wz.drop (bk_X12_command_183 G hG X hX C Q l1 I33 J31 h) (And.intro rfl (And.intro rfl trivial))
set_option maxHeartbeats 4000000 in
set_option maxRecDepth 100000 in
theorem bk_X12_command_148 (G : KG) (hG : Kok G) (X : KX) (hX : KR X = rm_X12_command) (C : Fr G X cX12_command 3 yX12_command.cls none wsX12_command) (Q : Ii → Jj → Prop) (l1 : Int) (l2 : Int) (I : Ii) (J : Jj) (h : B_X12_command_148 Q l1 l2 I J) : Wz G X 3 (QsU G X (QsV Q)) 0 0 148 [some (.ref (kadr G 0)), some (.int (iZ l1)), some (.int (iZ l2))] [] I J := by
  unfold B_X12_command_148 at h
  refine wz_iload_n C rfl rfl dX12_command_148 ?_
  refine wz_bipush C (by decide) dX12_command_149 ?_
  obtain ⟨g26, h⟩ := h
  refine wz_icmp_ne C (tgt := 164) g26 (by decide) dX12_command_151 (by decide) (fun c => ?_) (fun c => ?_)
  · replace h := h.1 c
    exact bk_X12_command_164 G hG X hX C Q l1 l2 I J h
  · replace h := h.2 c
    refine wz_aload_n C rfl rfl dX12_command_154 ?_
    refine wz_getR C (j := 18) f_X12_command_75 rfl dX12_command_155 ?_
    refine wz_iload_n C rfl rfl dX12_command_158 ?_
    refine wz_aload_n C rfl rfl dX12_command_159 ?_
    refine wm_callV C (o := 0) (As := []) (st := [.int (iZ l2), .ref (kadr G 18)]) (a' := 0) (b' := 0) rfl rfl (k_X12_toldVertex G hG I J _ h) 0 gX12_command_X12_toldVertex rfl (by decide +kernel) (by rw [hX]; exact ⟨Nat.le_of_ble_eq_true rfl, Nat.le_of_ble_eq_true rfl⟩) rfl (Nat.le_of_ble_eq_true rfl) rfl rfl rfl dX12_command_160 (kk_sI (fun v27 I27 J27 h => ?_))
    obtain ⟨g28, h⟩ := h
    refine wd_iastore C l2.toNat (n := 60) rfl (zN g28) (zL g28) (by decide) dX12_command_163 (fun I29 e => ?_)
    replace h := h I29 e
    exact bk_X12_command_164 G hG X hX C Q l1 l2 I29 J27 h
set_option maxHeartbeats 4000000 in
set_option maxRecDepth 100000 in
theorem bk_X12_command_132 (G : KG) (hG : Kok G) (X : KX) (hX : KR X = rm_X12_command) (C : Fr G X cX12_command 3 yX12_command.cls none wsX12_command) (Q : Ii → Jj → Prop) (l1 : Int) (l2 : Int) (I : Ii) (J : Jj) (h : B_X12_command_132 Q l1 l2 I J) : Wz G X 3 (QsU G X (QsV Q)) 0 0 132 [some (.ref (kadr G 0)), some (.int (iZ l1)), some (.int (iZ l2))] [] I J := by
  unfold B_X12_command_132 at h
  refine wz_iload_n C rfl rfl dX12_command_132 ?_
  refine wz_bipush C (by decide) dX12_command_133 ?_
  obtain ⟨g22, h⟩ := h
  refine wz_icmp_ne C (tgt := 148) g22 (by decide) dX12_command_135 (by decide) (fun c => ?_) (fun c => ?_)
  · replace h := h.1 c
    exact bk_X12_command_148 G hG X hX C Q l1 l2 I J h
  · replace h := h.2 c
    refine wz_aload_n C rfl rfl dX12_command_138 ?_
    refine wz_getR C (j := 17) f_X12_command_72 rfl dX12_command_139 ?_
    refine wz_iload_n C rfl rfl dX12_command_142 ?_
    refine wz_aload_n C rfl rfl dX12_command_143 ?_
    refine wm_callV C (o := 0) (As := []) (st := [.int (iZ l2), .ref (kadr G 17)]) (a' := 0) (b' := 0) rfl rfl (k_X12_toldVertex G hG I J _ h) 0 gX12_command_X12_toldVertex rfl (by decide +kernel) (by rw [hX]; exact ⟨Nat.le_of_ble_eq_true rfl, Nat.le_of_ble_eq_true rfl⟩) rfl (Nat.le_of_ble_eq_true rfl) rfl rfl rfl dX12_command_144 (kk_sI (fun v23 I23 J23 h => ?_))
    obtain ⟨g24, h⟩ := h
    refine wd_iastore C l2.toNat (n := 60) rfl (zN g24) (zL g24) (by decide) dX12_command_147 (fun I25 e => ?_)
    replace h := h I25 e
    exact bk_X12_command_148 G hG X hX C Q l1 l2 I25 J23 h
set_option maxHeartbeats 4000000 in
set_option maxRecDepth 100000 in
theorem bk_X12_command_113 (G : KG) (hG : Kok G) (X : KX) (hX : KR X = rm_X12_command) (C : Fr G X cX12_command 3 yX12_command.cls none wsX12_command) (Q : Ii → Jj → Prop) (l1 : Int) (l2 : Int) (I : Ii) (J : Jj) (h : B_X12_command_113 Q l1 l2 I J) : Wz G X 3 (QsU G X (QsV Q)) 0 0 113 [some (.ref (kadr G 0)), some (.int (iZ l1)), some (.int (iZ l2))] [] I J := by
  unfold B_X12_command_113 at h
  refine wz_iload_n C rfl rfl dX12_command_113 ?_
  refine wz_iconst C dX12_command_114 ?_
  obtain ⟨g18, h⟩ := h
  refine wz_icmp_ne C (tgt := 132) g18 (by decide) dX12_command_115 (by decide) (fun c => ?_) (fun c => ?_)
  · replace h := h.1 c
    exact bk_X12_command_132 G hG X hX C Q l1 l2 I J h
  · replace h := h.2 c
    refine wz_aload_n C rfl rfl dX12_command_118 ?_
    refine wz_getR C (j := 18) f_X12_command_75 rfl dX12_command_119 ?_
    refine wz_iload_n C rfl rfl dX12_command_122 ?_
    refine wz_aload_n C rfl rfl dX12_command_123 ?_
    refine wz_iconst C dX12_command_124 ?_
    refine wz_sipush C (by decide) dX12_command_125 ?_
    refine wm_callV C (o := 0) (As := [.int (iZ 0), .int (iZ 999)]) (st := [.int (iZ l2), .ref (kadr G 18)]) (a' := 0) (b' := 0) rfl rfl (k_X12_number G hG 0 999 I J _ h) 2 gX12_command_X12_number rfl (by decide +kernel) (by rw [hX]; exact ⟨Nat.le_of_ble_eq_true rfl, Nat.le_of_ble_eq_true rfl⟩) rfl (Nat.le_of_ble_eq_true rfl) rfl rfl rfl dX12_command_128 (kk_sI (fun v19 I19 J19 h => ?_))
    obtain ⟨g20, h⟩ := h
    refine wd_iastore C l2.toNat (n := 60) rfl (zN g20) (zL g20) (by decide) dX12_command_131 (fun I21 e => ?_)
    replace h := h I21 e
    exact bk_X12_command_132 G hG X hX C Q l1 l2 I21 J19 h
set_option maxHeartbeats 4000000 in
set_option maxRecDepth 100000 in
theorem bk_X12_command_99 (G : KG) (hG : Kok G) (X : KX) (hX : KR X = rm_X12_command) (C : Fr G X cX12_command 3 yX12_command.cls none wsX12_command) (Q : Ii → Jj → Prop) (l1 : Int) (l2 : Int) (I : Ii) (J : Jj) (h : B_X12_command_99 Q l1 l2 I J) : Wz G X 3 (QsU G X (QsV Q)) 0 0 99 [some (.ref (kadr G 0)), some (.int (iZ l1)), some (.int (iZ l2))] [] I J := by
  unfold B_X12_command_99 at h
  refine wz_aload_n C rfl rfl dX12_command_99 ?_
  refine wz_getR C (j := 17) f_X12_command_72 rfl dX12_command_100 ?_
  refine wz_iload_n C rfl rfl dX12_command_103 ?_
  refine wz_aload_n C rfl rfl dX12_command_104 ?_
  refine wz_iconst C dX12_command_105 ?_
  refine wz_sipush C (by decide) dX12_command_106 ?_
  refine wm_callV C (o := 0) (As := [.int (iZ 0), .int (iZ 999)]) (st := [.int (iZ l2), .ref (kadr G 17)]) (a' := 0) (b' := 0) rfl rfl (k_X12_number G hG 0 999 I J _ h) 2 gX12_command_X12_number rfl (by decide +kernel) (by rw [hX]; exact ⟨Nat.le_of_ble_eq_true rfl, Nat.le_of_ble_eq_true rfl⟩) rfl (Nat.le_of_ble_eq_true rfl) rfl rfl rfl dX12_command_109 (kk_sI (fun v15 I15 J15 h => ?_))
  obtain ⟨g16, h⟩ := h
  refine wd_iastore C l2.toNat (n := 60) rfl (zN g16) (zL g16) (by decide) dX12_command_112 (fun I17 e => ?_)
  replace h := h I17 e
  exact bk_X12_command_113 G hG X hX C Q l1 l2 I17 J15 h
set_option maxHeartbeats 4000000 in
set_option maxRecDepth 100000 in
theorem bk_X12_command_49 (G : KG) (hG : Kok G) (X : KX) (hX : KR X = rm_X12_command) (C : Fr G X cX12_command 3 yX12_command.cls none wsX12_command) (Q : Ii → Jj → Prop) (l1 : Int) (I : Ii) (J : Jj) (h : B_X12_command_49 Q l1 I J) : Wz G X 3 (QsU G X (QsV Q)) 0 0 49 [some (.ref (kadr G 0)), some (.int (iZ l1)), none] [] I J := by
  unfold B_X12_command_49 at h
  refine wz_aload_n C rfl rfl dX12_command_49 ?_
  refine wm_callV C (o := 0) (As := []) (st := []) (a' := 0) (b' := 0) rfl rfl (k_X12_isGood G hG I J _ h) 0 gX12_command_X12_isGood rfl (by decide +kernel) (by rw [hX]; exact ⟨Nat.le_of_ble_eq_true rfl, Nat.le_of_ble_eq_true rfl⟩) rfl (Nat.le_of_ble_eq_true rfl) rfl rfl rfl dX12_command_50 (kk_sB (fun v9 I9 J9 hb9 h => ?_))
  refine wz_if_ne C (tgt := 57) (rgB hb9) dX12_command_53 (by decide) (fun c => ?_) (fun c => ?_)
  · replace h := h.1 c
    refine wz_aload_n C rfl rfl dX12_command_57 ?_
    refine wz_dup C rfl dX12_command_58 ?_
    refine wz_getI C rfl f_X12_command_446 rfl dX12_command_59 ?_
    refine wz_iconst C dX12_command_62 ?_
    refine wz_iadd C dX12_command_63 ?_
    refine wd_putI C f_X12_command_446 fp_X12_42 rfl dX12_command_64 (fun I10 e => ?_)
    replace h := h I10 e
    refine wz_aload_n C rfl rfl dX12_command_67 ?_
    refine wm_callV C (o := 0) (As := []) (st := []) (a' := 0) (b' := 0) rfl rfl (k_X12_goOn G hG I10 J9 _ h) 0 gX12_command_X12_goOn rfl (by decide +kernel) (by rw [hX]; exact ⟨Nat.le_of_ble_eq_true rfl, Nat.le_of_ble_eq_true rfl⟩) rfl (Nat.le_of_ble_eq_true rfl) rfl rfl rfl dX12_command_68 (kk_sV (fun I11 J11 h => ?_))
    refine wz_aload_n C rfl rfl dX12_command_71 ?_
    refine wz_getI C rfl f_X12_command_449 rfl dX12_command_72 ?_
    refine wz_istore_2 C rfl dX12_command_75 ?_
    refine wz_aload_n C rfl rfl dX12_command_76 ?_
    refine wz_getR C (j := 16) f_X12_command_69 rfl dX12_command_77 ?_
    refine wz_iload_n C rfl rfl dX12_command_80 ?_
    refine wz_iload_n C rfl rfl dX12_command_81 ?_
    obtain ⟨g12, h⟩ := h
    refine wd_iastore C ((I11 0 41).toNat) (n := 60) rfl (zN g12) (zL g12) (by decide) dX12_command_82 (fun I13 e => ?_)
    replace h := h I13 e
    refine wz_iload_n C rfl rfl dX12_command_83 ?_
    refine wz_iconst C dX12_command_84 ?_
    obtain ⟨g14, h⟩ := h
    refine wz_icmp_eq C (tgt := 99) g14 (by decide) dX12_command_85 (by decide) (fun c => ?_) (fun c => ?_)
    · replace h := h.1 c
      exact bk_X12_command_99 G hG X hX C Q l1 (I11 0 41) I13 J11 h
    · replace h := h.2 c
      refine wz_iload_n C rfl rfl dX12_command_88 ?_
      refine wz_iconst C dX12_command_89 ?_
      refine wz_icmp_eq C (tgt := 99) g14 (by decide) dX12_command_90 (by decide) (fun c => ?_) (fun c => ?_)
      · replace h := h.1 c
        exact bk_X12_command_99 G hG X hX C Q l1 (I11 0 41) I13 J11 h
      · replace h := h.2 c
        refine wz_iload_n C rfl rfl dX12_command_93 ?_
        refine wz_bipush C (by decide) dX12_command_94 ?_
        refine wz_icmp_ne C (tgt := 113) g14 (by decide) dX12_command_96 (by decide) (fun c => ?_) (fun c => ?_)
        · replace h := h.1 c
          exact bk_X12_command_113 G hG X hX C Q l1 (I11 0 41) I13 J11 h
        · replace h := h.2 c
          exact bk_X12_command_99 G hG X hX C Q l1 (I11 0 41) I13 J11 h
  · replace h := h.2 c
    exact wz_vret C dX12_command_56 ⟨rfl, h⟩
set_option maxHeartbeats 4000000 in
set_option maxRecDepth 100000 in
theorem bk_X12_command_34 (G : KG) (hG : Kok G) (X : KX) (hX : KR X = rm_X12_command) (C : Fr G X cX12_command 3 yX12_command.cls none wsX12_command) (Q : Ii → Jj → Prop) (l1 : Int) (I : Ii) (J : Jj) (h : B_X12_command_34 Q l1 I J) : Wz G X 3 (QsU G X (QsV Q)) 0 0 34 [some (.ref (kadr G 0)), some (.int (iZ l1)), none] [] I J := by
  unfold B_X12_command_34 at h
  refine wz_aload_n C rfl rfl dX12_command_34 ?_
  refine wz_getI C rfl f_X12_command_446 rfl dX12_command_35 ?_
  refine wz_bipush C (by decide) dX12_command_38 ?_
  obtain ⟨g7, h⟩ := h
  refine wz_icmp_ne C (tgt := 49) g7 (by decide) dX12_command_40 (by decide) (fun c => ?_) (fun c => ?_)
  · replace h := h.1 c
    exact bk_X12_command_49 G hG X hX C Q l1 I J h
  · replace h := h.2 c
    refine wz_aload_n C rfl rfl dX12_command_43 ?_
    refine wz_bipush C (by decide) dX12_command_44 ?_
    refine wm_callV C (o := 0) (As := [.int (iZ 6)]) (st := []) (a' := 0) (b' := 0) rfl rfl (k_X12_wrong G hG 6 I J _ h) 1 gX12_command_X12_wrong rfl (by decide +kernel) (by rw [hX]; exact ⟨Nat.le_of_ble_eq_true rfl, Nat.le_of_ble_eq_true rfl⟩) rfl (Nat.le_of_ble_eq_true rfl) rfl rfl rfl dX12_command_46 (kk_sV (fun I8 J8 h => ?_))
    exact bk_X12_command_49 G hG X hX C Q l1 I8 J8 h
set_option maxHeartbeats 4000000 in
set_option maxRecDepth 100000 in
theorem bk_X12_command_15 (G : KG) (hG : Kok G) (X : KX) (hX : KR X = rm_X12_command) (C : Fr G X cX12_command 3 yX12_command.cls none wsX12_command) (Q : Ii → Jj → Prop) (l1 : Int) (I : Ii) (J : Jj) (h : B_X12_command_15 Q l1 I J) : Wz G X 3 (QsU G X (QsV Q)) 0 0 15 [some (.ref (kadr G 0)), some (.int (iZ l1)), none] [] I J := by
  unfold B_X12_command_15 at h
  refine wz_iload_n C rfl rfl dX12_command_15 ?_
  refine wz_bipush C (by decide) dX12_command_16 ?_
  obtain ⟨g4, h⟩ := h
  refine wz_icmp_ne C (tgt := 34) g4 (by decide) dX12_command_18 (by decide) (fun c => ?_) (fun c => ?_)
  · replace h := h.1 c
    exact bk_X12_command_34 G hG X hX C Q l1 I J h
  · replace h := h.2 c
    refine wz_aload_n C rfl rfl dX12_command_21 ?_
    refine wz_getI C rfl f_X12_command_145 rfl dX12_command_22 ?_
    refine wz_iconst C dX12_command_25 ?_
    obtain ⟨g5, h⟩ := h
    refine wz_icmp_ne C (tgt := 34) g5 (by decide) dX12_command_26 (by decide) (fun c => ?_) (fun c => ?_)
    · replace h := h.1 c
      exact bk_X12_command_34 G hG X hX C Q l1 I J h
    · replace h := h.2 c
      refine wz_aload_n C rfl rfl dX12_command_29 ?_
      refine wz_iconst C dX12_command_30 ?_
      refine wm_callV C (o := 0) (As := [.int (iZ 4)]) (st := []) (a' := 0) (b' := 0) rfl rfl (k_X12_wrong G hG 4 I J _ h) 1 gX12_command_X12_wrong rfl (by decide +kernel) (by rw [hX]; exact ⟨Nat.le_of_ble_eq_true rfl, Nat.le_of_ble_eq_true rfl⟩) rfl (Nat.le_of_ble_eq_true rfl) rfl rfl rfl dX12_command_31 (kk_sV (fun I6 J6 h => ?_))
      exact bk_X12_command_34 G hG X hX C Q l1 I6 J6 h
set_option maxHeartbeats 4000000 in
set_option maxRecDepth 100000 in
theorem k_X12_command (G : KG) (hG : Kok G) (I : Ii) (J : Jj) (Q : Ii → Jj → Prop) (h : wp_X12_command I J Q) : Ctr G yX12_command wsX12_command rm_X12_command [.ref (kadr G 0)] (I, J) (QsV Q) := by
  unfold wp_X12_command at h
  skip
  refine Ctr.ofZ (cc := cX12_command) (nL := 3) (ret := none) [some (.ref (kadr G 0)), none, none] hG (by decide +kernel) rfl (Nat.le_of_ble_eq_true rfl) (Nat.le_of_ble_eq_true rfl) (by simp [lvA, lv_args, Value.category]) ?_
  intro X hX C
  refine wz_aload_n C rfl rfl dX12_command_0 ?_
  refine wm_callV C (o := 0) (As := []) (st := []) (a' := 0) (b' := 0) rfl rfl (k_X12_commandHere G hG I J _ h) 0 gX12_command_X12_commandHere rfl (by decide +kernel) (by rw [hX]; exact ⟨Nat.le_of_ble_eq_true rfl, Nat.le_of_ble_eq_true rfl⟩) rfl (Nat.le_of_ble_eq_true rfl) rfl rfl rfl dX12_command_1 (kk_sI (fun v1 I1 J1 h => ?_))
  refine wz_istore_1 C rfl dX12_command_4 ?_
  refine wz_iload_n C rfl rfl dX12_command_5 ?_
  refine wz_iconst C dX12_command_6 ?_
  obtain ⟨g2, h⟩ := h
  refine wz_icmp_ne C (tgt := 15) g2 (by decide) dX12_command_7 (by decide) (fun c => ?_) (fun c => ?_)
  · replace h := h.1 c
    exact bk_X12_command_15 G hG X hX C Q v1 I1 J1 h
  · replace h := h.2 c
    refine wz_aload_n C rfl rfl dX12_command_10 ?_
    refine wz_iconst C dX12_command_11 ?_
    refine wm_callV C (o := 0) (As := [.int (iZ 1)]) (st := []) (a' := 0) (b' := 0) rfl rfl (k_X12_wrong G hG 1 I1 J1 _ h) 1 gX12_command_X12_wrong rfl (by decide +kernel) (by rw [hX]; exact ⟨Nat.le_of_ble_eq_true rfl, Nat.le_of_ble_eq_true rfl⟩) rfl (Nat.le_of_ble_eq_true rfl) rfl rfl rfl dX12_command_12 (kk_sV (fun I3 J3 h => ?_))
    exact bk_X12_command_15 G hG X hX C Q v1 I3 J3 h
