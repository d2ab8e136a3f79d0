def rm_X12_areThere : Room := { frames := 2, cells := 0, slots := 0, locals := 46 }
set_option maxHeartbeats 4000000 in
set_option maxRecDepth 100000 in
theorem k_X12_areThere (G : KG) (hG : Kok G) (l1 : Int) (l2 : Int) (I : Ii) (J : Jj) (Q : Int → Ii → Jj → Prop) (h : wp_X12_areThere l1 l2 I J Q) : Ctr G yX12_areThere wsX12_areThere rm_X12_areThere [.ref (kadr G 0), .int (iZ l1), .int (iZ l2)] (I, J) (QsB Q) := by
  unfold wp_X12_areThere at h
  skip
  refine Ctr.ofZ (cc := cX12_areThere) (nL := 3) (ret := (some .boolean)) [some (.ref (kadr G 0)), some (.int (iZ l1)), some (.int (iZ l2))] hG (by decide +kernel) rfl (Nat.le_of_ble_eq_true rfl) (Nat.le_of_ble_eq_true rfl) (by simp [lvA, lv_args, Value.category]) ?_
  intro X hX C
  refine wz_aload_n C rfl rfl dX12_areThere_0 ?_
  refine wz_iload_n C rfl rfl dX12_areThere_1 ?_
  refine wm_callV C (o := 0) (As := [.int (iZ l1)]) (st := []) (a' := 0) (b' := 0) rfl rfl (k_X12_isGroup G hG l1 I J _ h) 1 gX12_areThere_X12_isGroup rfl (by decide +kernel) (by rw [hX]; exact ⟨Nat.le_of_ble_eq_true rfl, Nat.le_of_ble_eq_true rfl⟩) rfl (Nat.le_of_ble_eq_true rfl) rfl rfl rfl dX12_areThere_2 (kk_sB (fun v1 I1 J1 hb1 h => ?_))
  refine wz_if_eq C (tgt := 20) (rgB hb1) dX12_areThere_5 (by decide) (fun c => ?_) (fun c => ?_)
  · replace h := h.1 c
    refine wz_iconst C dX12_areThere_20 ?_
    exact wz_zret C (Or.inl rfl) dX12_areThere_21 ⟨_, rfl, (Or.inl rfl), h⟩
  · replace h := h.2 c
    refine wz_aload_n C rfl rfl dX12_areThere_8 ?_
    refine wz_iload_n C rfl rfl dX12_areThere_9 ?_
    refine wm_callV C (o := 0) (As := [.int (iZ l2)]) (st := []) (a' := 0) (b' := 0) rfl rfl (k_X12_isPart G hG l2 I1 J1 _ h) 1 gX12_areThere_X12_isPart rfl (by decide +kernel) (by rw [hX]; exact ⟨Nat.le_of_ble_eq_true rfl, Nat.le_of_ble_eq_true rfl⟩) rfl (Nat.le_of_ble_eq_true rfl) rfl rfl rfl dX12_areThere_10 (kk_sB (fun v2 I2 J2 hb2 h => ?_))
    refine wz_if_eq C (tgt := 20) (rgB hb2) dX12_areThere_13 (by decide) (fun c => ?_) (fun c => ?_)
    · replace h := h.1 c
      refine wz_iconst C dX12_areThere_20 ?_
      exact wz_zret C (Or.inl rfl) dX12_areThere_21 ⟨_, rfl, (Or.inl rfl), h⟩
    · replace h := h.2 c
      refine wz_iconst C dX12_areThere_16 ?_
      refine wz_goto C dX12_areThere_17 (tgt := 21) (by decide) ?_
      exact wz_zret C (Or.inr rfl) dX12_areThere_21 ⟨_, rfl, (Or.inr rfl), h⟩
def rm_X12_gain : Room := { frames := 3, cells := 0, slots := 0, locals := 71 }
set_option maxHeartbeats 4000000 in
set_option maxRecDepth 100000 in
theorem k_X12_gain (G : KG) (hG : Kok G) (l1 : Int) (l2 : Int) (I : Ii) (J : Jj) (Q : Int → Ii → Jj → Prop) (h : wp_X12_gain l1 l2 I J Q) : Ctr G yX12_gain wsX12_gain rm_X12_gain [.ref (kadr G 0), .int (iZ l1), .int (iZ l2)] (I, J) (QsI Q) := by
  unfold wp_X12_gain at h
  skip
  refine Ctr.ofZ (cc := cX12_gain) (nL := 3) (ret := (some .int)) [some (.ref (kadr G 0)), some (.int (iZ l1)), some (.int (iZ l2))] hG (by decide +kernel) rfl (Nat.le_of_ble_eq_true rfl) (Nat.le_of_ble_eq_true rfl) (by simp [lvA, lv_args, Value.category]) ?_
  intro X hX C
  refine wz_aload_n C rfl rfl dX12_gain_0 ?_
  refine wz_aload_n C rfl rfl dX12_gain_1 ?_
  refine wz_iload_n C rfl rfl dX12_gain_2 ?_
  refine wz_iload_n C rfl rfl dX12_gain_3 ?_
  refine wm_callV C (o := 0) (As := [.int (iZ l1), .int (iZ l2)]) (st := [.ref (kadr G 0)]) (a' := 0) (b' := 0) rfl rfl (k_X12_areThere G hG l1 l2 I J _ h) 2 gX12_gain_X12_areThere rfl (by decide +kernel) (by rw [hX]; exact ⟨Nat.le_of_ble_eq_true rfl, Nat.le_of_ble_eq_true rfl⟩) rfl (Nat.le_of_ble_eq_true rfl) rfl rfl rfl dX12_gain_4 (kk_sB (fun v1 I1 J1 hb1 h => ?_))
  refine wm_callV C (o := 0) (As := [.int (iZ v1)]) (st := []) (a' := 0) (b' := 0) rfl rfl (k_X12_goes G hG v1 I1 J1 _ h) 1 gX12_gain_X12_goes rfl (by decide +kernel) (by rw [hX]; exact ⟨Nat.le_of_ble_eq_true rfl, Nat.le_of_ble_eq_true rfl⟩) rfl (Nat.le_of_ble_eq_true rfl) rfl rfl rfl dX12_gain_7 (kk_sB (fun v2 I2 J2 hb2 h => ?_))
  refine wz_if_eq C (tgt := 22) (rgB hb2) dX12_gain_10 (by decide) (fun c => ?_) (fun c => ?_)
  · replace h := h.1 c
    refine wz_iconst C dX12_gain_22 ?_
    exact wz_iret C dX12_gain_23 ⟨_, rfl, h⟩
  · replace h := h.2 c
    refine wz_aload_n C rfl rfl dX12_gain_13 ?_
    refine wz_iload_n C rfl rfl dX12_gain_14 ?_
    refine wz_iload_n C rfl rfl dX12_gain_15 ?_
    refine wm_callV C (o := 0) (As := [.int (iZ l1), .int (iZ l2)]) (st := []) (a' := 0) (b' := 0) rfl rfl (k_X12_gainOf G hG l1 l2 I2 J2 _ h) 2 gX12_gain_X12_gainOf rfl (by decide +kernel) (by rw [hX]; exact ⟨Nat.le_of_ble_eq_true rfl, Nat.le_of_ble_eq_true rfl⟩) rfl (Nat.le_of_ble_eq_true rfl) rfl rfl rfl dX12_gain_16 (kk_sI (fun v3 I3 J3 h => ?_))
    refine wz_goto C dX12_gain_19 (tgt := 23) (by decide) ?_
    exact wz_iret C dX12_gain_23 ⟨_, rfl, h⟩
def rm_X12_whyNotMove : Room := { frames := 5, cells := 0, slots := 0, locals := 109 }
set_option maxHeartbeats 4000000 in
set_option maxRecDepth 100000 in
theorem k_X12_whyNotMove (G : KG) (hG : Kok G) (l1 : Int) (l2 : Int) (I : Ii) (J : Jj) (Q : Int → Ii → Jj → Prop) (h : wp_X12_whyNotMove l1 l2 I J Q) : Ctr G yX12_whyNotMove wsX12_whyNotMove rm_X12_whyNotMove [.ref (kadr G 0), .int (iZ l1), .int (iZ l2)] (I, J) (QsI Q) := by
  unfold wp_X12_whyNotMove at h
  skip
  refine Ctr.ofZ (cc := cX12_whyNotMove) (nL := 3) (ret := (some .int)) [some (.ref (kadr G 0)), some (.int (iZ l1)), some (.int (iZ l2))] hG (by decide +kernel) rfl (Nat.le_of_ble_eq_true rfl) (Nat.le_of_ble_eq_true rfl) (by simp [lvA, lv_args, Value.category]) ?_
  intro X hX C
  refine wz_aload_n C rfl rfl dX12_whyNotMove_0 ?_
  refine wz_aload_n C rfl rfl dX12_whyNotMove_1 ?_
  refine wz_iload_n C rfl rfl dX12_whyNotMove_2 ?_
  refine wz_iload_n C rfl rfl dX12_whyNotMove_3 ?_
  refine wm_callV C (o := 0) (As := [.int (iZ l1), .int (iZ l2)]) (st := [.ref (kadr G 0)]) (a' := 0) (b' := 0) rfl rfl (k_X12_areThere G hG l1 l2 I J _ h) 2 gX12_whyNotMove_X12_areThere rfl (by decide +kernel) (by rw [hX]; exact ⟨Nat.le_of_ble_eq_true rfl, Nat.le_of_ble_eq_true rfl⟩) rfl (Nat.le_of_ble_eq_true rfl) rfl rfl rfl dX12_whyNotMove_4 (kk_sB (fun v1 I1 J1 hb1 h => ?_))
  refine wm_callV C (o := 0) (As := [.int (iZ v1)]) (st := []) (a' := 0) (b' := 0) rfl rfl (k_X12_goes G hG v1 I1 J1 _ h) 1 gX12_whyNotMove_X12_goes rfl (by decide +kernel) (by rw [hX]; exact ⟨Nat.le_of_ble_eq_true rfl, Nat.le_of_ble_eq_true rfl⟩) rfl (Nat.le_of_ble_eq_true rfl) rfl rfl rfl dX12_whyNotMove_7 (kk_sB (fun v2 I2 J2 hb2 h => ?_))
  refine wz_if_eq C (tgt := 22) (rgB hb2) dX12_whyNotMove_10 (by decide) (fun c => ?_) (fun c => ?_)
  · replace h := h.1 c
    refine wz_iconst C dX12_whyNotMove_22 ?_
    exact wz_iret C dX12_whyNotMove_23 ⟨_, rfl, h⟩
  · replace h := h.2 c
    refine wz_aload_n C rfl rfl dX12_whyNotMove_13 ?_
    refine wz_iload_n C rfl rfl dX12_whyNotMove_14 ?_
    refine wz_iload_n C rfl rfl dX12_whyNotMove_15 ?_
    refine wm_callV C (o := 0) (As := [.int (iZ l1), .int (iZ l2)]) (st := []) (a' := 0) (b' := 0) rfl rfl (k_X12_whyMove G hG l1 l2 I2 J2 _ h) 2 gX12_whyNotMove_X12_whyMove rfl (by decide +kernel) (by rw [hX]; exact ⟨Nat.le_of_ble_eq_true rfl, Nat.le_of_ble_eq_true rfl⟩) rfl (Nat.le_of_ble_eq_true rfl) rfl rfl rfl dX12_whyNotMove_16 (kk_sI (fun v3 I3 J3 h => ?_))
    refine wz_goto C dX12_whyNotMove_19 (tgt := 23) (by decide) ?_
    exact wz_iret C dX12_whyNotMove_23 ⟨_, rfl, h⟩
def rm_X12_debtsIf : Room := { frames := 3, cells := 0, slots := 0, locals := 71 }
set_option maxHeartbeats 4000000 in
set_option maxRecDepth 100000 in
theorem k_X12_debtsIf (G : KG) (hG : Kok G) (l1 : Int) (l2 : Int) (I : Ii) (J : Jj) (Q : Int → Ii → Jj → Prop) (h : wp_X12_debtsIf l1 l2 I J Q) : Ctr G yX12_debtsIf wsX12_debtsIf rm_X12_debtsIf [.ref (kadr G 0), .int (iZ l1), .int (iZ l2)] (I, J) (QsI Q) := by
  unfold wp_X12_debtsIf at h
  skip
  refine Ctr.ofZ (cc := cX12_debtsIf) (nL := 3) (ret := (some .int)) [some (.ref (kadr G 0)), some (.int (iZ l1)), some (.int (iZ l2))] hG (by decide +kernel) rfl (Nat.le_of_ble_eq_true rfl) (Nat.le_of_ble_eq_true rfl) (by simp [lvA, lv_args, Value.category]) ?_
  intro X hX C
  refine wz_aload_n C rfl rfl dX12_debtsIf_0 ?_
  refine wz_aload_n C rfl rfl dX12_debtsIf_1 ?_
  refine wz_iload_n C rfl rfl dX12_debtsIf_2 ?_
  refine wz_iload_n C rfl rfl dX12_debtsIf_3 ?_
  refine wm_callV C (o := 0) (As := [.int (iZ l1), .int (iZ l2)]) (st := [.ref (kadr G 0)]) (a' := 0) (b' := 0) rfl rfl (k_X12_areThere G hG l1 l2 I J _ h) 2 gX12_debtsIf_X12_areThere rfl (by decide +kernel) (by rw [hX]; exact ⟨Nat.le_of_ble_eq_true rfl, Nat.le_of_ble_eq_true rfl⟩) rfl (Nat.le_of_ble_eq_true rfl) rfl rfl rfl dX12_debtsIf_4 (kk_sB (fun v1 I1 J1 hb1 h => ?_))
  refine wm_callV C (o := 0) (As := [.int (iZ v1)]) (st := []) (a' := 0) (b' := 0) rfl rfl (k_X12_goes G hG v1 I1 J1 _ h) 1 gX12_debtsIf_X12_goes rfl (by decide +kernel) (by rw [hX]; exact ⟨Nat.le_of_ble_eq_true rfl, Nat.le_of_ble_eq_true rfl⟩) rfl (Nat.le_of_ble_eq_true rfl) rfl rfl rfl dX12_debtsIf_7 (kk_sB (fun v2 I2 J2 hb2 h => ?_))
  refine wz_if_eq C (tgt := 22) (rgB hb2) dX12_debtsIf_10 (by decide) (fun c => ?_) (fun c => ?_)
  · replace h := h.1 c
    refine wz_iconst C dX12_debtsIf_22 ?_
    exact wz_iret C dX12_debtsIf_23 ⟨_, rfl, h⟩
  · replace h := h.2 c
    refine wz_aload_n C rfl rfl dX12_debtsIf_13 ?_
    refine wz_iload_n C rfl rfl dX12_debtsIf_14 ?_
    refine wz_iload_n C rfl rfl dX12_debtsIf_15 ?_
    refine wm_callV C (o := 0) (As := [.int (iZ l1), .int (iZ l2)]) (st := []) (a' := 0) (b' := 0) rfl rfl (k_X12_debtsWith G hG l1 l2 I2 J2 _ h) 2 gX12_debtsIf_X12_debtsWith rfl (by decide +kernel) (by rw [hX]; exact ⟨Nat.le_of_ble_eq_true rfl, Nat.le_of_ble_eq_true rfl⟩) rfl (Nat.le_of_ble_eq_true rfl) rfl rfl rfl dX12_debtsIf_16 (kk_sI (fun v3 I3 J3 h => ?_))
    refine wz_goto C dX12_debtsIf_19 (tgt := 23) (by decide) ?_
    exact wz_iret C dX12_debtsIf_23 ⟨_, rfl, h⟩
theorem in_X12_bestMove_X12 : ∀ w ∈ wsX120, w ∈ wsX12_bestMove := by decide +kernel
theorem f_X12_bestMove_26 : FLk wsX12_bestMove RX12 26 12 15 := flk 12 15 rfl tyX12_ok nmX12 in_X12_bestMove_X12 (by decide) (by decide +kernel)
def rm_X12_bestMove : Room := { frames := 5, cells := 0, slots := 0, locals := 109 }
set_option maxHeartbeats 4000000 in
set_option maxRecDepth 100000 in
theorem bk_X12_bestMove_119 (G : KG) (hG : Kok G) (X : KX) (hX : KR X = rm_X12_bestMove) (C : Fr G X cX12_bestMove 10 yX12_bestMove.cls (some .int) wsX12_bestMove) (l1 : Int) (Q : Int → Ii → Jj → Prop) (r16 : Int → Int → Int → Int → Int → Ii → Jj → Prop) (w16 : ∀ (l2 : Int) (l3 : Int) (l4 : Int) (l5 : Int) (l6 : Int) (I : Ii) (J : Jj), r16 l2 l3 l4 l5 l6 I J → Wz G X 10 (QsU G X (QsI Q)) 0 0 16 [some (.ref (kadr G 0)), some (.int (iZ l1)), some (.int (iZ l2)), some (.int (iZ l3)), some (.int (iZ l4)), some (.int (iZ l5)), some (.int (iZ l6)), none, none, none] [] I J) (r28 : Int → Int → Int → Int → Int → Int → Ii → Jj → Prop) (w28 : ∀ (l2 : Int) (l3 : Int) (l4 : Int) (l5 : Int) (l6 : Int) (l7 : Int) (I : Ii) (J : Jj), r28 l2 l3 l4 l5 l6 l7 I J → Wz G X 10 (QsU G X (QsI Q)) 0 0 28 [some (.ref (kadr G 0)), some (.int (iZ l1)), some (.int (iZ l2)), some (.int (iZ l3)), some (.int (iZ l4)), some (.int (iZ l5)), some (.int (iZ l6)), some (.int (iZ l7)), none, none] [] I J) (l5 : Int) (l6 : Int) (l7 : Int) (l8 : Int) (l9 : Int) (I : Ii) (J : Jj) (h : B_X12_bestMove_119 l1 Q r16 r28 l5 l6 l7 l8 l9 I J) : Wz G X 10 (QsU G X (QsI Q)) 0 0 119 [some (.ref (kadr G 0)), some (.int (iZ l1)), none, none, none, some (.int (iZ l5)), some (.int (iZ l6)), some (.int (iZ l7)), some (.int (iZ l8)), some (.int (iZ l9))] [] I J := by
  unfold B_X12_bestMove_119 at h
  refine wz_bipush C (by decide) dX12_bestMove_119 ?_
  refine wz_iload C rfl dX12_bestMove_121 ?_
  refine wz_imul C dX12_bestMove_123 ?_
  refine wz_iload C rfl dX12_bestMove_124 ?_
  refine wz_iadd C dX12_bestMove_126 ?_
  refine wz_istore_2 C rfl dX12_bestMove_127 ?_
  refine wz_iload C rfl dX12_bestMove_128 ?_
  refine wz_istore_3 C rfl dX12_bestMove_130 ?_
  refine wz_iload C rfl dX12_bestMove_131 ?_
  refine wz_istore_4 C rfl dX12_bestMove_133 ?_
  refine wz_iinc_7 C rfl dX12_bestMove_135 ?_
  refine wz_goto C dX12_bestMove_138 (tgt := 28) (by decide) ?_
  exact Wz.drop (w28 ((10 * l6) + l7) l8 l9 l5 l6 (l7 + 1) I J h) (And.intro rfl (And.intro rfl (And.intro rfl (And.intro rfl (And.intro rfl (And.intro rfl (And.intro rfl (And.intro rfl trivial))))))))
set_option maxHeartbeats 4000000 in
set_option maxRecDepth 100000 in
theorem bk_X12_bestMove_92 (G : KG) (hG : Kok G) (X : KX) (hX : KR X = rm_X12_bestMove) (C : Fr G X cX12_bestMove 10 yX12_bestMove.cls (some .int) wsX12_bestMove) (l1 : Int) (Q : Int → Ii → Jj → Prop) (r16 : Int → Int → Int → Int → Int → Ii → Jj → Prop) (w16 : ∀ (l2 : Int) (l3 : Int) (l4 : Int) (l5 : Int) (l6 : Int) (I : Ii) (J : Jj), r16 l2 l3 l4 l5 l6 I J → Wz G X 10 (QsU G X (QsI Q)) 0 0 16 [some (.ref (kadr G 0)), some (.int (iZ l1)), some (.int (iZ l2)), some (.int (iZ l3)), some (.int (iZ l4)), some (.int (iZ l5)), some (.int (iZ l6)), none, none, none] [] I J) (r28 : Int → Int → Int → Int → Int → Int → Ii → Jj → Prop) (w28 : ∀ (l2 : Int) (l3 : Int) (l4 : Int) (l5 : Int) (l6 : Int) (l7 : Int) (I : Ii) (J : Jj), r28 l2 l3 l4 l5 l6 l7 I J → Wz G X 10 (QsU G X (QsI Q)) 0 0 28 [some (.ref (kadr G 0)), some (.int (iZ l1)), some (.int (iZ l2)), some (.int (iZ l3)), some (.int (iZ l4)), some (.int (iZ l5)), some (.int (iZ l6)), some (.int (iZ l7)), none, none] [] I J) (l2 : Int) (l3 : Int) (l4 : Int) (l5 : Int) (l6 : Int) (l7 : Int) (l8 : Int) (l9 : Int) (I : Ii) (J : Jj) (h : B_X12_bestMove_92 l1 Q r16 r28 l2 l3 l4 l5 l6 l7 l8 l9 I J) : Wz G X 10 (QsU G X (QsI Q)) 0 0 92 [some (.ref (kadr G 0)), some (.int (iZ l1)), some (.int (iZ l2)), some (.int (iZ l3)), some (.int (iZ l4)), some (.int (iZ l5)), some (.int (iZ l6)), some (.int (iZ l7)), some (.int (iZ l8)), some (.int (iZ l9))] [] I J := by
  unfold B_X12_bestMove_92 at h
  refine wz_iload_n C rfl rfl dX12_bestMove_92 ?_
  refine wz_iconst C dX12_bestMove_93 ?_
  obtain ⟨g15, h⟩ := h
  refine wz_icmp_eq C (tgt := 119) g15 (by decide) dX12_bestMove_94 (by decide) (fun c => ?_) (fun c => ?_)
  · replace h := h.1 c
    exact Wz.drop (bk_X12_bestMove_119 G hG X hX C l1 Q r16 w16 r28 w28 l5 l6 l7 l8 l9 I J h) (And.intro rfl (And.intro rfl (And.intro rfl (And.intro rfl (And.intro rfl (And.intro rfl (And.intro rfl trivial)))))))
  · replace h := h.2 c
    refine wz_iload C rfl dX12_bestMove_97 ?_
    refine wz_iload_n C rfl rfl dX12_bestMove_99 ?_
    obtain ⟨g16, h⟩ := h
    obtain ⟨g17, h⟩ := h
    refine wz_icmp_lt C (tgt := 135) g16 g17 dX12_bestMove_100 (by decide) (fun c => ?_) (fun c => ?_)
    · replace h := h.1 c
      refine wz_iinc_7 C rfl dX12_bestMove_135 ?_
      refine wz_goto C dX12_bestMove_138 (tgt := 28) (by decide) ?_
      exact Wz.drop (w28 l2 l3 l4 l5 l6 (l7 + 1) I J h) (And.intro rfl (And.intro rfl (And.intro rfl (And.intro rfl (And.intro rfl (And.intro rfl (And.intro rfl (And.intro rfl trivial))))))))
    · replace h := h.2 c
      refine wz_iload C rfl dX12_bestMove_103 ?_
      refine wz_iload_n C rfl rfl dX12_bestMove_105 ?_
      refine wz_icmp_ne C (tgt := 119) g16 g17 dX12_bestMove_106 (by decide) (fun c => ?_) (fun c => ?_)
      · replace h := h.1 c
        exact Wz.drop (bk_X12_bestMove_119 G hG X hX C l1 Q r16 w16 r28 w28 l5 l6 l7 l8 l9 I J h) (And.intro rfl (And.intro rfl (And.intro rfl (And.intro rfl (And.intro rfl (And.intro rfl (And.intro rfl trivial)))))))
      · replace h := h.2 c
        refine wz_iload C rfl dX12_bestMove_109 ?_
        refine wz_iload C rfl dX12_bestMove_111 ?_
        obtain ⟨g18, h⟩ := h
        obtain ⟨g19, h⟩ := h
        refine wz_icmp_lt C (tgt := 119) g18 g19 dX12_bestMove_113 (by decide) (fun c => ?_) (fun c => ?_)
        · replace h := h.1 c
          exact Wz.drop (bk_X12_bestMove_119 G hG X hX C l1 Q r16 w16 r28 w28 l5 l6 l7 l8 l9 I J h) (And.intro rfl (And.intro rfl (And.intro rfl (And.intro rfl (And.intro rfl (And.intro rfl (And.intro rfl trivial)))))))
        · replace h := h.2 c
          refine wz_goto C dX12_bestMove_116 (tgt := 135) (by decide) ?_
          refine wz_iinc_7 C rfl dX12_bestMove_135 ?_
          refine wz_goto C dX12_bestMove_138 (tgt := 28) (by decide) ?_
          exact Wz.drop (w28 l2 l3 l4 l5 l6 (l7 + 1) I J h) (And.intro rfl (And.intro rfl (And.intro rfl (And.intro rfl (And.intro rfl (And.intro rfl (And.intro rfl (And.intro rfl trivial))))))))
set_option maxHeartbeats 4000000 in
set_option maxRecDepth 100000 in
theorem lk_X12_bestMove_28 (G : KG) (hG : Kok G) (X : KX) (hX : KR X = rm_X12_bestMove) (C : Fr G X cX12_bestMove 10 yX12_bestMove.cls (some .int) wsX12_bestMove) (l1 : Int) (Q : Int → Ii → Jj → Prop) (r16 : Int → Int → Int → Int → Int → Ii → Jj → Prop) (w16 : ∀ (l2 : Int) (l3 : Int) (l4 : Int) (l5 : Int) (l6 : Int) (I : Ii) (J : Jj), r16 l2 l3 l4 l5 l6 I J → Wz G X 10 (QsU G X (QsI Q)) 0 0 16 [some (.ref (kadr G 0)), some (.int (iZ l1)), some (.int (iZ l2)), some (.int (iZ l3)), some (.int (iZ l4)), some (.int (iZ l5)), some (.int (iZ l6)), none, none, none] [] I J) : ∀ (n : Nat) (l2 : Int) (l3 : Int) (l4 : Int) (l5 : Int) (l6 : Int) (l7 : Int) (I : Ii) (J : Jj), L_X12_bestMove_28 l1 Q r16 n l2 l3 l4 l5 l6 l7 I J → Wz G X 10 (QsU G X (QsI Q)) 0 0 28 [some (.ref (kadr G 0)), some (.int (iZ l1)), some (.int (iZ l2)), some (.int (iZ l3)), some (.int (iZ l4)), some (.int (iZ l5)), some (.int (iZ l6)), some (.int (iZ l7)), none, none] [] I J := by
  intro n
  induction n with
  | zero => intro l2 l3 l4 l5 l6 l7 I J h; exact False.elim h
  | succ n w28 =>
    intro l2 l3 l4 l5 l6 l7 I J h
    have h : Lb_X12_bestMove_28 l1 Q r16 (L_X12_bestMove_28 l1 Q r16 n) l2 l3 l4 l5 l6 l7 I J := h
    unfold Lb_X12_bestMove_28 at h
    generalize L_X12_bestMove_28 l1 Q r16 n = r28 at h w28
    refine wz_iload C rfl dX12_bestMove_28 ?_
    refine wz_aload_n C rfl rfl dX12_bestMove_30 ?_
    refine wz_getR C (j := 2) f_X12_bestMove_26 rfl dX12_bestMove_31 ?_
    refine wz_iconst C dX12_bestMove_34 ?_
    refine wz_iaload C 2 (n := 350) rfl rfl (by decide) (by decide) rfl dX12_bestMove_35 ?_
    obtain ⟨g5, h⟩ := h
    obtain ⟨g6, h⟩ := h
    refine wz_icmp_ge C (tgt := 141) g5 g6 dX12_bestMove_36 (by decide) (fun c => ?_) (fun c => ?_)
    · replace h := h.1 c
      refine wz_iinc_6 C rfl dX12_bestMove_141 ?_
      refine wz_goto C dX12_bestMove_144 (tgt := 16) (by decide) ?_
      exact Wz.drop (w16 l2 l3 l4 l5 (l6 + 1) I J h) (And.intro rfl (And.intro rfl (And.intro rfl (And.intro rfl (And.intro rfl (And.intro rfl (And.intro rfl trivial)))))))
    · replace h := h.2 c
      refine wz_aload_n C rfl rfl dX12_bestMove_39 ?_
      refine wz_iload C rfl dX12_bestMove_40 ?_
      refine wz_iload C rfl dX12_bestMove_42 ?_
      refine wm_callV C (o := 0) (As := [.int (iZ l6), .int (iZ l7)]) (st := []) (a' := 0) (b' := 0) rfl rfl (k_X12_gainOf G hG l6 l7 I J _ h) 2 gX12_bestMove_X12_gainOf rfl (by decide +kernel) (by rw [hX]; exact ⟨Nat.le_of_ble_eq_true rfl, Nat.le_of_ble_eq_true rfl⟩) rfl (Nat.le_of_ble_eq_true rfl) rfl rfl rfl dX12_bestMove_44 (kk_sI (fun v7 I7 J7 h => ?_))
      refine wz_istore_8 C rfl dX12_bestMove_47 ?_
      refine wz_aload_n C rfl rfl dX12_bestMove_49 ?_
      refine wz_iload C rfl dX12_bestMove_50 ?_
      refine wz_iload C rfl dX12_bestMove_52 ?_
      refine wm_callV C (o := 0) (As := [.int (iZ l6), .int (iZ l7)]) (st := []) (a' := 0) (b' := 0) rfl rfl (k_X12_debtsWith G hG l6 l7 I7 J7 _ h) 2 gX12_bestMove_X12_debtsWith rfl (by decide +kernel) (by rw [hX]; exact ⟨Nat.le_of_ble_eq_true rfl, Nat.le_of_ble_eq_true rfl⟩) rfl (Nat.le_of_ble_eq_true rfl) rfl rfl rfl dX12_bestMove_54 (kk_sI (fun v8 I8 J8 h => ?_))
      refine wz_istore_9 C rfl dX12_bestMove_57 ?_
      refine wz_aload_n C rfl rfl dX12_bestMove_59 ?_
      refine wz_iload C rfl dX12_bestMove_60 ?_
      refine wz_iload C rfl dX12_bestMove_62 ?_
      refine wm_callV C (o := 0) (As := [.int (iZ l6), .int (iZ l7)]) (st := []) (a' := 0) (b' := 0) rfl rfl (k_X12_whyMove G hG l6 l7 I8 J8 _ h) 2 gX12_bestMove_X12_whyMove rfl (by decide +kernel) (by rw [hX]; exact ⟨Nat.le_of_ble_eq_true rfl, Nat.le_of_ble_eq_true rfl⟩) rfl (Nat.le_of_ble_eq_true rfl) rfl rfl rfl dX12_bestMove_64 (kk_sI (fun v9 I9 J9 h => ?_))
      obtain ⟨g10, h⟩ := h
      refine wz_if_gt C (tgt := 135) g10 dX12_bestMove_67 (by decide) (fun c => ?_) (fun c => ?_)
      · replace h := h.1 c
        refine wz_iinc_7 C rfl dX12_bestMove_135 ?_
        refine wz_goto C dX12_bestMove_138 (tgt := 28) (by decide) ?_
        exact Wz.drop (w28 l2 l3 l4 l5 l6 (l7 + 1) I9 J9 h) (And.intro rfl (And.intro rfl (And.intro rfl (And.intro rfl (And.intro rfl (And.intro rfl (And.intro rfl (And.intro rfl trivial))))))))
      · replace h := h.2 c
        refine wz_iload_n C rfl rfl dX12_bestMove_70 ?_
        obtain ⟨g11, h⟩ := h
        refine wz_if_eq C (tgt := 84) g11 dX12_bestMove_71 (by decide) (fun c => ?_) (fun c => ?_)
        · replace h := h.1 c
          refine wz_iload C rfl dX12_bestMove_84 ?_
          obtain ⟨g12, h⟩ := h
          refine wz_if_gt C (tgt := 92) g12 dX12_bestMove_86 (by decide) (fun c => ?_) (fun c => ?_)
          · replace h := h.1 c
            exact bk_X12_bestMove_92 G hG X hX C l1 Q r16 w16 r28 w28 l2 l3 l4 l5 l6 l7 v7 v8 I9 J9 h
          · replace h := h.2 c
            refine wz_goto C dX12_bestMove_89 (tgt := 135) (by decide) ?_
            refine wz_iinc_7 C rfl dX12_bestMove_135 ?_
            refine wz_goto C dX12_bestMove_138 (tgt := 28) (by decide) ?_
            exact Wz.drop (w28 l2 l3 l4 l5 l6 (l7 + 1) I9 J9 h) (And.intro rfl (And.intro rfl (And.intro rfl (And.intro rfl (And.intro rfl (And.intro rfl (And.intro rfl (And.intro rfl trivial))))))))
        · replace h := h.2 c
          refine wz_iload C rfl dX12_bestMove_74 ?_
          refine wz_iload C rfl dX12_bestMove_76 ?_
          obtain ⟨g13, h⟩ := h
          obtain ⟨g14, h⟩ := h
          refine wz_icmp_lt C (tgt := 92) g13 g14 dX12_bestMove_78 (by decide) (fun c => ?_) (fun c => ?_)
          · replace h := h.1 c
            exact bk_X12_bestMove_92 G hG X hX C l1 Q r16 w16 r28 w28 l2 l3 l4 l5 l6 l7 v7 v8 I9 J9 h
          · replace h := h.2 c
            refine wz_goto C dX12_bestMove_81 (tgt := 135) (by decide) ?_
            refine wz_iinc_7 C rfl dX12_bestMove_135 ?_
            refine wz_goto C dX12_bestMove_138 (tgt := 28) (by decide) ?_
            exact Wz.drop (w28 l2 l3 l4 l5 l6 (l7 + 1) I9 J9 h) (And.intro rfl (And.intro rfl (And.intro rfl (And.intro rfl (And.intro rfl (And.intro rfl (And.intro rfl (And.intro rfl trivial))))))))
set_option maxHeartbeats 4000000 in
set_option maxRecDepth 100000 in
theorem lk_X12_bestMove_16 (G : KG) (hG : Kok G) (X : KX) (hX : KR X = rm_X12_bestMove) (C : Fr G X cX12_bestMove 10 yX12_bestMove.cls (some .int) wsX12_bestMove) (l1 : Int) (Q : Int → Ii → Jj → Prop) : ∀ (n : Nat) (l2 : Int) (l3 : Int) (l4 : Int) (l5 : Int) (l6 : Int) (I : Ii) (J : Jj), L_X12_bestMove_16 l1 Q n l2 l3 l4 l5 l6 I J → Wz G X 10 (QsU G X (QsI Q)) 0 0 16 [some (.ref (kadr G 0)), some (.int (iZ l1)), some (.int (iZ l2)), some (.int (iZ l3)), some (.int (iZ l4)), some (.int (iZ l5)), some (.int (iZ l6)), none, none, none] [] I J := by
  intro n
  induction n with
  | zero => intro l2 l3 l4 l5 l6 I J h; exact False.elim h
  | succ n w16 =>
    intro l2 l3 l4 l5 l6 I J h
    have h : Lb_X12_bestMove_16 l1 Q (L_X12_bestMove_16 l1 Q n) l2 l3 l4 l5 l6 I J := h
    unfold Lb_X12_bestMove_16 at h
    generalize L_X12_bestMove_16 l1 Q n = r16 at h w16
    refine wz_iload C rfl dX12_bestMove_16 ?_
    refine wz_aload_n C rfl rfl dX12_bestMove_18 ?_
    refine wm_callV C (o := 0) (As := []) (st := [.int (iZ l6)]) (a' := 0) (b' := 0) rfl rfl (k_X12_groups G hG I J _ h) 0 gX12_bestMove_X12_groups rfl (by decide +kernel) (by rw [hX]; exact ⟨Nat.le_of_ble_eq_true rfl, Nat.le_of_ble_eq_true rfl⟩) rfl (Nat.le_of_ble_eq_true rfl) rfl rfl rfl dX12_bestMove_19 (kk_sI (fun v2 I2 J2 h => ?_))
    obtain ⟨g3, h⟩ := h
    obtain ⟨g4, h⟩ := h
    refine wz_icmp_ge C (tgt := 147) g3 g4 dX12_bestMove_22 (by decide) (fun c => ?_) (fun c => ?_)
    · replace h := h.1 c
      refine wz_iload_n C rfl rfl dX12_bestMove_147 ?_
      exact wz_iret C dX12_bestMove_148 ⟨_, rfl, h⟩
    · replace h := h.2 c
      refine wz_iconst C dX12_bestMove_25 ?_
      refine wz_istore_7 C rfl dX12_bestMove_26 ?_
      obtain ⟨n, h⟩ := h
      exact lk_X12_bestMove_28 G hG X hX C l1 Q r16 w16 n l2 l3 l4 l5 l6 0 I2 J2 h
set_option maxHeartbeats 4000000 in
set_option maxRecDepth 100000 in
theorem k_X12_bestMove (G : KG) (hG : Kok G) (l1 : Int) (I : Ii) (J : Jj) (Q : Int → Ii → Jj → Prop) (h : wp_X12_bestMove l1 I J Q) : Ctr G yX12_bestMove wsX12_bestMove rm_X12_bestMove [.ref (kadr G 0), .int (iZ l1)] (I, J) (QsI Q) := by
  unfold wp_X12_bestMove at h
  skip
  refine Ctr.ofZ (cc := cX12_bestMove) (nL := 10) (ret := (some .int)) [some (.ref (kadr G 0)), some (.int (iZ l1)), none, none, none, none, none, none, none, none] hG (by decide +kernel) rfl (Nat.le_of_ble_eq_true rfl) (Nat.le_of_ble_eq_true rfl) (by simp [lvA, lv_args, Value.category]) ?_
  intro X hX C
  refine wz_iconst C dX12_bestMove_0 ?_
  refine wz_istore_2 C rfl dX12_bestMove_1 ?_
  refine wz_iconst C dX12_bestMove_2 ?_
  refine wz_istore_3 C rfl dX12_bestMove_3 ?_
  refine wz_iconst C dX12_bestMove_4 ?_
  refine wz_istore_4 C rfl dX12_bestMove_5 ?_
  refine wz_aload_n C rfl rfl dX12_bestMove_7 ?_
  refine wm_callV C (o := 0) (As := []) (st := []) (a' := 0) (b' := 0) rfl rfl (k_X12_debtsNow G hG I J _ h) 0 gX12_bestMove_X12_debtsNow rfl (by decide +kernel) (by rw [hX]; exact ⟨Nat.le_of_ble_eq_true rfl, Nat.le_of_ble_eq_true rfl⟩) rfl (Nat.le_of_ble_eq_true rfl) rfl rfl rfl dX12_bestMove_8 (kk_sI (fun v1 I1 J1 h => ?_))
  refine wz_istore_5 C rfl dX12_bestMove_11 ?_
  refine wz_iconst C dX12_bestMove_13 ?_
  refine wz_istore_6 C rfl dX12_bestMove_14 ?_
  obtain ⟨n, h⟩ := h
  exact lk_X12_bestMove_16 G hG X hX C l1 Q n (-1) 0 0 v1 0 I1 J1 h
def rm_X12_nextNow : Room := { frames := 6, cells := 0, slots := 0, locals := 138 }
set_option maxHeartbeats 4000000 in
set_option maxRecDepth 100000 in
theorem bk_X12_nextNow_16 (G : KG) (hG : Kok G) (X : KX) (hX : KR X = rm_X12_nextNow) (C : Fr G X cX12_nextNow 2 yX12_nextNow.cls (some .int) wsX12_nextNow) (Q : Int → Ii → Jj → Prop) (t0 : Int) (I : Ii) (J : Jj) (h : B_X12_nextNow_16 Q t0 I J) : Wz G X 2 (QsU G X (QsI Q)) 0 0 16 [some (.ref (kadr G 0)), none] [.int (iZ t0)] I J := by
  unfold B_X12_nextNow_16 at h
  refine wz_istore_1 C rfl dX12_nextNow_16 ?_
  refine wz_iload_n C rfl rfl dX12_nextNow_17 ?_
  refine wz_iconst C dX12_nextNow_18 ?_
  obtain ⟨g4, h⟩ := h
  refine wz_icmp_ne C (tgt := 30) g4 (by decide) dX12_nextNow_19 (by decide) (fun c => ?_) (fun c => ?_)
  · replace h := h.1 c
    refine wz_iload_n C rfl rfl dX12_nextNow_30 ?_
    exact wz_iret C dX12_nextNow_31 ⟨_, rfl, h⟩
  · replace h := h.2 c
    refine wz_aload_n C rfl rfl dX12_nextNow_22 ?_
    refine wz_iconst C dX12_nextNow_23 ?_
    refine wm_callV C (o := 0) (As := [.int (iZ 0)]) (st := []) (a' := 0) (b' := 0) rfl rfl (k_X12_bestMove G hG 0 I J _ h) 1 gX12_nextNow_X12_bestMove rfl (by decide +kernel) (by rw [hX]; exact ⟨Nat.le_of_ble_eq_true rfl, Nat.le_of_ble_eq_true rfl⟩) rfl (Nat.le_of_ble_eq_true rfl) rfl rfl rfl dX12_nextNow_24 (kk_sI (fun v5 I5 J5 h => ?_))
    refine wz_goto C dX12_nextNow_27 (tgt := 31) (by decide) ?_
    exact wz_iret C dX12_nextNow_31 ⟨_, rfl, h⟩
set_option maxHeartbeats 4000000 in
set_option maxRecDepth 100000 in
theorem k_X12_nextNow (G : KG) (hG : Kok G) (I : Ii) (J : Jj) (Q : Int → Ii → Jj → Prop) (h : wp_X12_nextNow I J Q) : Ctr G yX12_nextNow wsX12_nextNow rm_X12_nextNow [.ref (kadr G 0)] (I, J) (QsI Q) := by
  unfold wp_X12_nextNow at h
  skip
  refine Ctr.ofZ (cc := cX12_nextNow) (nL := 2) (ret := (some .int)) [some (.ref (kadr G 0)), none] hG (by decide +kernel) rfl (Nat.le_of_ble_eq_true rfl) (Nat.le_of_ble_eq_true rfl) (by simp [lvA, lv_args, Value.category]) ?_
  intro X hX C
  refine wz_aload_n C rfl rfl dX12_nextNow_0 ?_
  refine wm_callV C (o := 0) (As := []) (st := []) (a' := 0) (b' := 0) rfl rfl (k_X12_debtsNow G hG I J _ h) 0 gX12_nextNow_X12_debtsNow rfl (by decide +kernel) (by rw [hX]; exact ⟨Nat.le_of_ble_eq_true rfl, Nat.le_of_ble_eq_true rfl⟩) rfl (Nat.le_of_ble_eq_true rfl) rfl rfl rfl dX12_nextNow_1 (kk_sI (fun v1 I1 J1 h => ?_))
  obtain ⟨g2, h⟩ := h
  refine wz_if_le C (tgt := 15) g2 dX12_nextNow_4 (by decide) (fun c => ?_) (fun c => ?_)
  · replace h := h.1 c
    refine wz_iconst C dX12_nextNow_15 ?_
    exact bk_X12_nextNow_16 G hG X hX C Q (-1) I1 J1 h
  · replace h := h.2 c
    refine wz_aload_n C rfl rfl dX12_nextNow_7 ?_
    refine wz_iconst C dX12_nextNow_8 ?_
    refine wm_callV C (o := 0) (As := [.int (iZ 1)]) (st := []) (a' := 0) (b' := 0) rfl rfl (k_X12_bestMove G hG 1 I1 J1 _ h) 1 gX12_nextNow_X12_bestMove rfl (by decide +kernel) (by rw [hX]; exact ⟨Nat.le_of_ble_eq_true rfl, Nat.le_of_ble_eq_true rfl⟩) rfl (Nat.le_of_ble_eq_true rfl) rfl rfl rfl dX12_nextNow_9 (kk_sI (fun v3 I3 J3 h => ?_))
    refine wz_goto C dX12_nextNow_12 (tgt := 16) (by decide) ?_
    exact bk_X12_nextNow_16 G hG X hX C Q v3 I3 J3 h
theorem in_X12_nextStep_X12 : ∀ w ∈ wsX120, w ∈ wsX12_nextStep := by decide +kernel
theorem f_X12_nextStep_90 : FLk wsX12_nextStep RX12 90 12 0 := flk 12 0 rfl tyX12_ok nmX12 in_X12_nextStep_X12 (by decide) (by decide +kernel)
def rm_X12_nextStep : Room := { frames := 7, cells := 0, slots := 0, locals := 159 }
set_option maxHeartbeats 4000000 in
set_option maxRecDepth 100000 in
theorem k_X12_nextStep (G : KG) (hG : Kok G) (I : Ii) (J : Jj) (Q : Int → Ii → Jj → Prop) (h : wp_X12_nextStep I J Q) : Ctr G yX12_nextStep wsX12_nextStep rm_X12_nextStep [.ref (kadr G 0)] (I, J) (QsI Q) := by
  unfold wp_X12_nextStep at h
  skip
  refine Ctr.ofZ (cc := cX12_nextStep) (nL := 1) (ret := (some .int)) [some (.ref (kadr G 0))] hG (by decide +kernel) rfl (Nat.le_of_ble_eq_true rfl) (Nat.le_of_ble_eq_true rfl) (by simp [lvA, lv_args, Value.category]) ?_
  intro X hX C
  refine wz_aload_n C rfl rfl dX12_nextStep_0 ?_
  refine wz_iconst C dX12_nextStep_1 ?_
  refine wd_putI C f_X12_nextStep_90 fp_X12_0 rfl dX12_nextStep_2 (fun I1 e => ?_)
  replace h := h I1 e
  refine wz_aload_n C rfl rfl dX12_nextStep_5 ?_
  refine wm_callV C (o := 0) (As := []) (st := []) (a' := 0) (b' := 0) rfl rfl (k_X12_nextNow G hG I1 J _ h) 0 gX12_nextStep_X12_nextNow rfl (by decide +kernel) (by rw [hX]; exact ⟨Nat.le_of_ble_eq_true rfl, Nat.le_of_ble_eq_true rfl⟩) rfl (Nat.le_of_ble_eq_true rfl) rfl rfl rfl dX12_nextStep_6 (kk_sI (fun v2 I2 J2 h => ?_))
  exact wz_iret C dX12_nextStep_9 ⟨_, rfl, h⟩
theorem in_X12_looksAt_X12 : ∀ w ∈ wsX120, w ∈ wsX12_looksAt := by decide +kernel
theorem f_X12_looksAt_66 : FLk wsX12_looksAt RX12 66 12 33 := flk 12 33 rfl tyX12_ok nmX12 in_X12_looksAt_X12 (by decide) (by decide +kernel)
theorem f_X12_looksAt_60 : FLk wsX12_looksAt RX12 60 12 31 := flk 12 31 rfl tyX12_ok nmX12 in_X12_looksAt_X12 (by decide) (by decide +kernel)
theorem f_X12_looksAt_26 : FLk wsX12_looksAt RX12 26 12 15 := flk 12 15 rfl tyX12_ok nmX12 in_X12_looksAt_X12 (by decide) (by decide +kernel)
theorem f_X12_looksAt_57 : FLk wsX12_looksAt RX12 57 12 30 := flk 12 30 rfl tyX12_ok nmX12 in_X12_looksAt_X12 (by decide) (by decide +kernel)
theorem f_X12_looksAt_367 : FLk wsX12_looksAt RX12 367 12 34 := flk 12 34 rfl tyX12_ok nmX12 in_X12_looksAt_X12 (by decide) (by decide +kernel)
theorem f_X12_looksAt_370 : FLk wsX12_looksAt RX12 370 12 35 := flk 12 35 rfl tyX12_ok nmX12 in_X12_looksAt_X12 (by decide) (by decide +kernel)
theorem fp_X12_34 : FPk 12 34 .int := fun C9 T9 N9 h => by
  have h : some (RX12, TX12, 48) = some (C9, T9, N9) := h
  cases h
  exact ⟨rfl, by decide +kernel⟩
theorem fp_X12_35 : FPk 12 35 .int := fun C9 T9 N9 h => by
  have h : some (RX12, TX12, 48) = some (C9, T9, N9) := h
  cases h
  exact ⟨rfl, by decide +kernel⟩
theorem f_X12_looksAt_54 : FLk wsX12_looksAt RX12 54 12 29 := flk 12 29 rfl tyX12_ok nmX12 in_X12_looksAt_X12 (by decide) (by decide +kernel)
theorem f_X12_looksAt_63 : FLk wsX12_looksAt RX12 63 12 32 := flk 12 32 rfl tyX12_ok nmX12 in_X12_looksAt_X12 (by decide) (by decide +kernel)
def rm_X12_looksAt : Room := { frames := 2, cells := 0, slots := 0, locals := 42 }
set_option maxHeartbeats 4000000 in
set_option maxRecDepth 100000 in
theorem lk_X12_looksAt_175 (G : KG) (hG : Kok G) (X : KX) (hX : KR X = rm_X12_looksAt) (C : Fr G X cX12_looksAt 9 yX12_looksAt.cls none wsX12_looksAt) (l1 : Int) (l2 : Int) (Q : Ii → Jj → Prop) (r166 : Int → Int → Int → Ii → Jj → Prop) (w166 : ∀ (l4 : Int) (l6 : Int) (l7 : Int) (I : Ii) (J : Jj), r166 l4 l6 l7 I J → Wz G X 9 (QsU G X (QsV Q)) 0 0 166 [some (.ref (kadr G 0)), none, some (.int (iZ l2)), none, some (.int (iZ l4)), none, some (.int (iZ l6)), some (.int (iZ l7)), none] [] I J) : ∀ (n : Nat) (l4 : Int) (l6 : Int) (l7 : Int) (l8 : Int) (I : Ii) (J : Jj), L_X12_looksAt_175 l1 l2 Q r166 n l4 l6 l7 l8 I J → Wz G X 9 (QsU G X (QsV Q)) 0 0 175 [some (.ref (kadr G 0)), none, some (.int (iZ l2)), none, some (.int (iZ l4)), none, some (.int (iZ l6)), some (.int (iZ l7)), some (.int (iZ l8))] [] I J := by
  intro n
  induction n with
  | zero => intro l4 l6 l7 l8 I J h; exact False.elim h
  | succ n w175 =>
    intro l4 l6 l7 l8 I J h
    have h : Lb_X12_looksAt_175 l1 l2 Q r166 (L_X12_looksAt_175 l1 l2 Q r166 n) l4 l6 l7 l8 I J := h
    unfold Lb_X12_looksAt_175 at h
    generalize L_X12_looksAt_175 l1 l2 Q r166 n = r175 at h w175
    refine wz_iload C rfl dX12_looksAt_175 ?_
    refine wz_iload C rfl dX12_looksAt_177 ?_
    obtain ⟨g30, h⟩ := h
    obtain ⟨g31, h⟩ := h
    refine wz_icmp_ge C (tgt := 227) g30 g31 dX12_looksAt_179 (by decide) (fun c => ?_) (fun c => ?_)
    · replace h := h.1 c
      refine wz_iinc_7 C rfl dX12_looksAt_227 ?_
      refine wz_goto C dX12_looksAt_230 (tgt := 166) (by decide) ?_
      exact Wz.drop (w166 l4 l6 (l7 + 1) I J h) (And.intro rfl (And.intro rfl (And.intro rfl (And.intro rfl (And.intro rfl trivial)))))
    · replace h := h.2 c
      refine wz_iload C rfl dX12_looksAt_182 ?_
      refine wz_aload_n C rfl rfl dX12_looksAt_184 ?_
      refine wz_getR C (j := 13) f_X12_looksAt_60 rfl dX12_looksAt_185 ?_
      refine wz_iload C rfl dX12_looksAt_188 ?_
      obtain ⟨g32, h⟩ := h
      refine wz_iaload C l7.toNat (n := 7) rfl (zN g32) (zL g32) (by decide) rfl dX12_looksAt_190 ?_
      refine wz_aload_n C rfl rfl dX12_looksAt_191 ?_
      refine wz_getR C (j := 13) f_X12_looksAt_60 rfl dX12_looksAt_192 ?_
      refine wz_iload C rfl dX12_looksAt_195 ?_
      obtain ⟨g33, h⟩ := h
      refine wz_iaload C l8.toNat (n := 7) rfl (zN g33) (zL g33) (by decide) rfl dX12_looksAt_197 ?_
      obtain ⟨g34, h⟩ := h
      obtain ⟨g35, h⟩ := h
      refine wz_icmp_ne C (tgt := 205) g34 g35 dX12_looksAt_198 (by decide) (fun c => ?_) (fun c => ?_)
      · replace h := h.1 c
        refine wz_aload_n C rfl rfl dX12_looksAt_205 ?_
        refine wz_getR C (j := 11) f_X12_looksAt_54 rfl dX12_looksAt_206 ?_
        refine wz_bipush C (by decide) dX12_looksAt_209 ?_
        refine wz_iload C rfl dX12_looksAt_211 ?_
        refine wz_imul C dX12_looksAt_213 ?_
        refine wz_iload C rfl dX12_looksAt_214 ?_
        refine wz_iadd C dX12_looksAt_216 ?_
        obtain ⟨g36, h⟩ := h
        refine wz_iaload C (((7 * l7) + l8).toNat) (n := 49) rfl (zN g36) (zL g36) (by decide) rfl dX12_looksAt_217 ?_
        refine wz_iadd C dX12_looksAt_218 ?_
        refine wz_istore_6 C rfl dX12_looksAt_219 ?_
        refine wz_iinc_8 C rfl dX12_looksAt_221 ?_
        refine wz_goto C dX12_looksAt_224 (tgt := 175) (by decide) ?_
        exact w175 l4 (l6 + (I 11 (((7 * l7) + l8).toNat))) l7 (l8 + 1) I J h
      · replace h := h.2 c
        refine wz_iconst C dX12_looksAt_201 ?_
        refine wz_goto C dX12_looksAt_202 (tgt := 218) (by decide) ?_
        refine wz_iadd C dX12_looksAt_218 ?_
        refine wz_istore_6 C rfl dX12_looksAt_219 ?_
        refine wz_iinc_8 C rfl dX12_looksAt_221 ?_
        refine wz_goto C dX12_looksAt_224 (tgt := 175) (by decide) ?_
        exact w175 l4 (l6 + 0) l7 (l8 + 1) I J h
set_option maxHeartbeats 4000000 in
set_option maxRecDepth 100000 in
theorem lk_X12_looksAt_275 (G : KG) (hG : Kok G) (X : KX) (hX : KR X = rm_X12_looksAt) (C : Fr G X cX12_looksAt 9 yX12_looksAt.cls none wsX12_looksAt) (l1 : Int) (l2 : Int) (Q : Ii → Jj → Prop) : ∀ (n : Nat) (l7 : Int) (I : Ii) (J : Jj), L_X12_looksAt_275 l1 l2 Q n l7 I J → Wz G X 9 (QsU G X (QsV Q)) 0 0 275 [some (.ref (kadr G 0)), none, some (.int (iZ l2)), none, none, none, none, some (.int (iZ l7)), none] [] I J := by
  intro n
  induction n with
  | zero => intro l7 I J h; exact False.elim h
  | succ n w275 =>
    intro l7 I J h
    have h : Lb_X12_looksAt_275 l1 l2 Q (L_X12_looksAt_275 l1 l2 Q n) l7 I J := h
    unfold Lb_X12_looksAt_275 at h
    generalize L_X12_looksAt_275 l1 l2 Q n = r275 at h w275
    refine wz_iload C rfl dX12_looksAt_275 ?_
    refine wz_iload_n C rfl rfl dX12_looksAt_277 ?_
    obtain ⟨g37, h⟩ := h
    obtain ⟨g38, h⟩ := h
    refine wz_icmp_ge C (tgt := 301) g37 g38 dX12_looksAt_278 (by decide) (fun c => ?_) (fun c => ?_)
    · replace h := h.1 c
      exact wz_vret C dX12_looksAt_301 ⟨rfl, h⟩
    · replace h := h.2 c
      refine wz_aload_n C rfl rfl dX12_looksAt_281 ?_
      refine wz_getR C (j := 14) f_X12_looksAt_63 rfl dX12_looksAt_282 ?_
      refine wz_iload C rfl dX12_looksAt_285 ?_
      refine wz_aload_n C rfl rfl dX12_looksAt_287 ?_
      refine wz_getR C (j := 13) f_X12_looksAt_60 rfl dX12_looksAt_288 ?_
      refine wz_iload C rfl dX12_looksAt_291 ?_
      obtain ⟨g39, h⟩ := h
      refine wz_iaload C l7.toNat (n := 7) rfl (zN g39) (zL g39) (by decide) rfl dX12_looksAt_293 ?_
      obtain ⟨g40, h⟩ := h
      refine wd_iastore C l7.toNat (n := 7) rfl (zN g40) (zL g40) (by decide) dX12_looksAt_294 (fun I41 e => ?_)
      replace h := h I41 e
      refine wz_iinc_7 C rfl dX12_looksAt_295 ?_
      refine wz_goto C dX12_looksAt_298 (tgt := 275) (by decide) ?_
      exact w275 (l7 + 1) I41 J h
set_option maxHeartbeats 4000000 in
set_option maxRecDepth 100000 in
theorem bk_X12_looksAt_260 (G : KG) (hG : Kok G) (X : KX) (hX : KR X = rm_X12_looksAt) (C : Fr G X cX12_looksAt 9 yX12_looksAt.cls none wsX12_looksAt) (l1 : Int) (l2 : Int) (Q : Ii → Jj → Prop) (l4 : Int) (l6 : Int) (I : Ii) (J : Jj) (h : B_X12_looksAt_260 l1 l2 Q l4 l6 I J) : Wz G X 9 (QsU G X (QsV Q)) 0 0 260 [some (.ref (kadr G 0)), none, some (.int (iZ l2)), none, some (.int (iZ l4)), none, some (.int (iZ l6)), none, none] [] I J := by
  unfold B_X12_looksAt_260 at h
  refine wz_aload_n C rfl rfl dX12_looksAt_260 ?_
  refine wz_iload C rfl dX12_looksAt_261 ?_
  refine wd_putI C f_X12_looksAt_367 fp_X12_34 rfl dX12_looksAt_263 (fun I28 e => ?_)
  replace h := h I28 e
  refine wz_aload_n C rfl rfl dX12_looksAt_266 ?_
  refine wz_iload C rfl dX12_looksAt_267 ?_
  refine wd_putI C f_X12_looksAt_370 fp_X12_35 rfl dX12_looksAt_269 (fun I29 e => ?_)
  replace h := h I29 e
  refine wz_iconst C dX12_looksAt_272 ?_
  refine wz_istore_7 C rfl dX12_looksAt_273 ?_
  obtain ⟨n, h⟩ := h
  exact Wz.drop (lk_X12_looksAt_275 G hG X hX C l1 l2 Q n 0 I29 J h) (And.intro rfl (And.intro rfl (And.intro rfl trivial)))
set_option maxHeartbeats 4000000 in
set_option maxRecDepth 100000 in
theorem lk_X12_looksAt_166 (G : KG) (hG : Kok G) (X : KX) (hX : KR X = rm_X12_looksAt) (C : Fr G X cX12_looksAt 9 yX12_looksAt.cls none wsX12_looksAt) (l1 : Int) (l2 : Int) (Q : Ii → Jj → Prop) : ∀ (n : Nat) (l4 : Int) (l6 : Int) (l7 : Int) (I : Ii) (J : Jj), L_X12_looksAt_166 l1 l2 Q n l4 l6 l7 I J → Wz G X 9 (QsU G X (QsV Q)) 0 0 166 [some (.ref (kadr G 0)), none, some (.int (iZ l2)), none, some (.int (iZ l4)), none, some (.int (iZ l6)), some (.int (iZ l7)), none] [] I J := by
  intro n
  induction n with
  | zero => intro l4 l6 l7 I J h; exact False.elim h
  | succ n w166 =>
    intro l4 l6 l7 I J h
    have h : Lb_X12_looksAt_166 l1 l2 Q (L_X12_looksAt_166 l1 l2 Q n) l4 l6 l7 I J := h
    unfold Lb_X12_looksAt_166 at h
    generalize L_X12_looksAt_166 l1 l2 Q n = r166 at h w166
    refine wz_iload C rfl dX12_looksAt_166 ?_
    refine wz_iload_n C rfl rfl dX12_looksAt_168 ?_
    obtain ⟨g22, h⟩ := h
    obtain ⟨g23, h⟩ := h
    refine wz_icmp_ge C (tgt := 233) g22 g23 dX12_looksAt_169 (by decide) (fun c => ?_) (fun c => ?_)
    · replace h := h.1 c
      refine wz_aload_n C rfl rfl dX12_looksAt_233 ?_
      refine wz_getI C rfl f_X12_looksAt_367 rfl dX12_looksAt_234 ?_
      refine wz_iconst C dX12_looksAt_237 ?_
      obtain ⟨g24, h⟩ := h
      refine wz_icmp_eq C (tgt := 260) g24 (by decide) dX12_looksAt_238 (by decide) (fun c => ?_) (fun c => ?_)
      · replace h := h.1 c
        exact Wz.drop (bk_X12_looksAt_260 G hG X hX C l1 l2 Q l4 l6 I J h) (And.intro rfl (And.intro rfl (And.intro rfl (And.intro rfl trivial))))
      · replace h := h.2 c
        refine wz_iload C rfl dX12_looksAt_241 ?_
        refine wz_aload_n C rfl rfl dX12_looksAt_243 ?_
        refine wz_getI C rfl f_X12_looksAt_367 rfl dX12_looksAt_244 ?_
        obtain ⟨g25, h⟩ := h
        refine wz_icmp_ne C (tgt := 260) g25 g24 dX12_looksAt_247 (by decide) (fun c => ?_) (fun c => ?_)
        · replace h := h.1 c
          exact Wz.drop (bk_X12_looksAt_260 G hG X hX C l1 l2 Q l4 l6 I J h) (And.intro rfl (And.intro rfl (And.intro rfl (And.intro rfl trivial))))
        · replace h := h.2 c
          refine wz_iload C rfl dX12_looksAt_250 ?_
          refine wz_aload_n C rfl rfl dX12_looksAt_252 ?_
          refine wz_getI C rfl f_X12_looksAt_370 rfl dX12_looksAt_253 ?_
          obtain ⟨g26, h⟩ := h
          obtain ⟨g27, h⟩ := h
          refine wz_icmp_lt C (tgt := 260) g26 g27 dX12_looksAt_256 (by decide) (fun c => ?_) (fun c => ?_)
          · replace h := h.1 c
            exact Wz.drop (bk_X12_looksAt_260 G hG X hX C l1 l2 Q l4 l6 I J h) (And.intro rfl (And.intro rfl (And.intro rfl (And.intro rfl trivial))))
          · replace h := h.2 c
            exact wz_vret C dX12_looksAt_259 ⟨rfl, h⟩
    · replace h := h.2 c
      refine wz_iconst C dX12_looksAt_172 ?_
      refine wz_istore_8 C rfl dX12_looksAt_173 ?_
      obtain ⟨n, h⟩ := h
      exact lk_X12_looksAt_175 G hG X hX C l1 l2 Q r166 w166 n l4 l6 l7 0 I J h
set_option maxHeartbeats 4000000 in
set_option maxRecDepth 100000 in
theorem lk_X12_looksAt_99 (G : KG) (hG : Kok G) (X : KX) (hX : KR X = rm_X12_looksAt) (C : Fr G X cX12_looksAt 9 yX12_looksAt.cls none wsX12_looksAt) (l1 : Int) (l2 : Int) (Q : Ii → Jj → Prop) : ∀ (n : Nat) (l4 : Int) (l5 : Int) (l6 : Int) (I : Ii) (J : Jj), L_X12_looksAt_99 l1 l2 Q n l4 l5 l6 I J → Wz G X 9 (QsU G X (QsV Q)) 0 0 99 [some (.ref (kadr G 0)), none, some (.int (iZ l2)), none, some (.int (iZ l4)), some (.int (iZ l5)), some (.int (iZ l6)), none, none] [] I J := by
  intro n
  induction n with
  | zero => intro l4 l5 l6 I J h; exact False.elim h
  | succ n w99 =>
    intro l4 l5 l6 I J h
    have h : Lb_X12_looksAt_99 l1 l2 Q (L_X12_looksAt_99 l1 l2 Q n) l4 l5 l6 I J := h
    unfold Lb_X12_looksAt_99 at h
    generalize L_X12_looksAt_99 l1 l2 Q n = r99 at h w99
    refine wz_iload C rfl dX12_looksAt_99 ?_
    refine wz_iconst C dX12_looksAt_101 ?_
    obtain ⟨g15, h⟩ := h
    refine wz_icmp_ge C (tgt := 142) g15 (by decide) dX12_looksAt_102 (by decide) (fun c => ?_) (fun c => ?_)
    · replace h := h.1 c
      refine wz_aload_n C rfl rfl dX12_looksAt_142 ?_
      refine wz_getI C rfl f_X12_looksAt_367 rfl dX12_looksAt_143 ?_
      refine wz_iconst C dX12_looksAt_146 ?_
      obtain ⟨g16, h⟩ := h
      refine wz_icmp_eq C (tgt := 160) g16 (by decide) dX12_looksAt_147 (by decide) (fun c => ?_) (fun c => ?_)
      · replace h := h.1 c
        refine wz_iconst C dX12_looksAt_160 ?_
        refine wz_istore_6 C rfl dX12_looksAt_161 ?_
        refine wz_iconst C dX12_looksAt_163 ?_
        refine wz_istore_7 C rfl dX12_looksAt_164 ?_
        obtain ⟨n, h⟩ := h
        exact Wz.drop (lk_X12_looksAt_166 G hG X hX C l1 l2 Q n l4 0 0 I J h) (And.intro rfl (And.intro rfl (And.intro rfl (And.intro rfl (And.intro rfl trivial)))))
      · replace h := h.2 c
        refine wz_iload C rfl dX12_looksAt_150 ?_
        refine wz_aload_n C rfl rfl dX12_looksAt_152 ?_
        refine wz_getI C rfl f_X12_looksAt_367 rfl dX12_looksAt_153 ?_
        obtain ⟨g17, h⟩ := h
        refine wz_icmp_le C (tgt := 160) g17 g16 dX12_looksAt_156 (by decide) (fun c => ?_) (fun c => ?_)
        · replace h := h.1 c
          refine wz_iconst C dX12_looksAt_160 ?_
          refine wz_istore_6 C rfl dX12_looksAt_161 ?_
          refine wz_iconst C dX12_looksAt_163 ?_
          refine wz_istore_7 C rfl dX12_looksAt_164 ?_
          obtain ⟨n, h⟩ := h
          exact Wz.drop (lk_X12_looksAt_166 G hG X hX C l1 l2 Q n l4 0 0 I J h) (And.intro rfl (And.intro rfl (And.intro rfl (And.intro rfl (And.intro rfl trivial)))))
        · replace h := h.2 c
          exact wz_vret C dX12_looksAt_159 ⟨rfl, h⟩
    · replace h := h.2 c
      refine wz_iload C rfl dX12_looksAt_105 ?_
      refine wz_aload_n C rfl rfl dX12_looksAt_107 ?_
      refine wz_getR C (j := 15) f_X12_looksAt_66 rfl dX12_looksAt_108 ?_
      refine wz_iload C rfl dX12_looksAt_111 ?_
      obtain ⟨g18, h⟩ := h
      refine wz_iaload C l6.toNat (n := 4) rfl (zN g18) (zL g18) (by decide) rfl dX12_looksAt_113 ?_
      refine wz_iload C rfl dX12_looksAt_114 ?_
      obtain ⟨g19, h⟩ := h
      obtain ⟨g20, h⟩ := h
      refine wz_icmp_le C (tgt := 132) g19 g20 dX12_looksAt_116 (by decide) (fun c => ?_) (fun c => ?_)
      · replace h := h.1 c
        refine wz_iconst C dX12_looksAt_132 ?_
        refine wz_iadd C dX12_looksAt_133 ?_
        refine wz_istore_4 C rfl dX12_looksAt_134 ?_
        refine wz_iinc_6 C rfl dX12_looksAt_136 ?_
        refine wz_goto C dX12_looksAt_139 (tgt := 99) (by decide) ?_
        exact w99 (l4 + 0) l5 (l6 + 1) I J h
      · replace h := h.2 c
        refine wz_aload_n C rfl rfl dX12_looksAt_119 ?_
        refine wz_getR C (j := 15) f_X12_looksAt_66 rfl dX12_looksAt_120 ?_
        refine wz_iload C rfl dX12_looksAt_123 ?_
        obtain ⟨g21, h⟩ := h
        refine wz_iaload C l6.toNat (n := 4) rfl (zN g21) (zL g21) (by decide) rfl dX12_looksAt_125 ?_
        refine wz_iload C rfl dX12_looksAt_126 ?_
        refine wz_isub C dX12_looksAt_128 ?_
        refine wz_goto C dX12_looksAt_129 (tgt := 133) (by decide) ?_
        refine wz_iadd C dX12_looksAt_133 ?_
        refine wz_istore_4 C rfl dX12_looksAt_134 ?_
        refine wz_iinc_6 C rfl dX12_looksAt_136 ?_
        refine wz_goto C dX12_looksAt_139 (tgt := 99) (by decide) ?_
        exact w99 (l4 + ((I 15 l6.toNat) - l5)) l5 (l6 + 1) I J h
set_option maxHeartbeats 4000000 in
set_option maxRecDepth 100000 in
theorem lk_X12_looksAt_30 (G : KG) (hG : Kok G) (X : KX) (hX : KR X = rm_X12_looksAt) (C : Fr G X cX12_looksAt 9 yX12_looksAt.cls none wsX12_looksAt) (l1 : Int) (l2 : Int) (Q : Ii → Jj → Prop) : ∀ (n : Nat) (l3 : Int) (l4 : Int) (I : Ii) (J : Jj), L_X12_looksAt_30 l1 l2 Q n l3 l4 I J → Wz G X 9 (QsU G X (QsV Q)) 0 0 30 [some (.ref (kadr G 0)), none, some (.int (iZ l2)), some (.int (iZ l3)), some (.int (iZ l4)), none, none, none, none] [] I J := by
  intro n
  induction n with
  | zero => intro l3 l4 I J h; exact False.elim h
  | succ n w30 =>
    intro l3 l4 I J h
    have h : Lb_X12_looksAt_30 l1 l2 Q (L_X12_looksAt_30 l1 l2 Q n) l3 l4 I J := h
    unfold Lb_X12_looksAt_30 at h
    generalize L_X12_looksAt_30 l1 l2 Q n = r30 at h w30
    refine wz_iload C rfl dX12_looksAt_30 ?_
    obtain ⟨g4, h⟩ := h
    refine wz_if_lt C (tgt := 87) g4 dX12_looksAt_32 (by decide) (fun c => ?_) (fun c => ?_)
    · replace h := h.1 c
      refine wz_iconst C dX12_looksAt_87 ?_
      refine wz_istore_4 C rfl dX12_looksAt_88 ?_
      refine wz_aload_n C rfl rfl dX12_looksAt_90 ?_
      refine wm_callV C (o := 0) (As := []) (st := []) (a' := 0) (b' := 0) rfl rfl (k_X12_limit G hG I J _ h) 0 gX12_looksAt_X12_limit rfl (by decide +kernel) (by rw [hX]; exact ⟨Nat.le_of_ble_eq_true rfl, Nat.le_of_ble_eq_true rfl⟩) rfl (Nat.le_of_ble_eq_true rfl) rfl rfl rfl dX12_looksAt_91 (kk_sI (fun v5 I5 J5 h => ?_))
      refine wz_istore_5 C rfl dX12_looksAt_94 ?_
      refine wz_iconst C dX12_looksAt_96 ?_
      refine wz_istore_6 C rfl dX12_looksAt_97 ?_
      obtain ⟨n, h⟩ := h
      exact Wz.drop (lk_X12_looksAt_99 G hG X hX C l1 l2 Q n 0 v5 0 I5 J5 h) (And.intro rfl (And.intro rfl (And.intro rfl (And.intro rfl (And.intro rfl trivial)))))
    · replace h := h.2 c
      refine wz_aload_n C rfl rfl dX12_looksAt_35 ?_
      refine wz_getR C (j := 13) f_X12_looksAt_60 rfl dX12_looksAt_36 ?_
      refine wz_iload C rfl dX12_looksAt_39 ?_
      refine wz_iload_n C rfl rfl dX12_looksAt_41 ?_
      refine wz_aload_n C rfl rfl dX12_looksAt_42 ?_
      refine wz_getR C (j := 2) f_X12_looksAt_26 rfl dX12_looksAt_43 ?_
      refine wz_iconst C dX12_looksAt_46 ?_
      refine wz_iaload C 2 (n := 350) rfl rfl (by decide) (by decide) rfl dX12_looksAt_47 ?_
      obtain ⟨g6, h⟩ := h
      refine wd_irem C g6 dX12_looksAt_48 ?_
      obtain ⟨g7, h⟩ := h
      refine wd_iastore C l4.toNat (n := 7) rfl (zN g7) (zL g7) (by decide) dX12_looksAt_49 (fun I8 e => ?_)
      replace h := h I8 e
      refine wz_iload_n C rfl rfl dX12_looksAt_50 ?_
      refine wz_aload_n C rfl rfl dX12_looksAt_51 ?_
      refine wz_getR C (j := 2) f_X12_looksAt_26 rfl dX12_looksAt_52 ?_
      refine wz_iconst C dX12_looksAt_55 ?_
      refine wz_iaload C 2 (n := 350) rfl rfl (by decide) (by decide) rfl dX12_looksAt_56 ?_
      obtain ⟨g9, h⟩ := h
      refine wd_idiv C g9 dX12_looksAt_57 ?_
      refine wz_istore_3 C rfl dX12_looksAt_58 ?_
      refine wz_aload_n C rfl rfl dX12_looksAt_59 ?_
      refine wz_getR C (j := 15) f_X12_looksAt_66 rfl dX12_looksAt_60 ?_
      refine wz_aload_n C rfl rfl dX12_looksAt_63 ?_
      refine wz_getR C (j := 13) f_X12_looksAt_60 rfl dX12_looksAt_64 ?_
      refine wz_iload C rfl dX12_looksAt_67 ?_
      obtain ⟨g10, h⟩ := h
      refine wz_iaload C l4.toNat (n := 7) rfl (zN g10) (zL g10) (by decide) rfl dX12_looksAt_69 ?_
      refine wz_dup2 C rfl rfl dX12_looksAt_70 ?_
      obtain ⟨g11, h⟩ := h
      refine wz_iaload C ((I8 13 l4.toNat).toNat) (n := 4) rfl (zN g11) (zL g11) (by decide) rfl dX12_looksAt_71 ?_
      refine wz_aload_n C rfl rfl dX12_looksAt_72 ?_
      refine wz_getR C (j := 12) f_X12_looksAt_57 rfl dX12_looksAt_73 ?_
      refine wz_iload C rfl dX12_looksAt_76 ?_
      obtain ⟨g12, h⟩ := h
      refine wz_iaload C l4.toNat (n := 7) rfl (zN g12) (zL g12) (by decide) rfl dX12_looksAt_78 ?_
      refine wz_iadd C dX12_looksAt_79 ?_
      obtain ⟨g13, h⟩ := h
      refine wd_iastore C ((I8 13 l4.toNat).toNat) (n := 4) rfl (zN g13) (zL g13) (by decide) dX12_looksAt_80 (fun I14 e => ?_)
      replace h := h I14 e
      refine wz_iinc_4 C rfl dX12_looksAt_81 ?_
      refine wz_goto C dX12_looksAt_84 (tgt := 30) (by decide) ?_
      exact w30 (l3 / (I8 2 2)) (l4 + (-1)) I14 J h
set_option maxHeartbeats 4000000 in
set_option maxRecDepth 100000 in
theorem lk_X12_looksAt_5 (G : KG) (hG : Kok G) (X : KX) (hX : KR X = rm_X12_looksAt) (C : Fr G X cX12_looksAt 9 yX12_looksAt.cls none wsX12_looksAt) (l1 : Int) (l2 : Int) (Q : Ii → Jj → Prop) : ∀ (n : Nat) (l3 : Int) (l4 : Int) (I : Ii) (J : Jj), L_X12_looksAt_5 l1 l2 Q n l3 l4 I J → Wz G X 9 (QsU G X (QsV Q)) 0 0 5 [some (.ref (kadr G 0)), none, some (.int (iZ l2)), some (.int (iZ l3)), some (.int (iZ l4)), none, none, none, none] [] I J := by
  intro n
  induction n with
  | zero => intro l3 l4 I J h; exact False.elim h
  | succ n w5 =>
    intro l3 l4 I J h
    have h : Lb_X12_looksAt_5 l1 l2 Q (L_X12_looksAt_5 l1 l2 Q n) l3 l4 I J := h
    unfold Lb_X12_looksAt_5 at h
    generalize L_X12_looksAt_5 l1 l2 Q n = r5 at h w5
    refine wz_iload C rfl dX12_looksAt_5 ?_
    refine wz_iconst C dX12_looksAt_7 ?_
    obtain ⟨g1, h⟩ := h
    refine wz_icmp_ge C (tgt := 25) g1 (by decide) dX12_looksAt_8 (by decide) (fun c => ?_) (fun c => ?_)
    · replace h := h.1 c
      refine wz_iload_n C rfl rfl dX12_looksAt_25 ?_
      refine wz_iconst C dX12_looksAt_26 ?_
      refine wz_isub C dX12_looksAt_27 ?_
      refine wz_istore_4 C rfl dX12_looksAt_28 ?_
      obtain ⟨n, h⟩ := h
      exact lk_X12_looksAt_30 G hG X hX C l1 l2 Q n l3 (l2 - 1) I J h
    · replace h := h.2 c
      refine wz_aload_n C rfl rfl dX12_looksAt_11 ?_
      refine wz_getR C (j := 15) f_X12_looksAt_66 rfl dX12_looksAt_12 ?_
      refine wz_iload C rfl dX12_looksAt_15 ?_
      refine wz_iconst C dX12_looksAt_17 ?_
      obtain ⟨g2, h⟩ := h
      refine wd_iastore C l4.toNat (n := 4) rfl (zN g2) (zL g2) (by decide) dX12_looksAt_18 (fun I3 e => ?_)
      replace h := h I3 e
      refine wz_iinc_4 C rfl dX12_looksAt_19 ?_
      refine wz_goto C dX12_looksAt_22 (tgt := 5) (by decide) ?_
      exact w5 l3 (l4 + 1) I3 J h
set_option maxHeartbeats 4000000 in
set_option maxRecDepth 100000 in
theorem k_X12_looksAt (G : KG) (hG : Kok G) (l1 : Int) (l2 : Int) (I : Ii) (J : Jj) (Q : Ii → Jj → Prop) (h : wp_X12_looksAt l1 l2 I J Q) : Ctr G yX12_looksAt wsX12_looksAt rm_X12_looksAt [.ref (kadr G 0), .int (iZ l1), .int (iZ l2)] (I, J) (QsV Q) := by
  unfold wp_X12_looksAt at h
  skip
  refine Ctr.ofZ (cc := cX12_looksAt) (nL := 9) (ret := none) [some (.ref (kadr G 0)), some (.int (iZ l1)), some (.int (iZ l2)), none, none, none, none, none, none] hG (by decide +kernel) rfl (Nat.le_of_ble_eq_true rfl) (Nat.le_of_ble_eq_true rfl) (by simp [lvA, lv_args, Value.category]) ?_
  intro X hX C
  refine wz_iload_n C rfl rfl dX12_looksAt_0 ?_
  refine wz_istore_3 C rfl dX12_looksAt_1 ?_
  refine wz_iconst C dX12_looksAt_2 ?_
  refine wz_istore_4 C rfl dX12_looksAt_3 ?_
  obtain ⟨n, h⟩ := h
  exact Wz.drop (lk_X12_looksAt_5 G hG X hX C l1 l2 Q n l1 0 I J h) (And.intro rfl (And.intro rfl (And.intro rfl (And.intro rfl trivial))))
