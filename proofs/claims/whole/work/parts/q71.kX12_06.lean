theorem in_X12_pieces_X12 : ∀ w ∈ wsX120, w ∈ wsX12_pieces := by decide +kernel
theorem f_X12_pieces_26 : FLk wsX12_pieces RX12 26 12 15 := flk 12 15 rfl tyX12_ok nmX12 in_X12_pieces_X12 (by decide) (by decide +kernel)
def rm_X12_pieces : Room := { frames := 2, cells := 0, slots := 0, locals := 48 }
set_option maxHeartbeats 4000000 in
set_option maxRecDepth 100000 in
theorem lk_X12_pieces_14 (G : KG) (hG : Kok G) (X : KX) (hX : KR X = rm_X12_pieces) (C : Fr G X cX12_pieces 6 yX12_pieces.cls (some .int) wsX12_pieces) (l1 : Int) (Q : Int → Ii → Jj → Prop) : ∀ (n : Nat) (l2 : Int) (l3 : Int) (l4 : Int) (l5 : Int) (I : Ii) (J : Jj), L_X12_pieces_14 l1 Q n l2 l3 l4 l5 I J → Wz G X 6 (QsU G X (QsI Q)) 0 0 14 [some (.ref (kadr G 0)), none, some (.int (iZ l2)), some (.int (iZ l3)), some (.int (iZ l4)), some (.int (iZ l5))] [] I J := by
  intro n
  induction n with
  | zero => intro l2 l3 l4 l5 I J h; exact False.elim h
  | succ n w14 =>
    intro l2 l3 l4 l5 I J h
    have h : Lb_X12_pieces_14 l1 Q (L_X12_pieces_14 l1 Q n) l2 l3 l4 l5 I J := h
    unfold Lb_X12_pieces_14 at h
    generalize L_X12_pieces_14 l1 Q n = r14 at h w14
    refine wz_iload C rfl dX12_pieces_14 ?_
    refine wz_aload_n C rfl rfl dX12_pieces_16 ?_
    refine wz_getR C (j := 2) f_X12_pieces_26 rfl dX12_pieces_17 ?_
    refine wz_iconst C dX12_pieces_20 ?_
    refine wz_iaload C 0 (n := 350) rfl rfl (by decide) (by decide) rfl dX12_pieces_21 ?_
    obtain ⟨g2, h⟩ := h
    obtain ⟨g3, h⟩ := h
    refine wz_icmp_ge C (tgt := 58) g2 g3 dX12_pieces_22 (by decide) (fun c => ?_) (fun c => ?_)
    · replace h := h.1 c
      refine wz_iload C rfl dX12_pieces_58 ?_
      exact wz_iret C dX12_pieces_60 ⟨_, rfl, h⟩
    · replace h := h.2 c
      refine wz_iload_n C rfl rfl dX12_pieces_25 ?_
      refine wz_iload C rfl dX12_pieces_26 ?_
      refine wm_callS C (As := [.int (iZ l2), .int (iZ l5)]) (st := []) (a' := 0) (b' := 0) (k_X12_hasBit G hG l2 l5 I J _ h) 2 gX12_pieces_X12_hasBit rfl (by decide +kernel) (by rw [hX]; exact ⟨Nat.le_of_ble_eq_true rfl, Nat.le_of_ble_eq_true rfl⟩) rfl (Nat.le_of_ble_eq_true rfl) rfl rfl rfl dX12_pieces_28 (kk_sB (fun v4 I4 J4 hb4 h => ?_))
      refine wz_if_ne C (tgt := 37) (rgB hb4) dX12_pieces_31 (by decide) (fun c => ?_) (fun c => ?_)
      · replace h := h.1 c
        refine wz_iload_n C rfl rfl dX12_pieces_37 ?_
        refine wz_aload_n C rfl rfl dX12_pieces_38 ?_
        refine wz_iload C rfl dX12_pieces_39 ?_
        refine wz_iload_n C rfl rfl dX12_pieces_41 ?_
        refine wm_callV C (o := 0) (As := [.int (iZ l5), .int (iZ l3)]) (st := [.int (iZ l2)]) (a' := 0) (b' := 0) rfl rfl (k_X12_together G hG l5 l3 I4 J4 _ h) 2 gX12_pieces_X12_together rfl (by decide +kernel) (by rw [hX]; exact ⟨Nat.le_of_ble_eq_true rfl, Nat.le_of_ble_eq_true rfl⟩) rfl (Nat.le_of_ble_eq_true rfl) rfl rfl rfl dX12_pieces_42 (kk_sI (fun v5 I5 J5 h => ?_))
        refine wz_iconst C dX12_pieces_45 ?_
        refine wd_ixor C dX12_pieces_46 ?_
        refine wd_iand C dX12_pieces_47 ?_
        refine wz_istore_2 C rfl dX12_pieces_48 ?_
        refine wz_iinc_4 C rfl dX12_pieces_49 ?_
        refine wz_iinc_5 C rfl dX12_pieces_52 ?_
        refine wz_goto C dX12_pieces_55 (tgt := 14) (by decide) ?_
        exact w14 (andZ l2 (xorZ v5 (-1))) l3 (l4 + 1) (l5 + 1) I5 J5 h
      · replace h := h.2 c
        refine wz_goto C dX12_pieces_34 (tgt := 52) (by decide) ?_
        refine wz_iinc_5 C rfl dX12_pieces_52 ?_
        refine wz_goto C dX12_pieces_55 (tgt := 14) (by decide) ?_
        exact w14 l2 l3 l4 (l5 + 1) I4 J4 h
set_option maxHeartbeats 4000000 in
set_option maxRecDepth 100000 in
theorem k_X12_pieces (G : KG) (hG : Kok G) (l1 : Int) (I : Ii) (J : Jj) (Q : Int → Ii → Jj → Prop) (h : wp_X12_pieces l1 I J Q) : Ctr G yX12_pieces wsX12_pieces rm_X12_pieces [.ref (kadr G 0), .int (iZ l1)] (I, J) (QsI Q) := by
  unfold wp_X12_pieces at h
  skip
  refine Ctr.ofZ (cc := cX12_pieces) (nL := 6) (ret := (some .int)) [some (.ref (kadr G 0)), some (.int (iZ l1)), none, none, none, none] hG (by decide +kernel) rfl (Nat.le_of_ble_eq_true rfl) (Nat.le_of_ble_eq_true rfl) (by simp [lvA, lv_args, Value.category]) ?_
  intro X hX C
  refine wz_aload_n C rfl rfl dX12_pieces_0 ?_
  refine wz_iload_n C rfl rfl dX12_pieces_1 ?_
  refine wm_callV C (o := 0) (As := [.int (iZ l1)]) (st := []) (a' := 0) (b' := 0) rfl rfl (k_X12_inPart G hG l1 I J _ h) 1 gX12_pieces_X12_inPart rfl (by decide +kernel) (by rw [hX]; exact ⟨Nat.le_of_ble_eq_true rfl, Nat.le_of_ble_eq_true rfl⟩) rfl (Nat.le_of_ble_eq_true rfl) rfl rfl rfl dX12_pieces_2 (kk_sI (fun v1 I1 J1 h => ?_))
  refine wz_istore_2 C rfl dX12_pieces_5 ?_
  refine wz_iload_n C rfl rfl dX12_pieces_6 ?_
  refine wz_istore_3 C rfl dX12_pieces_7 ?_
  refine wz_iconst C dX12_pieces_8 ?_
  refine wz_istore_4 C rfl dX12_pieces_9 ?_
  refine wz_iconst C dX12_pieces_11 ?_
  refine wz_istore_5 C rfl dX12_pieces_12 ?_
  obtain ⟨n, h⟩ := h
  exact Wz.drop (lk_X12_pieces_14 G hG X hX C l1 Q n v1 v1 0 0 I1 J1 h) (And.intro rfl (And.intro rfl (And.intro rfl (And.intro rfl (And.intro rfl trivial)))))
def rm_X12_part : Room := { frames := 3, cells := 0, slots := 0, locals := 73 }
set_option maxHeartbeats 4000000 in
set_option maxRecDepth 100000 in
theorem k_X12_part (G : KG) (hG : Kok G) (l1 : Int) (l2 : Int) (I : Ii) (J : Jj) (Q : Int → Ii → Jj → Prop) (h : wp_X12_part l1 l2 I J Q) : Ctr G yX12_part wsX12_part rm_X12_part [.ref (kadr G 0), .int (iZ l1), .int (iZ l2)] (I, J) (QsI Q) := by
  unfold wp_X12_part at h
  skip
  refine Ctr.ofZ (cc := cX12_part) (nL := 3) (ret := (some .int)) [some (.ref (kadr G 0)), some (.int (iZ l1)), some (.int (iZ l2))] hG (by decide +kernel) rfl (Nat.le_of_ble_eq_true rfl) (Nat.le_of_ble_eq_true rfl) (by simp [lvA, lv_args, Value.category]) ?_
  intro X hX C
  refine wz_aload_n C rfl rfl dX12_part_0 ?_
  refine wz_aload_n C rfl rfl dX12_part_1 ?_
  refine wz_iload_n C rfl rfl dX12_part_2 ?_
  refine wm_callV C (o := 0) (As := [.int (iZ l1)]) (st := [.ref (kadr G 0)]) (a' := 0) (b' := 0) rfl rfl (k_X12_isPart G hG l1 I J _ h) 1 gX12_part_X12_isPart rfl (by decide +kernel) (by rw [hX]; exact ⟨Nat.le_of_ble_eq_true rfl, Nat.le_of_ble_eq_true rfl⟩) rfl (Nat.le_of_ble_eq_true rfl) rfl rfl rfl dX12_part_3 (kk_sB (fun v1 I1 J1 hb1 h => ?_))
  refine wz_iload_n C rfl rfl dX12_part_6 ?_
  refine wd_i2l C dX12_part_7 ?_
  refine wz_lconst C (v := lZ 0) (by decide) dX12_part_8 ?_
  refine wz_ldc2_w C (v := lZ 4) (by decide +kernel) dX12_part_9 ?_
  refine wm_callS C (As := [.long (i2lZ l2), .long (lZ 0), .long (lZ 4)]) (st := [.int (iZ v1), .ref (kadr G 0)]) (a' := 0) (b' := 0) (k_X12_isIn G hG (i2lZ l2) (lZ 0) (lZ 4) I1 J1 _ h) 3 gX12_part_X12_isIn rfl (by decide +kernel) (by rw [hX]; exact ⟨Nat.le_of_ble_eq_true rfl, Nat.le_of_ble_eq_true rfl⟩) rfl (Nat.le_of_ble_eq_true rfl) rfl rfl rfl dX12_part_12 (kk_sB (fun v2 I2 J2 hb2 h => ?_))
  refine wm_callV C (o := 0) (As := [.int (iZ v1), .int (iZ v2)]) (st := []) (a' := 0) (b' := 0) rfl rfl (k_X12_goesBoth G hG v1 v2 I2 J2 _ h) 2 gX12_part_X12_goesBoth rfl (by decide +kernel) (by rw [hX]; exact ⟨Nat.le_of_ble_eq_true rfl, Nat.le_of_ble_eq_true rfl⟩) rfl (Nat.le_of_ble_eq_true rfl) rfl rfl rfl dX12_part_15 (kk_sB (fun v3 I3 J3 hb3 h => ?_))
  refine wz_if_ne C (tgt := 23) (rgB hb3) dX12_part_18 (by decide) (fun c => ?_) (fun c => ?_)
  · replace h := h.1 c
    refine wz_iload_n C rfl rfl dX12_part_23 ?_
    obtain ⟨g4, h⟩ := h
    have c : (l2 < 0 ∨ 3 < l2) ∨ l2 = 0 ∨ l2 = 1 ∨ l2 = 2 ∨ l2 = 3 := by omega
    rcases c with c | c | c | c | c
    · replace h := h.1 c
      refine wz_tableOut C (tgt := 80) g4 dX12_part_24 c (by decide) ?_
      refine wz_aload_n C rfl rfl dX12_part_80 ?_
      refine wz_aload_n C rfl rfl dX12_part_81 ?_
      refine wz_iload_n C rfl rfl dX12_part_82 ?_
      refine wm_callV C (o := 0) (As := [.int (iZ l1)]) (st := [.ref (kadr G 0)]) (a' := 0) (b' := 0) rfl rfl (k_X12_inPart G hG l1 I3 J3 _ h) 1 gX12_part_X12_inPart rfl (by decide +kernel) (by rw [hX]; exact ⟨Nat.le_of_ble_eq_true rfl, Nat.le_of_ble_eq_true rfl⟩) rfl (Nat.le_of_ble_eq_true rfl) rfl rfl rfl dX12_part_83 (kk_sI (fun v5 I5 J5 h => ?_))
      refine wm_callV C (o := 0) (As := [.int (iZ v5)]) (st := []) (a' := 0) (b' := 0) rfl rfl (k_X12_outOf G hG v5 I5 J5 _ h) 1 gX12_part_X12_outOf rfl (by decide +kernel) (by rw [hX]; exact ⟨Nat.le_of_ble_eq_true rfl, Nat.le_of_ble_eq_true rfl⟩) rfl (Nat.le_of_ble_eq_true rfl) rfl rfl rfl dX12_part_86 (kk_sI (fun v6 I6 J6 h => ?_))
      exact wz_iret C dX12_part_89 ⟨_, rfl, h⟩
    · replace h := h.2.1 c
      refine wz_tableIn C (v := 0) (tgt := 56) c dX12_part_24 (by decide) rfl (by decide) ?_
      refine wz_aload_n C rfl rfl dX12_part_56 ?_
      refine wz_iload_n C rfl rfl dX12_part_57 ?_
      refine wm_callV C (o := 0) (As := [.int (iZ l1)]) (st := []) (a' := 0) (b' := 0) rfl rfl (k_X12_weightOf G hG l1 I3 J3 _ h) 1 gX12_part_X12_weightOf rfl (by decide +kernel) (by rw [hX]; exact ⟨Nat.le_of_ble_eq_true rfl, Nat.le_of_ble_eq_true rfl⟩) rfl (Nat.le_of_ble_eq_true rfl) rfl rfl rfl dX12_part_58 (kk_sI (fun v7 I7 J7 h => ?_))
      exact wz_iret C dX12_part_61 ⟨_, rfl, h⟩
    · replace h := h.2.2.1 c
      refine wz_tableIn C (v := 1) (tgt := 62) c dX12_part_24 (by decide) rfl (by decide) ?_
      refine wz_aload_n C rfl rfl dX12_part_62 ?_
      refine wz_iload_n C rfl rfl dX12_part_63 ?_
      refine wm_callV C (o := 0) (As := [.int (iZ l1)]) (st := []) (a' := 0) (b' := 0) rfl rfl (k_X12_debtOf G hG l1 I3 J3 _ h) 1 gX12_part_X12_debtOf rfl (by decide +kernel) (by rw [hX]; exact ⟨Nat.le_of_ble_eq_true rfl, Nat.le_of_ble_eq_true rfl⟩) rfl (Nat.le_of_ble_eq_true rfl) rfl rfl rfl dX12_part_64 (kk_sI (fun v8 I8 J8 h => ?_))
      exact wz_iret C dX12_part_67 ⟨_, rfl, h⟩
    · replace h := h.2.2.2.1 c
      refine wz_tableIn C (v := 2) (tgt := 68) c dX12_part_24 (by decide) rfl (by decide) ?_
      refine wz_aload_n C rfl rfl dX12_part_68 ?_
      refine wz_iload_n C rfl rfl dX12_part_69 ?_
      refine wm_callV C (o := 0) (As := [.int (iZ l1)]) (st := []) (a' := 0) (b' := 0) rfl rfl (k_X12_inPart G hG l1 I3 J3 _ h) 1 gX12_part_X12_inPart rfl (by decide +kernel) (by rw [hX]; exact ⟨Nat.le_of_ble_eq_true rfl, Nat.le_of_ble_eq_true rfl⟩) rfl (Nat.le_of_ble_eq_true rfl) rfl rfl rfl dX12_part_70 (kk_sI (fun v9 I9 J9 h => ?_))
      exact wz_iret C dX12_part_73 ⟨_, rfl, h⟩
    · replace h := h.2.2.2.2 c
      refine wz_tableIn C (v := 3) (tgt := 74) c dX12_part_24 (by decide) rfl (by decide) ?_
      refine wz_aload_n C rfl rfl dX12_part_74 ?_
      refine wz_iload_n C rfl rfl dX12_part_75 ?_
      refine wm_callV C (o := 0) (As := [.int (iZ l1)]) (st := []) (a' := 0) (b' := 0) rfl rfl (k_X12_pieces G hG l1 I3 J3 _ h) 1 gX12_part_X12_pieces rfl (by decide +kernel) (by rw [hX]; exact ⟨Nat.le_of_ble_eq_true rfl, Nat.le_of_ble_eq_true rfl⟩) rfl (Nat.le_of_ble_eq_true rfl) rfl rfl rfl dX12_part_76 (kk_sI (fun v10 I10 J10 h => ?_))
      exact wz_iret C dX12_part_79 ⟨_, rfl, h⟩
  · replace h := h.2 c
    refine wz_iconst C dX12_part_21 ?_
    exact wz_iret C dX12_part_22 ⟨_, rfl, h⟩
theorem in_X12_cut_X12 : ∀ w ∈ wsX120, w ∈ wsX12_cut := by decide +kernel
theorem f_X12_cut_90 : FLk wsX12_cut RX12 90 12 0 := flk 12 0 rfl tyX12_ok nmX12 in_X12_cut_X12 (by decide) (by decide +kernel)
def rm_X12_cut : Room := { frames := 2, cells := 0, slots := 0, locals := 43 }
set_option maxHeartbeats 4000000 in
set_option maxRecDepth 100000 in
theorem k_X12_cut (G : KG) (hG : Kok G) (I : Ii) (J : Jj) (Q : Int → Ii → Jj → Prop) (h : wp_X12_cut I J Q) : Ctr G yX12_cut wsX12_cut rm_X12_cut [.ref (kadr G 0)] (I, J) (QsI Q) := by
  unfold wp_X12_cut at h
  skip
  refine Ctr.ofZ (cc := cX12_cut) (nL := 1) (ret := (some .int)) [some (.ref (kadr G 0))] hG (by decide +kernel) rfl (Nat.le_of_ble_eq_true rfl) (Nat.le_of_ble_eq_true rfl) (by simp [lvA, lv_args, Value.category]) ?_
  intro X hX C
  refine wz_aload_n C rfl rfl dX12_cut_0 ?_
  refine wz_iconst C dX12_cut_1 ?_
  refine wd_putI C f_X12_cut_90 fp_X12_0 rfl dX12_cut_2 (fun I1 e => ?_)
  replace h := h I1 e
  refine wz_aload_n C rfl rfl dX12_cut_5 ?_
  refine wm_callV C (o := 0) (As := []) (st := []) (a' := 0) (b' := 0) rfl rfl (k_X12_cutNow G hG I1 J _ h) 0 gX12_cut_X12_cutNow rfl (by decide +kernel) (by rw [hX]; exact ⟨Nat.le_of_ble_eq_true rfl, Nat.le_of_ble_eq_true rfl⟩) rfl (Nat.le_of_ble_eq_true rfl) rfl rfl rfl dX12_cut_6 (kk_sI (fun v2 I2 J2 h => ?_))
  exact wz_iret C dX12_cut_9 ⟨_, rfl, h⟩
theorem in_X12_debts_X12 : ∀ w ∈ wsX120, w ∈ wsX12_debts := by decide +kernel
theorem f_X12_debts_90 : FLk wsX12_debts RX12 90 12 0 := flk 12 0 rfl tyX12_ok nmX12 in_X12_debts_X12 (by decide) (by decide +kernel)
def rm_X12_debts : Room := { frames := 4, cells := 0, slots := 0, locals := 86 }
set_option maxHeartbeats 4000000 in
set_option maxRecDepth 100000 in
theorem k_X12_debts (G : KG) (hG : Kok G) (I : Ii) (J : Jj) (Q : Int → Ii → Jj → Prop) (h : wp_X12_debts I J Q) : Ctr G yX12_debts wsX12_debts rm_X12_debts [.ref (kadr G 0)] (I, J) (QsI Q) := by
  unfold wp_X12_debts at h
  skip
  refine Ctr.ofZ (cc := cX12_debts) (nL := 1) (ret := (some .int)) [some (.ref (kadr G 0))] hG (by decide +kernel) rfl (Nat.le_of_ble_eq_true rfl) (Nat.le_of_ble_eq_true rfl) (by simp [lvA, lv_args, Value.category]) ?_
  intro X hX C
  refine wz_aload_n C rfl rfl dX12_debts_0 ?_
  refine wz_iconst C dX12_debts_1 ?_
  refine wd_putI C f_X12_debts_90 fp_X12_0 rfl dX12_debts_2 (fun I1 e => ?_)
  replace h := h I1 e
  refine wz_aload_n C rfl rfl dX12_debts_5 ?_
  refine wm_callV C (o := 0) (As := []) (st := []) (a' := 0) (b' := 0) rfl rfl (k_X12_debtsNow G hG I1 J _ h) 0 gX12_debts_X12_debtsNow rfl (by decide +kernel) (by rw [hX]; exact ⟨Nat.le_of_ble_eq_true rfl, Nat.le_of_ble_eq_true rfl⟩) rfl (Nat.le_of_ble_eq_true rfl) rfl rfl rfl dX12_debts_6 (kk_sI (fun v2 I2 J2 h => ?_))
  exact wz_iret C dX12_debts_9 ⟨_, rfl, h⟩
theorem in_X12_borderNow_X12 : ∀ w ∈ wsX120, w ∈ wsX12_borderNow := by decide +kernel
theorem f_X12_borderNow_26 : FLk wsX12_borderNow RX12 26 12 15 := flk 12 15 rfl tyX12_ok nmX12 in_X12_borderNow_X12 (by decide) (by decide +kernel)
def rm_X12_borderNow : Room := { frames := 1, cells := 0, slots := 0, locals := 21 }
set_option maxHeartbeats 4000000 in
set_option maxRecDepth 100000 in
theorem lk_X12_borderNow_4 (G : KG) (hG : Kok G) (X : KX) (hX : KR X = rm_X12_borderNow) (C : Fr G X cX12_borderNow 3 yX12_borderNow.cls (some .int) wsX12_borderNow) (Q : Int → Ii → Jj → Prop) : ∀ (n : Nat) (l1 : Int) (l2 : Int) (I : Ii) (J : Jj), L_X12_borderNow_4 Q n l1 l2 I J → Wz G X 3 (QsU G X (QsI Q)) 0 0 4 [some (.ref (kadr G 0)), some (.int (iZ l1)), some (.int (iZ l2))] [] I J := by
  intro n
  induction n with
  | zero => intro l1 l2 I J h; exact False.elim h
  | succ n w4 =>
    intro l1 l2 I J h
    have h : Lb_X12_borderNow_4 Q (L_X12_borderNow_4 Q n) l1 l2 I J := h
    unfold Lb_X12_borderNow_4 at h
    generalize L_X12_borderNow_4 Q n = r4 at h w4
    refine wz_iload_n C rfl rfl dX12_borderNow_4 ?_
    refine wz_aload_n C rfl rfl dX12_borderNow_5 ?_
    refine wz_getR C (j := 2) f_X12_borderNow_26 rfl dX12_borderNow_6 ?_
    refine wz_iconst C dX12_borderNow_9 ?_
    refine wz_iaload C 1 (n := 350) rfl rfl (by decide) (by decide) rfl dX12_borderNow_10 ?_
    obtain ⟨g1, h⟩ := h
    obtain ⟨g2, h⟩ := h
    refine wz_icmp_ge C (tgt := 55) g1 g2 dX12_borderNow_11 (by decide) (fun c => ?_) (fun c => ?_)
    · replace h := h.1 c
      refine wz_iload_n C rfl rfl dX12_borderNow_55 ?_
      exact wz_iret C dX12_borderNow_56 ⟨_, rfl, h⟩
    · replace h := h.2 c
      refine wz_aload_n C rfl rfl dX12_borderNow_14 ?_
      refine wz_iload_n C rfl rfl dX12_borderNow_15 ?_
      refine wm_callV C (o := 0) (As := [.int (iZ l2)]) (st := []) (a' := 0) (b' := 0) rfl rfl (k_X12_isCut G hG l2 I J _ h) 1 gX12_borderNow_X12_isCut rfl (by decide +kernel) (by rw [hX]; exact ⟨Nat.le_of_ble_eq_true rfl, Nat.le_of_ble_eq_true rfl⟩) rfl (Nat.le_of_ble_eq_true rfl) rfl rfl rfl dX12_borderNow_16 (kk_sB (fun v3 I3 J3 hb3 h => ?_))
      refine wz_if_eq C (tgt := 49) (rgB hb3) dX12_borderNow_19 (by decide) (fun c => ?_) (fun c => ?_)
      · replace h := h.1 c
        refine wz_iinc_2 C rfl dX12_borderNow_49 ?_
        refine wz_goto C dX12_borderNow_52 (tgt := 4) (by decide) ?_
        exact w4 l1 (l2 + 1) I3 J3 h
      · replace h := h.2 c
        refine wz_iload_n C rfl rfl dX12_borderNow_22 ?_
        refine wz_iconst C dX12_borderNow_23 ?_
        refine wz_aload_n C rfl rfl dX12_borderNow_24 ?_
        refine wz_getR C (j := 2) f_X12_borderNow_26 rfl dX12_borderNow_25 ?_
        refine wz_bipush C (by decide) dX12_borderNow_28 ?_
        refine wz_iload_n C rfl rfl dX12_borderNow_30 ?_
        refine wz_iadd C dX12_borderNow_31 ?_
        obtain ⟨g4, h⟩ := h
        refine wz_iaload C ((110 + l2).toNat) (n := 350) rfl (zN g4) (zL g4) (by decide) rfl dX12_borderNow_32 ?_
        refine wd_ishl C dX12_borderNow_33 ?_
        refine wz_iconst C dX12_borderNow_34 ?_
        refine wz_aload_n C rfl rfl dX12_borderNow_35 ?_
        refine wz_getR C (j := 2) f_X12_borderNow_26 rfl dX12_borderNow_36 ?_
        refine wz_sipush C (by decide) dX12_borderNow_39 ?_
        refine wz_iload_n C rfl rfl dX12_borderNow_42 ?_
        refine wz_iadd C dX12_borderNow_43 ?_
        obtain ⟨g5, h⟩ := h
        refine wz_iaload C ((150 + l2).toNat) (n := 350) rfl (zN g5) (zL g5) (by decide) rfl dX12_borderNow_44 ?_
        refine wd_ishl C dX12_borderNow_45 ?_
        refine wd_ior C dX12_borderNow_46 ?_
        refine wd_ior C dX12_borderNow_47 ?_
        refine wz_istore_1 C rfl dX12_borderNow_48 ?_
        refine wz_iinc_2 C rfl dX12_borderNow_49 ?_
        refine wz_goto C dX12_borderNow_52 (tgt := 4) (by decide) ?_
        exact w4 (orZ l1 (orZ (shlZ 1 (I3 2 ((110 + l2).toNat))) (shlZ 1 (I3 2 ((150 + l2).toNat))))) (l2 + 1) I3 J3 h
set_option maxHeartbeats 4000000 in
set_option maxRecDepth 100000 in
theorem k_X12_borderNow (G : KG) (hG : Kok G) (I : Ii) (J : Jj) (Q : Int → Ii → Jj → Prop) (h : wp_X12_borderNow I J Q) : Ctr G yX12_borderNow wsX12_borderNow rm_X12_borderNow [.ref (kadr G 0)] (I, J) (QsI Q) := by
  unfold wp_X12_borderNow at h
  skip
  refine Ctr.ofZ (cc := cX12_borderNow) (nL := 3) (ret := (some .int)) [some (.ref (kadr G 0)), none, none] hG (by decide +kernel) rfl (Nat.le_of_ble_eq_true rfl) (Nat.le_of_ble_eq_true rfl) (by simp [lvA, lv_args, Value.category]) ?_
  intro X hX C
  refine wz_iconst C dX12_borderNow_0 ?_
  refine wz_istore_1 C rfl dX12_borderNow_1 ?_
  refine wz_iconst C dX12_borderNow_2 ?_
  refine wz_istore_2 C rfl dX12_borderNow_3 ?_
  obtain ⟨n, h⟩ := h
  exact lk_X12_borderNow_4 G hG X hX C Q n 0 0 I J h
theorem in_X12_border_X12 : ∀ w ∈ wsX120, w ∈ wsX12_border := by decide +kernel
theorem f_X12_border_90 : FLk wsX12_border RX12 90 12 0 := flk 12 0 rfl tyX12_ok nmX12 in_X12_border_X12 (by decide) (by decide +kernel)
def rm_X12_border : Room := { frames := 2, cells := 0, slots := 0, locals := 43 }
set_option maxHeartbeats 4000000 in
set_option maxRecDepth 100000 in
theorem k_X12_border (G : KG) (hG : Kok G) (I : Ii) (J : Jj) (Q : Int → Ii → Jj → Prop) (h : wp_X12_border I J Q) : Ctr G yX12_border wsX12_border rm_X12_border [.ref (kadr G 0)] (I, J) (QsI Q) := by
  unfold wp_X12_border at h
  skip
  refine Ctr.ofZ (cc := cX12_border) (nL := 1) (ret := (some .int)) [some (.ref (kadr G 0))] hG (by decide +kernel) rfl (Nat.le_of_ble_eq_true rfl) (Nat.le_of_ble_eq_true rfl) (by simp [lvA, lv_args, Value.category]) ?_
  intro X hX C
  refine wz_aload_n C rfl rfl dX12_border_0 ?_
  refine wz_iconst C dX12_border_1 ?_
  refine wd_putI C f_X12_border_90 fp_X12_0 rfl dX12_border_2 (fun I1 e => ?_)
  replace h := h I1 e
  refine wz_aload_n C rfl rfl dX12_border_5 ?_
  refine wm_callV C (o := 0) (As := []) (st := []) (a' := 0) (b' := 0) rfl rfl (k_X12_borderNow G hG I1 J _ h) 0 gX12_border_X12_borderNow rfl (by decide +kernel) (by rw [hX]; exact ⟨Nat.le_of_ble_eq_true rfl, Nat.le_of_ble_eq_true rfl⟩) rfl (Nat.le_of_ble_eq_true rfl) rfl rfl rfl dX12_border_6 (kk_sI (fun v2 I2 J2 h => ?_))
  exact wz_iret C dX12_border_9 ⟨_, rfl, h⟩
theorem in_X12_heaviestNow_X12 : ∀ w ∈ wsX120, w ∈ wsX12_heaviestNow := by decide +kernel
theorem f_X12_heaviestNow_26 : FLk wsX12_heaviestNow RX12 26 12 15 := flk 12 15 rfl tyX12_ok nmX12 in_X12_heaviestNow_X12 (by decide) (by decide +kernel)
def rm_X12_heaviestNow : Room := { frames := 1, cells := 0, slots := 0, locals := 23 }
set_option maxHeartbeats 4000000 in
set_option maxRecDepth 100000 in
theorem lk_X12_heaviestNow_4 (G : KG) (hG : Kok G) (X : KX) (hX : KR X = rm_X12_heaviestNow) (C : Fr G X cX12_heaviestNow 3 yX12_heaviestNow.cls (some .int) wsX12_heaviestNow) (Q : Int → Ii → Jj → Prop) : ∀ (n : Nat) (l1 : Int) (l2 : Int) (I : Ii) (J : Jj), L_X12_heaviestNow_4 Q n l1 l2 I J → Wz G X 3 (QsU G X (QsI Q)) 0 0 4 [some (.ref (kadr G 0)), some (.int (iZ l1)), some (.int (iZ l2))] [] I J := by
  intro n
  induction n with
  | zero => intro l1 l2 I J h; exact False.elim h
  | succ n w4 =>
    intro l1 l2 I J h
    have h : Lb_X12_heaviestNow_4 Q (L_X12_heaviestNow_4 Q n) l1 l2 I J := h
    unfold Lb_X12_heaviestNow_4 at h
    generalize L_X12_heaviestNow_4 Q n = r4 at h w4
    refine wz_iload_n C rfl rfl dX12_heaviestNow_4 ?_
    refine wz_aload_n C rfl rfl dX12_heaviestNow_5 ?_
    refine wz_getR C (j := 2) f_X12_heaviestNow_26 rfl dX12_heaviestNow_6 ?_
    refine wz_iconst C dX12_heaviestNow_9 ?_
    refine wz_iaload C 2 (n := 350) rfl rfl (by decide) (by decide) rfl dX12_heaviestNow_10 ?_
    obtain ⟨g1, h⟩ := h
    obtain ⟨g2, h⟩ := h
    refine wz_icmp_ge C (tgt := 35) g1 g2 dX12_heaviestNow_11 (by decide) (fun c => ?_) (fun c => ?_)
    · replace h := h.1 c
      refine wz_iload_n C rfl rfl dX12_heaviestNow_35 ?_
      exact wz_iret C dX12_heaviestNow_36 ⟨_, rfl, h⟩
    · replace h := h.2 c
      refine wz_aload_n C rfl rfl dX12_heaviestNow_14 ?_
      refine wz_iload_n C rfl rfl dX12_heaviestNow_15 ?_
      refine wm_callV C (o := 0) (As := [.int (iZ l2)]) (st := []) (a' := 0) (b' := 0) rfl rfl (k_X12_weightOf G hG l2 I J _ h) 1 gX12_heaviestNow_X12_weightOf rfl (by decide +kernel) (by rw [hX]; exact ⟨Nat.le_of_ble_eq_true rfl, Nat.le_of_ble_eq_true rfl⟩) rfl (Nat.le_of_ble_eq_true rfl) rfl rfl rfl dX12_heaviestNow_16 (kk_sI (fun v3 I3 J3 h => ?_))
      refine wz_aload_n C rfl rfl dX12_heaviestNow_19 ?_
      refine wz_iload_n C rfl rfl dX12_heaviestNow_20 ?_
      refine wm_callV C (o := 0) (As := [.int (iZ l1)]) (st := [.int (iZ v3)]) (a' := 0) (b' := 0) rfl rfl (k_X12_weightOf G hG l1 I3 J3 _ h) 1 gX12_heaviestNow_X12_weightOf rfl (by decide +kernel) (by rw [hX]; exact ⟨Nat.le_of_ble_eq_true rfl, Nat.le_of_ble_eq_true rfl⟩) rfl (Nat.le_of_ble_eq_true rfl) rfl rfl rfl dX12_heaviestNow_21 (kk_sI (fun v4 I4 J4 h => ?_))
      obtain ⟨g5, h⟩ := h
      obtain ⟨g6, h⟩ := h
      refine wz_icmp_le C (tgt := 29) g5 g6 dX12_heaviestNow_24 (by decide) (fun c => ?_) (fun c => ?_)
      · replace h := h.1 c
        refine wz_iinc_2 C rfl dX12_heaviestNow_29 ?_
        refine wz_goto C dX12_heaviestNow_32 (tgt := 4) (by decide) ?_
        exact w4 l1 (l2 + 1) I4 J4 h
      · replace h := h.2 c
        refine wz_iload_n C rfl rfl dX12_heaviestNow_27 ?_
        refine wz_istore_1 C rfl dX12_heaviestNow_28 ?_
        refine wz_iinc_2 C rfl dX12_heaviestNow_29 ?_
        refine wz_goto C dX12_heaviestNow_32 (tgt := 4) (by decide) ?_
        exact w4 l2 (l2 + 1) I4 J4 h
set_option maxHeartbeats 4000000 in
set_option maxRecDepth 100000 in
theorem k_X12_heaviestNow (G : KG) (hG : Kok G) (I : Ii) (J : Jj) (Q : Int → Ii → Jj → Prop) (h : wp_X12_heaviestNow I J Q) : Ctr G yX12_heaviestNow wsX12_heaviestNow rm_X12_heaviestNow [.ref (kadr G 0)] (I, J) (QsI Q) := by
  unfold wp_X12_heaviestNow at h
  skip
  refine Ctr.ofZ (cc := cX12_heaviestNow) (nL := 3) (ret := (some .int)) [some (.ref (kadr G 0)), none, none] hG (by decide +kernel) rfl (Nat.le_of_ble_eq_true rfl) (Nat.le_of_ble_eq_true rfl) (by simp [lvA, lv_args, Value.category]) ?_
  intro X hX C
  refine wz_iconst C dX12_heaviestNow_0 ?_
  refine wz_istore_1 C rfl dX12_heaviestNow_1 ?_
  refine wz_iconst C dX12_heaviestNow_2 ?_
  refine wz_istore_2 C rfl dX12_heaviestNow_3 ?_
  obtain ⟨n, h⟩ := h
  exact lk_X12_heaviestNow_4 G hG X hX C Q n 0 1 I J h
theorem in_X12_heaviest_X12 : ∀ w ∈ wsX120, w ∈ wsX12_heaviest := by decide +kernel
theorem f_X12_heaviest_90 : FLk wsX12_heaviest RX12 90 12 0 := flk 12 0 rfl tyX12_ok nmX12 in_X12_heaviest_X12 (by decide) (by decide +kernel)
def rm_X12_heaviest : Room := { frames := 2, cells := 0, slots := 0, locals := 45 }
set_option maxHeartbeats 4000000 in
set_option maxRecDepth 100000 in
theorem k_X12_heaviest (G : KG) (hG : Kok G) (I : Ii) (J : Jj) (Q : Int → Ii → Jj → Prop) (h : wp_X12_heaviest I J Q) : Ctr G yX12_heaviest wsX12_heaviest rm_X12_heaviest [.ref (kadr G 0)] (I, J) (QsI Q) := by
  unfold wp_X12_heaviest at h
  skip
  refine Ctr.ofZ (cc := cX12_heaviest) (nL := 1) (ret := (some .int)) [some (.ref (kadr G 0))] hG (by decide +kernel) rfl (Nat.le_of_ble_eq_true rfl) (Nat.le_of_ble_eq_true rfl) (by simp [lvA, lv_args, Value.category]) ?_
  intro X hX C
  refine wz_aload_n C rfl rfl dX12_heaviest_0 ?_
  refine wz_iconst C dX12_heaviest_1 ?_
  refine wd_putI C f_X12_heaviest_90 fp_X12_0 rfl dX12_heaviest_2 (fun I1 e => ?_)
  replace h := h I1 e
  refine wz_aload_n C rfl rfl dX12_heaviest_5 ?_
  refine wm_callV C (o := 0) (As := []) (st := []) (a' := 0) (b' := 0) rfl rfl (k_X12_heaviestNow G hG I1 J _ h) 0 gX12_heaviest_X12_heaviestNow rfl (by decide +kernel) (by rw [hX]; exact ⟨Nat.le_of_ble_eq_true rfl, Nat.le_of_ble_eq_true rfl⟩) rfl (Nat.le_of_ble_eq_true rfl) rfl rfl rfl dX12_heaviest_6 (kk_sI (fun v2 I2 J2 h => ?_))
  exact wz_iret C dX12_heaviest_9 ⟨_, rfl, h⟩
theorem in_X12_membersOf_X12 : ∀ w ∈ wsX120, w ∈ wsX12_membersOf := by decide +kernel
theorem f_X12_membersOf_26 : FLk wsX12_membersOf RX12 26 12 15 := flk 12 15 rfl tyX12_ok nmX12 in_X12_membersOf_X12 (by decide) (by decide +kernel)
def rm_X12_membersOf : Room := { frames := 1, cells := 0, slots := 0, locals := 21 }
set_option maxHeartbeats 4000000 in
set_option maxRecDepth 100000 in
theorem bk_X12_membersOf_29 (G : KG) (hG : Kok G) (X : KX) (hX : KR X = rm_X12_membersOf) (C : Fr G X cX12_membersOf 4 yX12_membersOf.cls (some .int) wsX12_membersOf) (l1 : Int) (Q : Int → Ii → Jj → Prop) (r4 : Int → Int → Ii → Jj → Prop) (w4 : ∀ (l2 : Int) (l3 : Int) (I : Ii) (J : Jj), r4 l2 l3 I J → Wz G X 4 (QsU G X (QsI Q)) 0 0 4 [some (.ref (kadr G 0)), some (.int (iZ l1)), some (.int (iZ l2)), some (.int (iZ l3))] [] I J) (l3 : Int) (t0 : Int) (t1 : Int) (I : Ii) (J : Jj) (h : B_X12_membersOf_29 l1 Q r4 l3 t0 t1 I J) : Wz G X 4 (QsU G X (QsI Q)) 0 0 29 [some (.ref (kadr G 0)), some (.int (iZ l1)), none, some (.int (iZ l3))] [.int (iZ t1), .int (iZ t0)] I J := by
  unfold B_X12_membersOf_29 at h
  refine wm_callS C (As := [.int (iZ t1)]) (st := [.int (iZ t0)]) (a' := 0) (b' := 0) (k_X12_truth G hG t1 I J _ h) 1 gX12_membersOf_X12_truth rfl (by decide +kernel) (by rw [hX]; exact ⟨Nat.le_of_ble_eq_true rfl, Nat.le_of_ble_eq_true rfl⟩) rfl (Nat.le_of_ble_eq_true rfl) rfl rfl rfl dX12_membersOf_29 (kk_sI (fun v6 I6 J6 h => ?_))
  refine wz_iload_n C rfl rfl dX12_membersOf_32 ?_
  refine wd_ishl C dX12_membersOf_33 ?_
  refine wd_ior C dX12_membersOf_34 ?_
  refine wz_istore_2 C rfl dX12_membersOf_35 ?_
  refine wz_iinc_3 C rfl dX12_membersOf_36 ?_
  refine wz_goto C dX12_membersOf_39 (tgt := 4) (by decide) ?_
  exact w4 (orZ t0 (shlZ v6 l3)) (l3 + 1) I6 J6 h
set_option maxHeartbeats 4000000 in
set_option maxRecDepth 100000 in
theorem lk_X12_membersOf_4 (G : KG) (hG : Kok G) (X : KX) (hX : KR X = rm_X12_membersOf) (C : Fr G X cX12_membersOf 4 yX12_membersOf.cls (some .int) wsX12_membersOf) (l1 : Int) (Q : Int → Ii → Jj → Prop) : ∀ (n : Nat) (l2 : Int) (l3 : Int) (I : Ii) (J : Jj), L_X12_membersOf_4 l1 Q n l2 l3 I J → Wz G X 4 (QsU G X (QsI Q)) 0 0 4 [some (.ref (kadr G 0)), some (.int (iZ l1)), some (.int (iZ l2)), some (.int (iZ l3))] [] I J := by
  intro n
  induction n with
  | zero => intro l2 l3 I J h; exact False.elim h
  | succ n w4 =>
    intro l2 l3 I J h
    have h : Lb_X12_membersOf_4 l1 Q (L_X12_membersOf_4 l1 Q n) l2 l3 I J := h
    unfold Lb_X12_membersOf_4 at h
    generalize L_X12_membersOf_4 l1 Q n = r4 at h w4
    refine wz_iload_n C rfl rfl dX12_membersOf_4 ?_
    refine wz_aload_n C rfl rfl dX12_membersOf_5 ?_
    refine wz_getR C (j := 2) f_X12_membersOf_26 rfl dX12_membersOf_6 ?_
    refine wz_iconst C dX12_membersOf_9 ?_
    refine wz_iaload C 0 (n := 350) rfl rfl (by decide) (by decide) rfl dX12_membersOf_10 ?_
    obtain ⟨g1, h⟩ := h
    obtain ⟨g2, h⟩ := h
    refine wz_icmp_ge C (tgt := 42) g1 g2 dX12_membersOf_11 (by decide) (fun c => ?_) (fun c => ?_)
    · replace h := h.1 c
      refine wz_iload_n C rfl rfl dX12_membersOf_42 ?_
      exact wz_iret C dX12_membersOf_43 ⟨_, rfl, h⟩
    · replace h := h.2 c
      refine wz_iload_n C rfl rfl dX12_membersOf_14 ?_
      refine wz_aload_n C rfl rfl dX12_membersOf_15 ?_
      refine wz_iload_n C rfl rfl dX12_membersOf_16 ?_
      refine wm_callV C (o := 0) (As := [.int (iZ l3)]) (st := [.int (iZ l2)]) (a' := 0) (b' := 0) rfl rfl (k_X12_groupAt G hG l3 I J _ h) 1 gX12_membersOf_X12_groupAt rfl (by decide +kernel) (by rw [hX]; exact ⟨Nat.le_of_ble_eq_true rfl, Nat.le_of_ble_eq_true rfl⟩) rfl (Nat.le_of_ble_eq_true rfl) rfl rfl rfl dX12_membersOf_17 (kk_sI (fun v3 I3 J3 h => ?_))
      refine wz_iload_n C rfl rfl dX12_membersOf_20 ?_
      obtain ⟨g4, h⟩ := h
      obtain ⟨g5, h⟩ := h
      refine wz_icmp_ne C (tgt := 28) g4 g5 dX12_membersOf_21 (by decide) (fun c => ?_) (fun c => ?_)
      · replace h := h.1 c
        refine wz_iconst C dX12_membersOf_28 ?_
        exact Wz.drop (bk_X12_membersOf_29 G hG X hX C l1 Q r4 w4 l3 l2 0 I3 J3 h) (And.intro rfl (And.intro rfl (And.intro rfl trivial)))
      · replace h := h.2 c
        refine wz_iconst C dX12_membersOf_24 ?_
        refine wz_goto C dX12_membersOf_25 (tgt := 29) (by decide) ?_
        exact Wz.drop (bk_X12_membersOf_29 G hG X hX C l1 Q r4 w4 l3 l2 1 I3 J3 h) (And.intro rfl (And.intro rfl (And.intro rfl trivial)))
set_option maxHeartbeats 4000000 in
set_option maxRecDepth 100000 in
theorem k_X12_membersOf (G : KG) (hG : Kok G) (l1 : Int) (I : Ii) (J : Jj) (Q : Int → Ii → Jj → Prop) (h : wp_X12_membersOf l1 I J Q) : Ctr G yX12_membersOf wsX12_membersOf rm_X12_membersOf [.ref (kadr G 0), .int (iZ l1)] (I, J) (QsI Q) := by
  unfold wp_X12_membersOf at h
  skip
  refine Ctr.ofZ (cc := cX12_membersOf) (nL := 4) (ret := (some .int)) [some (.ref (kadr G 0)), some (.int (iZ l1)), none, none] hG (by decide +kernel) rfl (Nat.le_of_ble_eq_true rfl) (Nat.le_of_ble_eq_true rfl) (by simp [lvA, lv_args, Value.category]) ?_
  intro X hX C
  refine wz_iconst C dX12_membersOf_0 ?_
  refine wz_istore_2 C rfl dX12_membersOf_1 ?_
  refine wz_iconst C dX12_membersOf_2 ?_
  refine wz_istore_3 C rfl dX12_membersOf_3 ?_
  obtain ⟨n, h⟩ := h
  exact lk_X12_membersOf_4 G hG X hX C l1 Q n 0 0 I J h
theorem in_X12_groupWeight_X12 : ∀ w ∈ wsX120, w ∈ wsX12_groupWeight := by decide +kernel
theorem f_X12_groupWeight_26 : FLk wsX12_groupWeight RX12 26 12 15 := flk 12 15 rfl tyX12_ok nmX12 in_X12_groupWeight_X12 (by decide) (by decide +kernel)
def rm_X12_groupWeight : Room := { frames := 1, cells := 0, slots := 0, locals := 21 }
set_option maxHeartbeats 4000000 in
set_option maxRecDepth 100000 in
theorem lk_X12_groupWeight_4 (G : KG) (hG : Kok G) (X : KX) (hX : KR X = rm_X12_groupWeight) (C : Fr G X cX12_groupWeight 4 yX12_groupWeight.cls (some .int) wsX12_groupWeight) (l1 : Int) (Q : Int → Ii → Jj → Prop) : ∀ (n : Nat) (l2 : Int) (l3 : Int) (I : Ii) (J : Jj), L_X12_groupWeight_4 l1 Q n l2 l3 I J → Wz G X 4 (QsU G X (QsI Q)) 0 0 4 [some (.ref (kadr G 0)), some (.int (iZ l1)), some (.int (iZ l2)), some (.int (iZ l3))] [] I J := by
  intro n
  induction n with
  | zero => intro l2 l3 I J h; exact False.elim h
  | succ n w4 =>
    intro l2 l3 I J h
    have h : Lb_X12_groupWeight_4 l1 Q (L_X12_groupWeight_4 l1 Q n) l2 l3 I J := h
    unfold Lb_X12_groupWeight_4 at h
    generalize L_X12_groupWeight_4 l1 Q n = r4 at h w4
    refine wz_iload_n C rfl rfl dX12_groupWeight_4 ?_
    refine wz_aload_n C rfl rfl dX12_groupWeight_5 ?_
    refine wz_getR C (j := 2) f_X12_groupWeight_26 rfl dX12_groupWeight_6 ?_
    refine wz_iconst C dX12_groupWeight_9 ?_
    refine wz_iaload C 0 (n := 350) rfl rfl (by decide) (by decide) rfl dX12_groupWeight_10 ?_
    obtain ⟨g1, h⟩ := h
    obtain ⟨g2, h⟩ := h
    refine wz_icmp_ge C (tgt := 45) g1 g2 dX12_groupWeight_11 (by decide) (fun c => ?_) (fun c => ?_)
    · replace h := h.1 c
      refine wz_iload_n C rfl rfl dX12_groupWeight_45 ?_
      exact wz_iret C dX12_groupWeight_46 ⟨_, rfl, h⟩
    · replace h := h.2 c
      refine wz_iload_n C rfl rfl dX12_groupWeight_14 ?_
      refine wz_aload_n C rfl rfl dX12_groupWeight_15 ?_
      refine wz_iload_n C rfl rfl dX12_groupWeight_16 ?_
      refine wm_callV C (o := 0) (As := [.int (iZ l3)]) (st := [.int (iZ l2)]) (a' := 0) (b' := 0) rfl rfl (k_X12_groupAt G hG l3 I J _ h) 1 gX12_groupWeight_X12_groupAt rfl (by decide +kernel) (by rw [hX]; exact ⟨Nat.le_of_ble_eq_true rfl, Nat.le_of_ble_eq_true rfl⟩) rfl (Nat.le_of_ble_eq_true rfl) rfl rfl rfl dX12_groupWeight_17 (kk_sI (fun v3 I3 J3 h => ?_))
      refine wz_iload_n C rfl rfl dX12_groupWeight_20 ?_
      obtain ⟨g4, h⟩ := h
      obtain ⟨g5, h⟩ := h
      refine wz_icmp_ne C (tgt := 36) g4 g5 dX12_groupWeight_21 (by decide) (fun c => ?_) (fun c => ?_)
      · replace h := h.1 c
        refine wz_iconst C dX12_groupWeight_36 ?_
        refine wz_iadd C dX12_groupWeight_37 ?_
        refine wz_istore_2 C rfl dX12_groupWeight_38 ?_
        refine wz_iinc_3 C rfl dX12_groupWeight_39 ?_
        refine wz_goto C dX12_groupWeight_42 (tgt := 4) (by decide) ?_
        exact w4 (l2 + 0) (l3 + 1) I3 J3 h
      · replace h := h.2 c
        refine wz_aload_n C rfl rfl dX12_groupWeight_24 ?_
        refine wz_getR C (j := 2) f_X12_groupWeight_26 rfl dX12_groupWeight_25 ?_
        refine wz_bipush C (by decide) dX12_groupWeight_28 ?_
        refine wz_iload_n C rfl rfl dX12_groupWeight_30 ?_
        refine wz_iadd C dX12_groupWeight_31 ?_
        obtain ⟨g6, h⟩ := h
        refine wz_iaload C ((7 + l3).toNat) (n := 350) rfl (zN g6) (zL g6) (by decide) rfl dX12_groupWeight_32 ?_
        refine wz_goto C dX12_groupWeight_33 (tgt := 37) (by decide) ?_
        refine wz_iadd C dX12_groupWeight_37 ?_
        refine wz_istore_2 C rfl dX12_groupWeight_38 ?_
        refine wz_iinc_3 C rfl dX12_groupWeight_39 ?_
        refine wz_goto C dX12_groupWeight_42 (tgt := 4) (by decide) ?_
        exact w4 (l2 + (I3 2 ((7 + l3).toNat))) (l3 + 1) I3 J3 h
set_option maxHeartbeats 4000000 in
set_option maxRecDepth 100000 in
theorem k_X12_groupWeight (G : KG) (hG : Kok G) (l1 : Int) (I : Ii) (J : Jj) (Q : Int → Ii → Jj → Prop) (h : wp_X12_groupWeight l1 I J Q) : Ctr G yX12_groupWeight wsX12_groupWeight rm_X12_groupWeight [.ref (kadr G 0), .int (iZ l1)] (I, J) (QsI Q) := by
  unfold wp_X12_groupWeight at h
  skip
  refine Ctr.ofZ (cc := cX12_groupWeight) (nL := 4) (ret := (some .int)) [some (.ref (kadr G 0)), some (.int (iZ l1)), none, none] hG (by decide +kernel) rfl (Nat.le_of_ble_eq_true rfl) (Nat.le_of_ble_eq_true rfl) (by simp [lvA, lv_args, Value.category]) ?_
  intro X hX C
  refine wz_iconst C dX12_groupWeight_0 ?_
  refine wz_istore_2 C rfl dX12_groupWeight_1 ?_
  refine wz_iconst C dX12_groupWeight_2 ?_
  refine wz_istore_3 C rfl dX12_groupWeight_3 ?_
  obtain ⟨n, h⟩ := h
  exact lk_X12_groupWeight_4 G hG X hX C l1 Q n 0 0 I J h
theorem in_X12_groupPart_X12 : ∀ w ∈ wsX120, w ∈ wsX12_groupPart := by decide +kernel
theorem f_X12_groupPart_26 : FLk wsX12_groupPart RX12 26 12 15 := flk 12 15 rfl tyX12_ok nmX12 in_X12_groupPart_X12 (by decide) (by decide +kernel)
def rm_X12_groupPart : Room := { frames := 1, cells := 0, slots := 0, locals := 21 }
set_option maxHeartbeats 4000000 in
set_option maxRecDepth 100000 in
theorem lk_X12_groupPart_2 (G : KG) (hG : Kok G) (X : KX) (hX : KR X = rm_X12_groupPart) (C : Fr G X cX12_groupPart 3 yX12_groupPart.cls (some .int) wsX12_groupPart) (l1 : Int) (Q : Int → Ii → Jj → Prop) : ∀ (n : Nat) (l2 : Int) (I : Ii) (J : Jj), L_X12_groupPart_2 l1 Q n l2 I J → Wz G X 3 (QsU G X (QsI Q)) 0 0 2 [some (.ref (kadr G 0)), some (.int (iZ l1)), some (.int (iZ l2))] [] I J := by
  intro n
  induction n with
  | zero => intro l2 I J h; exact False.elim h
  | succ n w2 =>
    intro l2 I J h
    have h : Lb_X12_groupPart_2 l1 Q (L_X12_groupPart_2 l1 Q n) l2 I J := h
    unfold Lb_X12_groupPart_2 at h
    generalize L_X12_groupPart_2 l1 Q n = r2 at h w2
    refine wz_aload_n C rfl rfl dX12_groupPart_2 ?_
    refine wz_iload_n C rfl rfl dX12_groupPart_3 ?_
    refine wm_callV C (o := 0) (As := [.int (iZ l2)]) (st := []) (a' := 0) (b' := 0) rfl rfl (k_X12_groupAt G hG l2 I J _ h) 1 gX12_groupPart_X12_groupAt rfl (by decide +kernel) (by rw [hX]; exact ⟨Nat.le_of_ble_eq_true rfl, Nat.le_of_ble_eq_true rfl⟩) rfl (Nat.le_of_ble_eq_true rfl) rfl rfl rfl dX12_groupPart_4 (kk_sI (fun v1 I1 J1 h => ?_))
    refine wz_iload_n C rfl rfl dX12_groupPart_7 ?_
    obtain ⟨g2, h⟩ := h
    obtain ⟨g3, h⟩ := h
    refine wz_icmp_eq C (tgt := 17) g2 g3 dX12_groupPart_8 (by decide) (fun c => ?_) (fun c => ?_)
    · replace h := h.1 c
      refine wz_aload_n C rfl rfl dX12_groupPart_17 ?_
      refine wz_getR C (j := 2) f_X12_groupPart_26 rfl dX12_groupPart_18 ?_
      refine wz_bipush C (by decide) dX12_groupPart_21 ?_
      refine wz_iload_n C rfl rfl dX12_groupPart_23 ?_
      refine wz_iadd C dX12_groupPart_24 ?_
      obtain ⟨g4, h⟩ := h
      refine wz_iaload C ((21 + l2).toNat) (n := 350) rfl (zN g4) (zL g4) (by decide) rfl dX12_groupPart_25 ?_
      exact wz_iret C dX12_groupPart_26 ⟨_, rfl, h⟩
    · replace h := h.2 c
      refine wz_iinc_2 C rfl dX12_groupPart_11 ?_
      refine wz_goto C dX12_groupPart_14 (tgt := 2) (by decide) ?_
      exact w2 (l2 + 1) I1 J1 h
set_option maxHeartbeats 4000000 in
set_option maxRecDepth 100000 in
theorem k_X12_groupPart (G : KG) (hG : Kok G) (l1 : Int) (I : Ii) (J : Jj) (Q : Int → Ii → Jj → Prop) (h : wp_X12_groupPart l1 I J Q) : Ctr G yX12_groupPart wsX12_groupPart rm_X12_groupPart [.ref (kadr G 0), .int (iZ l1)] (I, J) (QsI Q) := by
  unfold wp_X12_groupPart at h
  skip
  refine Ctr.ofZ (cc := cX12_groupPart) (nL := 3) (ret := (some .int)) [some (.ref (kadr G 0)), some (.int (iZ l1)), none] hG (by decide +kernel) rfl (Nat.le_of_ble_eq_true rfl) (Nat.le_of_ble_eq_true rfl) (by simp [lvA, lv_args, Value.category]) ?_
  intro X hX C
  refine wz_iconst C dX12_groupPart_0 ?_
  refine wz_istore_2 C rfl dX12_groupPart_1 ?_
  obtain ⟨n, h⟩ := h
  exact lk_X12_groupPart_2 G hG X hX C l1 Q n 0 I J h
theorem in_X12_joined_X12 : ∀ w ∈ wsX120, w ∈ wsX12_joined := by decide +kernel
theorem f_X12_joined_26 : FLk wsX12_joined RX12 26 12 15 := flk 12 15 rfl tyX12_ok nmX12 in_X12_joined_X12 (by decide) (by decide +kernel)
def rm_X12_joined : Room := { frames := 1, cells := 0, slots := 0, locals := 21 }
set_option maxHeartbeats 4000000 in
set_option maxRecDepth 100000 in
theorem bk_X12_joined_74 (G : KG) (hG : Kok G) (X : KX) (hX : KR X = rm_X12_joined) (C : Fr G X cX12_joined 7 yX12_joined.cls (some .int) wsX12_joined) (l1 : Int) (l2 : Int) (Q : Int → Ii → Jj → Prop) (r5 : Int → Int → Ii → Jj → Prop) (w5 : ∀ (l3 : Int) (l4 : Int) (I : Ii) (J : Jj), r5 l3 l4 I J → Wz G X 7 (QsU G X (QsI Q)) 0 0 5 [some (.ref (kadr G 0)), some (.int (iZ l1)), some (.int (iZ l2)), some (.int (iZ l3)), some (.int (iZ l4)), none, none] [] I J) (l4 : Int) (t0 : Int) (I : Ii) (J : Jj) (h : B_X12_joined_74 l1 l2 Q r5 l4 t0 I J) : Wz G X 7 (QsU G X (QsI Q)) 0 0 74 [some (.ref (kadr G 0)), some (.int (iZ l1)), some (.int (iZ l2)), none, some (.int (iZ l4)), none, none] [.int (iZ t0)] I J := by
  unfold B_X12_joined_74 at h
  refine wz_aload_n C rfl rfl dX12_joined_74 ?_
  refine wz_getR C (j := 2) f_X12_joined_26 rfl dX12_joined_75 ?_
  refine wz_sipush C (by decide) dX12_joined_78 ?_
  refine wz_iload C rfl dX12_joined_81 ?_
  refine wz_iadd C dX12_joined_83 ?_
  obtain ⟨g15, h⟩ := h
  refine wz_iaload C ((190 + l4).toNat) (n := 350) rfl (zN g15) (zL g15) (by decide) rfl dX12_joined_84 ?_
  refine wz_goto C dX12_joined_85 (tgt := 89) (by decide) ?_
  refine wz_iadd C dX12_joined_89 ?_
  refine wz_istore_3 C rfl dX12_joined_90 ?_
  refine wz_iinc_4 C rfl dX12_joined_91 ?_
  refine wz_goto C dX12_joined_94 (tgt := 5) (by decide) ?_
  exact w5 (t0 + (I 2 ((190 + l4).toNat))) (l4 + 1) I J h
set_option maxHeartbeats 4000000 in
set_option maxRecDepth 100000 in
theorem bk_X12_joined_62 (G : KG) (hG : Kok G) (X : KX) (hX : KR X = rm_X12_joined) (C : Fr G X cX12_joined 7 yX12_joined.cls (some .int) wsX12_joined) (l1 : Int) (l2 : Int) (Q : Int → Ii → Jj → Prop) (r5 : Int → Int → Ii → Jj → Prop) (w5 : ∀ (l3 : Int) (l4 : Int) (I : Ii) (J : Jj), r5 l3 l4 I J → Wz G X 7 (QsU G X (QsI Q)) 0 0 5 [some (.ref (kadr G 0)), some (.int (iZ l1)), some (.int (iZ l2)), some (.int (iZ l3)), some (.int (iZ l4)), none, none] [] I J) (l4 : Int) (l5 : Int) (l6 : Int) (t0 : Int) (I : Ii) (J : Jj) (h : B_X12_joined_62 l1 l2 Q r5 l4 l5 l6 t0 I J) : Wz G X 7 (QsU G X (QsI Q)) 0 0 62 [some (.ref (kadr G 0)), some (.int (iZ l1)), some (.int (iZ l2)), none, some (.int (iZ l4)), some (.int (iZ l5)), some (.int (iZ l6))] [.int (iZ t0)] I J := by
  unfold B_X12_joined_62 at h
  refine wz_iload C rfl dX12_joined_62 ?_
  refine wz_iload_n C rfl rfl dX12_joined_64 ?_
  obtain ⟨g11, h⟩ := h
  obtain ⟨g12, h⟩ := h
  refine wz_icmp_ne C (tgt := 88) g11 g12 dX12_joined_65 (by decide) (fun c => ?_) (fun c => ?_)
  · replace h := h.1 c
    refine wz_iconst C dX12_joined_88 ?_
    refine wz_iadd C dX12_joined_89 ?_
    refine wz_istore_3 C rfl dX12_joined_90 ?_
    refine wz_iinc_4 C rfl dX12_joined_91 ?_
    refine wz_goto C dX12_joined_94 (tgt := 5) (by decide) ?_
    exact Wz.drop (w5 (t0 + 0) (l4 + 1) I J h) (And.intro rfl (And.intro rfl (And.intro rfl (And.intro rfl (And.intro rfl trivial)))))
  · replace h := h.2 c
    refine wz_iload C rfl dX12_joined_68 ?_
    refine wz_iload_n C rfl rfl dX12_joined_70 ?_
    obtain ⟨g13, h⟩ := h
    obtain ⟨g14, h⟩ := h
    refine wz_icmp_ne C (tgt := 88) g13 g14 dX12_joined_71 (by decide) (fun c => ?_) (fun c => ?_)
    · replace h := h.1 c
      refine wz_iconst C dX12_joined_88 ?_
      refine wz_iadd C dX12_joined_89 ?_
      refine wz_istore_3 C rfl dX12_joined_90 ?_
      refine wz_iinc_4 C rfl dX12_joined_91 ?_
      refine wz_goto C dX12_joined_94 (tgt := 5) (by decide) ?_
      exact Wz.drop (w5 (t0 + 0) (l4 + 1) I J h) (And.intro rfl (And.intro rfl (And.intro rfl (And.intro rfl (And.intro rfl trivial)))))
    · replace h := h.2 c
      exact Wz.drop (bk_X12_joined_74 G hG X hX C l1 l2 Q r5 w5 l4 t0 I J h) (And.intro rfl (And.intro rfl (And.intro rfl (And.intro rfl trivial))))
set_option maxHeartbeats 4000000 in
set_option maxRecDepth 100000 in
theorem lk_X12_joined_5 (G : KG) (hG : Kok G) (X : KX) (hX : KR X = rm_X12_joined) (C : Fr G X cX12_joined 7 yX12_joined.cls (some .int) wsX12_joined) (l1 : Int) (l2 : Int) (Q : Int → Ii → Jj → Prop) : ∀ (n : Nat) (l3 : Int) (l4 : Int) (I : Ii) (J : Jj), L_X12_joined_5 l1 l2 Q n l3 l4 I J → Wz G X 7 (QsU G X (QsI Q)) 0 0 5 [some (.ref (kadr G 0)), some (.int (iZ l1)), some (.int (iZ l2)), some (.int (iZ l3)), some (.int (iZ l4)), none, none] [] I J := by
  intro n
  induction n with
  | zero => intro l3 l4 I J h; exact False.elim h
  | succ n w5 =>
    intro l3 l4 I J h
    have h : Lb_X12_joined_5 l1 l2 Q (L_X12_joined_5 l1 l2 Q n) l3 l4 I J := h
    unfold Lb_X12_joined_5 at h
    generalize L_X12_joined_5 l1 l2 Q n = r5 at h w5
    refine wz_iload C rfl dX12_joined_5 ?_
    refine wz_aload_n C rfl rfl dX12_joined_7 ?_
    refine wz_getR C (j := 2) f_X12_joined_26 rfl dX12_joined_8 ?_
    refine wz_iconst C dX12_joined_11 ?_
    refine wz_iaload C 1 (n := 350) rfl rfl (by decide) (by decide) rfl dX12_joined_12 ?_
    obtain ⟨g1, h⟩ := h
    obtain ⟨g2, h⟩ := h
    refine wz_icmp_ge C (tgt := 97) g1 g2 dX12_joined_13 (by decide) (fun c => ?_) (fun c => ?_)
    · replace h := h.1 c
      refine wz_iload_n C rfl rfl dX12_joined_97 ?_
      exact wz_iret C dX12_joined_98 ⟨_, rfl, h⟩
    · replace h := h.2 c
      refine wz_aload_n C rfl rfl dX12_joined_16 ?_
      refine wz_aload_n C rfl rfl dX12_joined_17 ?_
      refine wz_getR C (j := 2) f_X12_joined_26 rfl dX12_joined_18 ?_
      refine wz_bipush C (by decide) dX12_joined_21 ?_
      refine wz_iload C rfl dX12_joined_23 ?_
      refine wz_iadd C dX12_joined_25 ?_
      obtain ⟨g3, h⟩ := h
      refine wz_iaload C ((110 + l4).toNat) (n := 350) rfl (zN g3) (zL g3) (by decide) rfl dX12_joined_26 ?_
      refine wm_callV C (o := 0) (As := [.int (iZ (I 2 ((110 + l4).toNat)))]) (st := []) (a' := 0) (b' := 0) rfl rfl (k_X12_groupAt G hG (I 2 ((110 + l4).toNat)) I J _ h) 1 gX12_joined_X12_groupAt rfl (by decide +kernel) (by rw [hX]; exact ⟨Nat.le_of_ble_eq_true rfl, Nat.le_of_ble_eq_true rfl⟩) rfl (Nat.le_of_ble_eq_true rfl) rfl rfl rfl dX12_joined_27 (kk_sI (fun v4 I4 J4 h => ?_))
      refine wz_istore_5 C rfl dX12_joined_30 ?_
      refine wz_aload_n C rfl rfl dX12_joined_32 ?_
      refine wz_aload_n C rfl rfl dX12_joined_33 ?_
      refine wz_getR C (j := 2) f_X12_joined_26 rfl dX12_joined_34 ?_
      refine wz_sipush C (by decide) dX12_joined_37 ?_
      refine wz_iload C rfl dX12_joined_40 ?_
      refine wz_iadd C dX12_joined_42 ?_
      obtain ⟨g5, h⟩ := h
      refine wz_iaload C ((150 + l4).toNat) (n := 350) rfl (zN g5) (zL g5) (by decide) rfl dX12_joined_43 ?_
      refine wm_callV C (o := 0) (As := [.int (iZ (I4 2 ((150 + l4).toNat)))]) (st := []) (a' := 0) (b' := 0) rfl rfl (k_X12_groupAt G hG (I4 2 ((150 + l4).toNat)) I4 J4 _ h) 1 gX12_joined_X12_groupAt rfl (by decide +kernel) (by rw [hX]; exact ⟨Nat.le_of_ble_eq_true rfl, Nat.le_of_ble_eq_true rfl⟩) rfl (Nat.le_of_ble_eq_true rfl) rfl rfl rfl dX12_joined_44 (kk_sI (fun v6 I6 J6 h => ?_))
      refine wz_istore_6 C rfl dX12_joined_47 ?_
      refine wz_iload_n C rfl rfl dX12_joined_49 ?_
      refine wz_iload C rfl dX12_joined_50 ?_
      refine wz_iload_n C rfl rfl dX12_joined_52 ?_
      obtain ⟨g7, h⟩ := h
      obtain ⟨g8, h⟩ := h
      refine wz_icmp_ne C (tgt := 62) g7 g8 dX12_joined_53 (by decide) (fun c => ?_) (fun c => ?_)
      · replace h := h.1 c
        exact Wz.drop (bk_X12_joined_62 G hG X hX C l1 l2 Q r5 w5 l4 v4 v6 l3 I6 J6 h) (And.intro rfl (And.intro rfl (And.intro rfl (And.intro rfl (And.intro rfl (And.intro rfl trivial))))))
      · replace h := h.2 c
        refine wz_iload C rfl dX12_joined_56 ?_
        refine wz_iload_n C rfl rfl dX12_joined_58 ?_
        obtain ⟨g9, h⟩ := h
        obtain ⟨g10, h⟩ := h
        refine wz_icmp_eq C (tgt := 74) g9 g10 dX12_joined_59 (by decide) (fun c => ?_) (fun c => ?_)
        · replace h := h.1 c
          exact Wz.drop (bk_X12_joined_74 G hG X hX C l1 l2 Q r5 w5 l4 l3 I6 J6 h) (And.intro rfl (And.intro rfl (And.intro rfl (And.intro rfl trivial))))
        · replace h := h.2 c
          exact Wz.drop (bk_X12_joined_62 G hG X hX C l1 l2 Q r5 w5 l4 v4 v6 l3 I6 J6 h) (And.intro rfl (And.intro rfl (And.intro rfl (And.intro rfl (And.intro rfl (And.intro rfl trivial))))))
set_option maxHeartbeats 4000000 in
set_option maxRecDepth 100000 in
theorem k_X12_joined (G : KG) (hG : Kok G) (l1 : Int) (l2 : Int) (I : Ii) (J : Jj) (Q : Int → Ii → Jj → Prop) (h : wp_X12_joined l1 l2 I J Q) : Ctr G yX12_joined wsX12_joined rm_X12_joined [.ref (kadr G 0), .int (iZ l1), .int (iZ l2)] (I, J) (QsI Q) := by
  unfold wp_X12_joined at h
  skip
  refine Ctr.ofZ (cc := cX12_joined) (nL := 7) (ret := (some .int)) [some (.ref (kadr G 0)), some (.int (iZ l1)), some (.int (iZ l2)), none, none, none, none] hG (by decide +kernel) rfl (Nat.le_of_ble_eq_true rfl) (Nat.le_of_ble_eq_true rfl) (by simp [lvA, lv_args, Value.category]) ?_
  intro X hX C
  refine wz_iconst C dX12_joined_0 ?_
  refine wz_istore_3 C rfl dX12_joined_1 ?_
  refine wz_iconst C dX12_joined_2 ?_
  refine wz_istore_4 C rfl dX12_joined_3 ?_
  obtain ⟨n, h⟩ := h
  exact lk_X12_joined_5 G hG X hX C l1 l2 Q n 0 0 I J h
def rm_X12_group : Room := { frames := 2, cells := 0, slots := 0, locals := 46 }
set_option maxHeartbeats 4000000 in
set_option maxRecDepth 100000 in
theorem k_X12_group (G : KG) (hG : Kok G) (l1 : Int) (l2 : Int) (I : Ii) (J : Jj) (Q : Int → Ii → Jj → Prop) (h : wp_X12_group l1 l2 I J Q) : Ctr G yX12_group wsX12_group rm_X12_group [.ref (kadr G 0), .int (iZ l1), .int (iZ l2)] (I, J) (QsI Q) := by
  unfold wp_X12_group at h
  skip
  refine Ctr.ofZ (cc := cX12_group) (nL := 3) (ret := (some .int)) [some (.ref (kadr G 0)), some (.int (iZ l1)), some (.int (iZ l2))] hG (by decide +kernel) rfl (Nat.le_of_ble_eq_true rfl) (Nat.le_of_ble_eq_true rfl) (by simp [lvA, lv_args, Value.category]) ?_
  intro X hX C
  refine wz_aload_n C rfl rfl dX12_group_0 ?_
  refine wz_aload_n C rfl rfl dX12_group_1 ?_
  refine wz_iload_n C rfl rfl dX12_group_2 ?_
  refine wm_callV C (o := 0) (As := [.int (iZ l1)]) (st := [.ref (kadr G 0)]) (a' := 0) (b' := 0) rfl rfl (k_X12_isGroup G hG l1 I J _ h) 1 gX12_group_X12_isGroup rfl (by decide +kernel) (by rw [hX]; exact ⟨Nat.le_of_ble_eq_true rfl, Nat.le_of_ble_eq_true rfl⟩) rfl (Nat.le_of_ble_eq_true rfl) rfl rfl rfl dX12_group_3 (kk_sB (fun v1 I1 J1 hb1 h => ?_))
  refine wz_iload_n C rfl rfl dX12_group_6 ?_
  refine wd_i2l C dX12_group_7 ?_
  refine wz_lconst C (v := lZ 0) (by decide) dX12_group_8 ?_
  refine wz_ldc2_w C (v := lZ 3) (by decide +kernel) dX12_group_9 ?_
  refine wm_callS C (As := [.long (i2lZ l2), .long (lZ 0), .long (lZ 3)]) (st := [.int (iZ v1), .ref (kadr G 0)]) (a' := 0) (b' := 0) (k_X12_isIn G hG (i2lZ l2) (lZ 0) (lZ 3) I1 J1 _ h) 3 gX12_group_X12_isIn rfl (by decide +kernel) (by rw [hX]; exact ⟨Nat.le_of_ble_eq_true rfl, Nat.le_of_ble_eq_true rfl⟩) rfl (Nat.le_of_ble_eq_true rfl) rfl rfl rfl dX12_group_12 (kk_sB (fun v2 I2 J2 hb2 h => ?_))
  refine wm_callV C (o := 0) (As := [.int (iZ v1), .int (iZ v2)]) (st := []) (a' := 0) (b' := 0) rfl rfl (k_X12_goesBoth G hG v1 v2 I2 J2 _ h) 2 gX12_group_X12_goesBoth rfl (by decide +kernel) (by rw [hX]; exact ⟨Nat.le_of_ble_eq_true rfl, Nat.le_of_ble_eq_true rfl⟩) rfl (Nat.le_of_ble_eq_true rfl) rfl rfl rfl dX12_group_15 (kk_sB (fun v3 I3 J3 hb3 h => ?_))
  refine wz_if_ne C (tgt := 23) (rgB hb3) dX12_group_18 (by decide) (fun c => ?_) (fun c => ?_)
  · replace h := h.1 c
    refine wz_iload_n C rfl rfl dX12_group_23 ?_
    obtain ⟨g4, h⟩ := h
    have c : (l2 < 0 ∨ 2 < l2) ∨ l2 = 0 ∨ l2 = 1 ∨ l2 = 2 := by omega
    rcases c with c | c | c | c
    · replace h := h.1 c
      refine wz_tableOut C (tgt := 70) g4 dX12_group_24 c (by decide) ?_
      refine wz_aload_n C rfl rfl dX12_group_70 ?_
      refine wz_aload_n C rfl rfl dX12_group_71 ?_
      refine wz_iload_n C rfl rfl dX12_group_72 ?_
      refine wm_callV C (o := 0) (As := [.int (iZ l1)]) (st := [.ref (kadr G 0)]) (a' := 0) (b' := 0) rfl rfl (k_X12_membersOf G hG l1 I3 J3 _ h) 1 gX12_group_X12_membersOf rfl (by decide +kernel) (by rw [hX]; exact ⟨Nat.le_of_ble_eq_true rfl, Nat.le_of_ble_eq_true rfl⟩) rfl (Nat.le_of_ble_eq_true rfl) rfl rfl rfl dX12_group_73 (kk_sI (fun v5 I5 J5 h => ?_))
      refine wm_callV C (o := 0) (As := [.int (iZ v5)]) (st := []) (a' := 0) (b' := 0) rfl rfl (k_X12_outOf G hG v5 I5 J5 _ h) 1 gX12_group_X12_outOf rfl (by decide +kernel) (by rw [hX]; exact ⟨Nat.le_of_ble_eq_true rfl, Nat.le_of_ble_eq_true rfl⟩) rfl (Nat.le_of_ble_eq_true rfl) rfl rfl rfl dX12_group_76 (kk_sI (fun v6 I6 J6 h => ?_))
      exact wz_iret C dX12_group_79 ⟨_, rfl, h⟩
    · replace h := h.2.1 c
      refine wz_tableIn C (v := 0) (tgt := 52) c dX12_group_24 (by decide) rfl (by decide) ?_
      refine wz_aload_n C rfl rfl dX12_group_52 ?_
      refine wz_iload_n C rfl rfl dX12_group_53 ?_
      refine wm_callV C (o := 0) (As := [.int (iZ l1)]) (st := []) (a' := 0) (b' := 0) rfl rfl (k_X12_membersOf G hG l1 I3 J3 _ h) 1 gX12_group_X12_membersOf rfl (by decide +kernel) (by rw [hX]; exact ⟨Nat.le_of_ble_eq_true rfl, Nat.le_of_ble_eq_true rfl⟩) rfl (Nat.le_of_ble_eq_true rfl) rfl rfl rfl dX12_group_54 (kk_sI (fun v7 I7 J7 h => ?_))
      exact wz_iret C dX12_group_57 ⟨_, rfl, h⟩
    · replace h := h.2.2.1 c
      refine wz_tableIn C (v := 1) (tgt := 58) c dX12_group_24 (by decide) rfl (by decide) ?_
      refine wz_aload_n C rfl rfl dX12_group_58 ?_
      refine wz_iload_n C rfl rfl dX12_group_59 ?_
      refine wm_callV C (o := 0) (As := [.int (iZ l1)]) (st := []) (a' := 0) (b' := 0) rfl rfl (k_X12_groupWeight G hG l1 I3 J3 _ h) 1 gX12_group_X12_groupWeight rfl (by decide +kernel) (by rw [hX]; exact ⟨Nat.le_of_ble_eq_true rfl, Nat.le_of_ble_eq_true rfl⟩) rfl (Nat.le_of_ble_eq_true rfl) rfl rfl rfl dX12_group_60 (kk_sI (fun v8 I8 J8 h => ?_))
      exact wz_iret C dX12_group_63 ⟨_, rfl, h⟩
    · replace h := h.2.2.2 c
      refine wz_tableIn C (v := 2) (tgt := 64) c dX12_group_24 (by decide) rfl (by decide) ?_
      refine wz_aload_n C rfl rfl dX12_group_64 ?_
      refine wz_iload_n C rfl rfl dX12_group_65 ?_
      refine wm_callV C (o := 0) (As := [.int (iZ l1)]) (st := []) (a' := 0) (b' := 0) rfl rfl (k_X12_groupPart G hG l1 I3 J3 _ h) 1 gX12_group_X12_groupPart rfl (by decide +kernel) (by rw [hX]; exact ⟨Nat.le_of_ble_eq_true rfl, Nat.le_of_ble_eq_true rfl⟩) rfl (Nat.le_of_ble_eq_true rfl) rfl rfl rfl dX12_group_66 (kk_sI (fun v9 I9 J9 h => ?_))
      exact wz_iret C dX12_group_69 ⟨_, rfl, h⟩
  · replace h := h.2 c
    refine wz_iconst C dX12_group_21 ?_
    exact wz_iret C dX12_group_22 ⟨_, rfl, h⟩
