theorem in_X12_outOf_X12 : ∀ w ∈ wsX120, w ∈ wsX12_outOf := by decide +kernel
theorem f_X12_outOf_26 : FLk wsX12_outOf RX12 26 12 15 := flk 12 15 rfl tyX12_ok nmX12 in_X12_outOf_X12 (by decide) (by decide +kernel)
def rm_X12_outOf : Room := { frames := 1, cells := 0, slots := 0, locals := 21 }
set_option maxHeartbeats 4000000 in
set_option maxRecDepth 100000 in
theorem lk_X12_outOf_4 (G : KG) (hG : Kok G) (X : KX) (hX : KR X = rm_X12_outOf) (C : Fr G X cX12_outOf 4 yX12_outOf.cls (some .int) wsX12_outOf) (l1 : Int) (Q : Int → Ii → Jj → Prop) : ∀ (n : Nat) (l2 : Int) (l3 : Int) (I : Ii) (J : Jj), L_X12_outOf_4 l1 Q n l2 l3 I J → Wz G X 4 (QsU G X (QsI Q)) 0 0 4 [some (.ref (kadr G 0)), some (.int (iZ l1)), some (.int (iZ l2)), some (.int (iZ l3))] [] I J := by
  intro n
  induction n with
  | zero => intro l2 l3 I J h; exact False.elim h
  | succ n w4 =>
    intro l2 l3 I J h
    have h : Lb_X12_outOf_4 l1 Q (L_X12_outOf_4 l1 Q n) l2 l3 I J := h
    unfold Lb_X12_outOf_4 at h
    generalize L_X12_outOf_4 l1 Q n = r4 at h w4
    refine wz_iload_n C rfl rfl dX12_outOf_4 ?_
    refine wz_aload_n C rfl rfl dX12_outOf_5 ?_
    refine wz_getR C (j := 2) f_X12_outOf_26 rfl dX12_outOf_6 ?_
    refine wz_iconst C dX12_outOf_9 ?_
    refine wz_iaload C 1 (n := 350) rfl rfl (by decide) (by decide) rfl dX12_outOf_10 ?_
    obtain ⟨g1, h⟩ := h
    obtain ⟨g2, h⟩ := h
    refine wz_icmp_ge C (tgt := 67) g1 g2 dX12_outOf_11 (by decide) (fun c => ?_) (fun c => ?_)
    · replace h := h.1 c
      refine wz_iload_n C rfl rfl dX12_outOf_67 ?_
      exact wz_iret C dX12_outOf_68 ⟨_, rfl, h⟩
    · replace h := h.2 c
      refine wz_iload_n C rfl rfl dX12_outOf_14 ?_
      refine wz_iload_n C rfl rfl dX12_outOf_15 ?_
      refine wz_aload_n C rfl rfl dX12_outOf_16 ?_
      refine wz_getR C (j := 2) f_X12_outOf_26 rfl dX12_outOf_17 ?_
      refine wz_bipush C (by decide) dX12_outOf_20 ?_
      refine wz_iload_n C rfl rfl dX12_outOf_22 ?_
      refine wz_iadd C dX12_outOf_23 ?_
      obtain ⟨g3, h⟩ := h
      refine wz_iaload C ((110 + l3).toNat) (n := 350) rfl (zN g3) (zL g3) (by decide) rfl dX12_outOf_24 ?_
      refine wm_callS C (As := [.int (iZ l1), .int (iZ (I 2 ((110 + l3).toNat)))]) (st := [.int (iZ l2)]) (a' := 0) (b' := 0) (k_X12_hasBit G hG l1 (I 2 ((110 + l3).toNat)) I J _ h) 2 gX12_outOf_X12_hasBit rfl (by decide +kernel) (by rw [hX]; exact ⟨Nat.le_of_ble_eq_true rfl, Nat.le_of_ble_eq_true rfl⟩) rfl (Nat.le_of_ble_eq_true rfl) rfl rfl rfl dX12_outOf_25 (kk_sB (fun v4 I4 J4 hb4 h => ?_))
      refine wz_iload_n C rfl rfl dX12_outOf_28 ?_
      refine wz_aload_n C rfl rfl dX12_outOf_29 ?_
      refine wz_getR C (j := 2) f_X12_outOf_26 rfl dX12_outOf_30 ?_
      refine wz_sipush C (by decide) dX12_outOf_33 ?_
      refine wz_iload_n C rfl rfl dX12_outOf_36 ?_
      refine wz_iadd C dX12_outOf_37 ?_
      obtain ⟨g5, h⟩ := h
      refine wz_iaload C ((150 + l3).toNat) (n := 350) rfl (zN g5) (zL g5) (by decide) rfl dX12_outOf_38 ?_
      refine wm_callS C (As := [.int (iZ l1), .int (iZ (I4 2 ((150 + l3).toNat)))]) (st := [.int (iZ v4), .int (iZ l2)]) (a' := 0) (b' := 0) (k_X12_hasBit G hG l1 (I4 2 ((150 + l3).toNat)) I4 J4 _ h) 2 gX12_outOf_X12_hasBit rfl (by decide +kernel) (by rw [hX]; exact ⟨Nat.le_of_ble_eq_true rfl, Nat.le_of_ble_eq_true rfl⟩) rfl (Nat.le_of_ble_eq_true rfl) rfl rfl rfl dX12_outOf_39 (kk_sB (fun v6 I6 J6 hb6 h => ?_))
      refine wz_icmp_eq C (tgt := 58) (rgB hb4) (rgB hb6) dX12_outOf_42 (by decide) (fun c => ?_) (fun c => ?_)
      · replace h := h.1 c
        refine wz_iconst C dX12_outOf_58 ?_
        refine wz_iadd C dX12_outOf_59 ?_
        refine wz_istore_2 C rfl dX12_outOf_60 ?_
        refine wz_iinc_3 C rfl dX12_outOf_61 ?_
        refine wz_goto C dX12_outOf_64 (tgt := 4) (by decide) ?_
        exact w4 (l2 + 0) (l3 + 1) I6 J6 h
      · replace h := h.2 c
        refine wz_aload_n C rfl rfl dX12_outOf_45 ?_
        refine wz_getR C (j := 2) f_X12_outOf_26 rfl dX12_outOf_46 ?_
        refine wz_sipush C (by decide) dX12_outOf_49 ?_
        refine wz_iload_n C rfl rfl dX12_outOf_52 ?_
        refine wz_iadd C dX12_outOf_53 ?_
        obtain ⟨g7, h⟩ := h
        refine wz_iaload C ((190 + l3).toNat) (n := 350) rfl (zN g7) (zL g7) (by decide) rfl dX12_outOf_54 ?_
        refine wz_goto C dX12_outOf_55 (tgt := 59) (by decide) ?_
        refine wz_iadd C dX12_outOf_59 ?_
        refine wz_istore_2 C rfl dX12_outOf_60 ?_
        refine wz_iinc_3 C rfl dX12_outOf_61 ?_
        refine wz_goto C dX12_outOf_64 (tgt := 4) (by decide) ?_
        exact w4 (l2 + (I6 2 ((190 + l3).toNat))) (l3 + 1) I6 J6 h
set_option maxHeartbeats 4000000 in
set_option maxRecDepth 100000 in
theorem k_X12_outOf (G : KG) (hG : Kok G) (l1 : Int) (I : Ii) (J : Jj) (Q : Int → Ii → Jj → Prop) (h : wp_X12_outOf l1 I J Q) : Ctr G yX12_outOf wsX12_outOf rm_X12_outOf [.ref (kadr G 0), .int (iZ l1)] (I, J) (QsI Q) := by
  unfold wp_X12_outOf at h
  skip
  refine Ctr.ofZ (cc := cX12_outOf) (nL := 4) (ret := (some .int)) [some (.ref (kadr G 0)), some (.int (iZ l1)), none, none] hG (by decide +kernel) rfl (Nat.le_of_ble_eq_true rfl) (Nat.le_of_ble_eq_true rfl) (by simp [lvA, lv_args, Value.category]) ?_
  intro X hX C
  refine wz_iconst C dX12_outOf_0 ?_
  refine wz_istore_2 C rfl dX12_outOf_1 ?_
  refine wz_iconst C dX12_outOf_2 ?_
  refine wz_istore_3 C rfl dX12_outOf_3 ?_
  obtain ⟨n, h⟩ := h
  exact lk_X12_outOf_4 G hG X hX C l1 Q n 0 0 I J h
theorem in_X12_flows_X12 : ∀ w ∈ wsX120, w ∈ wsX12_flows := by decide +kernel
theorem f_X12_flows_283 : FLk wsX12_flows RX12 283 12 26 := flk 12 26 rfl tyX12_ok nmX12 in_X12_flows_X12 (by decide) (by decide +kernel)
theorem fp_X12_26 : FPk 12 26 .int := fun C9 T9 N9 h => by
  have h : some (RX12, TX12, 48) = some (C9, T9, N9) := h
  cases h
  exact ⟨rfl, by decide +kernel⟩
theorem f_X12_flows_286 : FLk wsX12_flows RX12 286 12 27 := flk 12 27 rfl tyX12_ok nmX12 in_X12_flows_X12 (by decide) (by decide +kernel)
theorem fp_X12_27 : FPk 12 27 .int := fun C9 T9 N9 h => by
  have h : some (RX12, TX12, 48) = some (C9, T9, N9) := h
  cases h
  exact ⟨rfl, by decide +kernel⟩
def rm_X12_flows : Room := { frames := 2, cells := 0, slots := 0, locals := 44 }
set_option maxHeartbeats 4000000 in
set_option maxRecDepth 100000 in
theorem bk_X12_flows_63 (G : KG) (hG : Kok G) (X : KX) (hX : KR X = rm_X12_flows) (C : Fr G X cX12_flows 5 yX12_flows.cls none wsX12_flows) (l1 : Int) (l2 : Int) (Q : Ii → Jj → Prop) (r12 : Int → Ii → Jj → Prop) (w12 : ∀ (l3 : Int) (I : Ii) (J : Jj), r12 l3 I J → Wz G X 5 (QsU G X (QsV Q)) 0 0 12 [some (.ref (kadr G 0)), some (.int (iZ l1)), some (.int (iZ l2)), some (.int (iZ l3)), none] [] I J) (l3 : Int) (l4 : Int) (I : Ii) (J : Jj) (h : B_X12_flows_63 l1 l2 Q r12 l3 l4 I J) : Wz G X 5 (QsU G X (QsV Q)) 0 0 63 [some (.ref (kadr G 0)), some (.int (iZ l1)), some (.int (iZ l2)), some (.int (iZ l3)), some (.int (iZ l4))] [] I J := by
  unfold B_X12_flows_63 at h
  refine wz_aload_n C rfl rfl dX12_flows_63 ?_
  refine wz_iload C rfl dX12_flows_64 ?_
  refine wd_putI C f_X12_flows_283 fp_X12_26 rfl dX12_flows_66 (fun I12 e => ?_)
  replace h := h I12 e
  refine wz_aload_n C rfl rfl dX12_flows_69 ?_
  refine wz_iload_n C rfl rfl dX12_flows_70 ?_
  refine wd_putI C f_X12_flows_286 fp_X12_27 rfl dX12_flows_71 (fun I13 e => ?_)
  replace h := h I13 e
  refine wz_goto C dX12_flows_74 (tgt := 96) (by decide) ?_
  refine wz_iinc_3 C rfl dX12_flows_96 ?_
  refine wz_goto C dX12_flows_99 (tgt := 12) (by decide) ?_
  exact Wz.drop (w12 (l3 + 1) I13 J h) (And.intro rfl (And.intro rfl (And.intro rfl (And.intro rfl trivial))))
set_option maxHeartbeats 4000000 in
set_option maxRecDepth 100000 in
theorem lk_X12_flows_12 (G : KG) (hG : Kok G) (X : KX) (hX : KR X = rm_X12_flows) (C : Fr G X cX12_flows 5 yX12_flows.cls none wsX12_flows) (l1 : Int) (l2 : Int) (Q : Ii → Jj → Prop) : ∀ (n : Nat) (l3 : Int) (I : Ii) (J : Jj), L_X12_flows_12 l1 l2 Q n l3 I J → Wz G X 5 (QsU G X (QsV Q)) 0 0 12 [some (.ref (kadr G 0)), some (.int (iZ l1)), some (.int (iZ l2)), some (.int (iZ l3)), none] [] I J := by
  intro n
  induction n with
  | zero => intro l3 I J h; exact False.elim h
  | succ n w12 =>
    intro l3 I J h
    have h : Lb_X12_flows_12 l1 l2 Q (L_X12_flows_12 l1 l2 Q n) l3 I J := h
    unfold Lb_X12_flows_12 at h
    generalize L_X12_flows_12 l1 l2 Q n = r12 at h w12
    refine wz_iload_n C rfl rfl dX12_flows_12 ?_
    refine wz_aload_n C rfl rfl dX12_flows_13 ?_
    refine wm_callV C (o := 0) (As := []) (st := [.int (iZ l3)]) (a' := 0) (b' := 0) rfl rfl (k_X12_everything G hG I J _ h) 0 gX12_flows_X12_everything rfl (by decide +kernel) (by rw [hX]; exact ⟨Nat.le_of_ble_eq_true rfl, Nat.le_of_ble_eq_true rfl⟩) rfl (Nat.le_of_ble_eq_true rfl) rfl rfl rfl dX12_flows_14 (kk_sI (fun v3 I3 J3 h => ?_))
    obtain ⟨g4, h⟩ := h
    obtain ⟨g5, h⟩ := h
    refine wz_icmp_gt C (tgt := 102) g4 g5 dX12_flows_17 (by decide) (fun c => ?_) (fun c => ?_)
    · replace h := h.1 c
      exact wz_vret C dX12_flows_102 ⟨rfl, h⟩
    · replace h := h.2 c
      refine wz_iload_n C rfl rfl dX12_flows_20 ?_
      refine wz_iload_n C rfl rfl dX12_flows_21 ?_
      refine wm_callS C (As := [.int (iZ l3), .int (iZ l1)]) (st := []) (a' := 0) (b' := 0) (k_X12_hasBit G hG l3 l1 I3 J3 _ h) 2 gX12_flows_X12_hasBit rfl (by decide +kernel) (by rw [hX]; exact ⟨Nat.le_of_ble_eq_true rfl, Nat.le_of_ble_eq_true rfl⟩) rfl (Nat.le_of_ble_eq_true rfl) rfl rfl rfl dX12_flows_22 (kk_sB (fun v6 I6 J6 hb6 h => ?_))
      refine wz_if_eq C (tgt := 96) (rgB hb6) dX12_flows_25 (by decide) (fun c => ?_) (fun c => ?_)
      · replace h := h.1 c
        refine wz_iinc_3 C rfl dX12_flows_96 ?_
        refine wz_goto C dX12_flows_99 (tgt := 12) (by decide) ?_
        exact w12 (l3 + 1) I6 J6 h
      · replace h := h.2 c
        refine wz_iload_n C rfl rfl dX12_flows_28 ?_
        refine wz_iload_n C rfl rfl dX12_flows_29 ?_
        refine wm_callS C (As := [.int (iZ l3), .int (iZ l2)]) (st := []) (a' := 0) (b' := 0) (k_X12_hasBit G hG l3 l2 I6 J6 _ h) 2 gX12_flows_X12_hasBit rfl (by decide +kernel) (by rw [hX]; exact ⟨Nat.le_of_ble_eq_true rfl, Nat.le_of_ble_eq_true rfl⟩) rfl (Nat.le_of_ble_eq_true rfl) rfl rfl rfl dX12_flows_30 (kk_sB (fun v7 I7 J7 hb7 h => ?_))
        refine wz_if_eq C (tgt := 39) (rgB hb7) dX12_flows_33 (by decide) (fun c => ?_) (fun c => ?_)
        · replace h := h.1 c
          refine wz_aload_n C rfl rfl dX12_flows_39 ?_
          refine wz_iload_n C rfl rfl dX12_flows_40 ?_
          refine wm_callV C (o := 0) (As := [.int (iZ l3)]) (st := []) (a' := 0) (b' := 0) rfl rfl (k_X12_outOf G hG l3 I7 J7 _ h) 1 gX12_flows_X12_outOf rfl (by decide +kernel) (by rw [hX]; exact ⟨Nat.le_of_ble_eq_true rfl, Nat.le_of_ble_eq_true rfl⟩) rfl (Nat.le_of_ble_eq_true rfl) rfl rfl rfl dX12_flows_41 (kk_sI (fun v8 I8 J8 h => ?_))
          refine wz_istore_4 C rfl dX12_flows_44 ?_
          refine wz_aload_n C rfl rfl dX12_flows_46 ?_
          refine wz_getI C rfl f_X12_flows_283 rfl dX12_flows_47 ?_
          refine wz_iconst C dX12_flows_50 ?_
          obtain ⟨g9, h⟩ := h
          refine wz_icmp_eq C (tgt := 63) g9 (by decide) dX12_flows_51 (by decide) (fun c => ?_) (fun c => ?_)
          · replace h := h.1 c
            exact bk_X12_flows_63 G hG X hX C l1 l2 Q r12 w12 l3 v8 I8 J8 h
          · replace h := h.2 c
            refine wz_iload C rfl dX12_flows_54 ?_
            refine wz_aload_n C rfl rfl dX12_flows_56 ?_
            refine wz_getI C rfl f_X12_flows_283 rfl dX12_flows_57 ?_
            obtain ⟨g10, h⟩ := h
            refine wz_icmp_ge C (tgt := 77) g10 g9 dX12_flows_60 (by decide) (fun c => ?_) (fun c => ?_)
            · replace h := h.1 c
              refine wz_iload C rfl dX12_flows_77 ?_
              refine wz_aload_n C rfl rfl dX12_flows_79 ?_
              refine wz_getI C rfl f_X12_flows_283 rfl dX12_flows_80 ?_
              refine wz_icmp_ne C (tgt := 96) g10 g9 dX12_flows_83 (by decide) (fun c => ?_) (fun c => ?_)
              · replace h := h.1 c
                refine wz_iinc_3 C rfl dX12_flows_96 ?_
                refine wz_goto C dX12_flows_99 (tgt := 12) (by decide) ?_
                exact Wz.drop (w12 (l3 + 1) I8 J8 h) (And.intro rfl (And.intro rfl (And.intro rfl (And.intro rfl trivial))))
              · replace h := h.2 c
                refine wz_aload_n C rfl rfl dX12_flows_86 ?_
                refine wz_dup C rfl dX12_flows_87 ?_
                refine wz_getI C rfl f_X12_flows_286 rfl dX12_flows_88 ?_
                refine wz_iload_n C rfl rfl dX12_flows_91 ?_
                refine wd_iand C dX12_flows_92 ?_
                refine wd_putI C f_X12_flows_286 fp_X12_27 rfl dX12_flows_93 (fun I11 e => ?_)
                replace h := h I11 e
                refine wz_iinc_3 C rfl dX12_flows_96 ?_
                refine wz_goto C dX12_flows_99 (tgt := 12) (by decide) ?_
                exact Wz.drop (w12 (l3 + 1) I11 J8 h) (And.intro rfl (And.intro rfl (And.intro rfl (And.intro rfl trivial))))
            · replace h := h.2 c
              exact bk_X12_flows_63 G hG X hX C l1 l2 Q r12 w12 l3 v8 I8 J8 h
        · replace h := h.2 c
          refine wz_goto C dX12_flows_36 (tgt := 96) (by decide) ?_
          refine wz_iinc_3 C rfl dX12_flows_96 ?_
          refine wz_goto C dX12_flows_99 (tgt := 12) (by decide) ?_
          exact w12 (l3 + 1) I7 J7 h
set_option maxHeartbeats 4000000 in
set_option maxRecDepth 100000 in
theorem k_X12_flows (G : KG) (hG : Kok G) (l1 : Int) (l2 : Int) (I : Ii) (J : Jj) (Q : Ii → Jj → Prop) (h : wp_X12_flows l1 l2 I J Q) : Ctr G yX12_flows wsX12_flows rm_X12_flows [.ref (kadr G 0), .int (iZ l1), .int (iZ l2)] (I, J) (QsV Q) := by
  unfold wp_X12_flows at h
  skip
  refine Ctr.ofZ (cc := cX12_flows) (nL := 5) (ret := none) [some (.ref (kadr G 0)), some (.int (iZ l1)), some (.int (iZ l2)), none, none] hG (by decide +kernel) rfl (Nat.le_of_ble_eq_true rfl) (Nat.le_of_ble_eq_true rfl) (by simp [lvA, lv_args, Value.category]) ?_
  intro X hX C
  refine wz_aload_n C rfl rfl dX12_flows_0 ?_
  refine wz_iconst C dX12_flows_1 ?_
  refine wd_putI C f_X12_flows_283 fp_X12_26 rfl dX12_flows_2 (fun I1 e => ?_)
  replace h := h I1 e
  refine wz_aload_n C rfl rfl dX12_flows_5 ?_
  refine wz_iconst C dX12_flows_6 ?_
  refine wd_putI C f_X12_flows_286 fp_X12_27 rfl dX12_flows_7 (fun I2 e => ?_)
  replace h := h I2 e
  refine wz_iconst C dX12_flows_10 ?_
  refine wz_istore_3 C rfl dX12_flows_11 ?_
  obtain ⟨n, h⟩ := h
  exact lk_X12_flows_12 G hG X hX C l1 l2 Q n 0 I2 J h
theorem in_X12_flow_X12 : ∀ w ∈ wsX120, w ∈ wsX12_flow := by decide +kernel
theorem f_X12_flow_283 : FLk wsX12_flow RX12 283 12 26 := flk 12 26 rfl tyX12_ok nmX12 in_X12_flow_X12 (by decide) (by decide +kernel)
def rm_X12_flow : Room := { frames := 3, cells := 0, slots := 0, locals := 68 }
set_option maxHeartbeats 4000000 in
set_option maxRecDepth 100000 in
theorem k_X12_flow (G : KG) (hG : Kok G) (l1 : Int) (l2 : Int) (I : Ii) (J : Jj) (Q : Int → Ii → Jj → Prop) (h : wp_X12_flow l1 l2 I J Q) : Ctr G yX12_flow wsX12_flow rm_X12_flow [.ref (kadr G 0), .int (iZ l1), .int (iZ l2)] (I, J) (QsI Q) := by
  unfold wp_X12_flow at h
  skip
  refine Ctr.ofZ (cc := cX12_flow) (nL := 3) (ret := (some .int)) [some (.ref (kadr G 0)), some (.int (iZ l1)), some (.int (iZ l2))] hG (by decide +kernel) rfl (Nat.le_of_ble_eq_true rfl) (Nat.le_of_ble_eq_true rfl) (by simp [lvA, lv_args, Value.category]) ?_
  intro X hX C
  refine wz_aload_n C rfl rfl dX12_flow_0 ?_
  refine wz_aload_n C rfl rfl dX12_flow_1 ?_
  refine wz_iload_n C rfl rfl dX12_flow_2 ?_
  refine wz_iload_n C rfl rfl dX12_flow_3 ?_
  refine wm_callV C (o := 0) (As := [.int (iZ l1), .int (iZ l2)]) (st := [.ref (kadr G 0)]) (a' := 0) (b' := 0) rfl rfl (k_X12_areVertices G hG l1 l2 I J _ h) 2 gX12_flow_X12_areVertices rfl (by decide +kernel) (by rw [hX]; exact ⟨Nat.le_of_ble_eq_true rfl, Nat.le_of_ble_eq_true rfl⟩) rfl (Nat.le_of_ble_eq_true rfl) rfl rfl rfl dX12_flow_4 (kk_sB (fun v1 I1 J1 hb1 h => ?_))
  refine wm_callV C (o := 0) (As := [.int (iZ v1)]) (st := []) (a' := 0) (b' := 0) rfl rfl (k_X12_goes G hG v1 I1 J1 _ h) 1 gX12_flow_X12_goes rfl (by decide +kernel) (by rw [hX]; exact ⟨Nat.le_of_ble_eq_true rfl, Nat.le_of_ble_eq_true rfl⟩) rfl (Nat.le_of_ble_eq_true rfl) rfl rfl rfl dX12_flow_7 (kk_sB (fun v2 I2 J2 hb2 h => ?_))
  refine wz_if_ne C (tgt := 15) (rgB hb2) dX12_flow_10 (by decide) (fun c => ?_) (fun c => ?_)
  · replace h := h.1 c
    refine wz_iload_n C rfl rfl dX12_flow_15 ?_
    refine wz_iload_n C rfl rfl dX12_flow_16 ?_
    obtain ⟨g3, h⟩ := h
    obtain ⟨g4, h⟩ := h
    refine wz_icmp_ne C (tgt := 22) g3 g4 dX12_flow_17 (by decide) (fun c => ?_) (fun c => ?_)
    · replace h := h.1 c
      refine wz_aload_n C rfl rfl dX12_flow_22 ?_
      refine wz_iload_n C rfl rfl dX12_flow_23 ?_
      refine wz_iload_n C rfl rfl dX12_flow_24 ?_
      refine wm_callV C (o := 0) (As := [.int (iZ l1), .int (iZ l2)]) (st := []) (a' := 0) (b' := 0) rfl rfl (k_X12_flows G hG l1 l2 I2 J2 _ h) 2 gX12_flow_X12_flows rfl (by decide +kernel) (by rw [hX]; exact ⟨Nat.le_of_ble_eq_true rfl, Nat.le_of_ble_eq_true rfl⟩) rfl (Nat.le_of_ble_eq_true rfl) rfl rfl rfl dX12_flow_25 (kk_sV (fun I5 J5 h => ?_))
      refine wz_aload_n C rfl rfl dX12_flow_28 ?_
      refine wz_getI C rfl f_X12_flow_283 rfl dX12_flow_29 ?_
      exact wz_iret C dX12_flow_32 ⟨_, rfl, h⟩
    · replace h := h.2 c
      refine wz_iconst C dX12_flow_20 ?_
      exact wz_iret C dX12_flow_21 ⟨_, rfl, h⟩
  · replace h := h.2 c
    refine wz_iconst C dX12_flow_13 ?_
    exact wz_iret C dX12_flow_14 ⟨_, rfl, h⟩
theorem in_X12_side_X12 : ∀ w ∈ wsX120, w ∈ wsX12_side := by decide +kernel
theorem f_X12_side_286 : FLk wsX12_side RX12 286 12 27 := flk 12 27 rfl tyX12_ok nmX12 in_X12_side_X12 (by decide) (by decide +kernel)
def rm_X12_side : Room := { frames := 3, cells := 0, slots := 0, locals := 68 }
set_option maxHeartbeats 4000000 in
set_option maxRecDepth 100000 in
theorem k_X12_side (G : KG) (hG : Kok G) (l1 : Int) (l2 : Int) (I : Ii) (J : Jj) (Q : Int → Ii → Jj → Prop) (h : wp_X12_side l1 l2 I J Q) : Ctr G yX12_side wsX12_side rm_X12_side [.ref (kadr G 0), .int (iZ l1), .int (iZ l2)] (I, J) (QsI Q) := by
  unfold wp_X12_side at h
  skip
  refine Ctr.ofZ (cc := cX12_side) (nL := 3) (ret := (some .int)) [some (.ref (kadr G 0)), some (.int (iZ l1)), some (.int (iZ l2))] hG (by decide +kernel) rfl (Nat.le_of_ble_eq_true rfl) (Nat.le_of_ble_eq_true rfl) (by simp [lvA, lv_args, Value.category]) ?_
  intro X hX C
  refine wz_aload_n C rfl rfl dX12_side_0 ?_
  refine wz_aload_n C rfl rfl dX12_side_1 ?_
  refine wz_iload_n C rfl rfl dX12_side_2 ?_
  refine wz_iload_n C rfl rfl dX12_side_3 ?_
  refine wm_callV C (o := 0) (As := [.int (iZ l1), .int (iZ l2)]) (st := [.ref (kadr G 0)]) (a' := 0) (b' := 0) rfl rfl (k_X12_areVertices G hG l1 l2 I J _ h) 2 gX12_side_X12_areVertices rfl (by decide +kernel) (by rw [hX]; exact ⟨Nat.le_of_ble_eq_true rfl, Nat.le_of_ble_eq_true rfl⟩) rfl (Nat.le_of_ble_eq_true rfl) rfl rfl rfl dX12_side_4 (kk_sB (fun v1 I1 J1 hb1 h => ?_))
  refine wm_callV C (o := 0) (As := [.int (iZ v1)]) (st := []) (a' := 0) (b' := 0) rfl rfl (k_X12_goes G hG v1 I1 J1 _ h) 1 gX12_side_X12_goes rfl (by decide +kernel) (by rw [hX]; exact ⟨Nat.le_of_ble_eq_true rfl, Nat.le_of_ble_eq_true rfl⟩) rfl (Nat.le_of_ble_eq_true rfl) rfl rfl rfl dX12_side_7 (kk_sB (fun v2 I2 J2 hb2 h => ?_))
  refine wz_if_ne C (tgt := 15) (rgB hb2) dX12_side_10 (by decide) (fun c => ?_) (fun c => ?_)
  · replace h := h.1 c
    refine wz_iload_n C rfl rfl dX12_side_15 ?_
    refine wz_iload_n C rfl rfl dX12_side_16 ?_
    obtain ⟨g3, h⟩ := h
    obtain ⟨g4, h⟩ := h
    refine wz_icmp_ne C (tgt := 22) g3 g4 dX12_side_17 (by decide) (fun c => ?_) (fun c => ?_)
    · replace h := h.1 c
      refine wz_aload_n C rfl rfl dX12_side_22 ?_
      refine wz_iload_n C rfl rfl dX12_side_23 ?_
      refine wz_iload_n C rfl rfl dX12_side_24 ?_
      refine wm_callV C (o := 0) (As := [.int (iZ l1), .int (iZ l2)]) (st := []) (a' := 0) (b' := 0) rfl rfl (k_X12_flows G hG l1 l2 I2 J2 _ h) 2 gX12_side_X12_flows rfl (by decide +kernel) (by rw [hX]; exact ⟨Nat.le_of_ble_eq_true rfl, Nat.le_of_ble_eq_true rfl⟩) rfl (Nat.le_of_ble_eq_true rfl) rfl rfl rfl dX12_side_25 (kk_sV (fun I5 J5 h => ?_))
      refine wz_aload_n C rfl rfl dX12_side_28 ?_
      refine wz_getI C rfl f_X12_side_286 rfl dX12_side_29 ?_
      exact wz_iret C dX12_side_32 ⟨_, rfl, h⟩
    · replace h := h.2 c
      refine wz_iconst C dX12_side_20 ?_
      exact wz_iret C dX12_side_21 ⟨_, rfl, h⟩
  · replace h := h.2 c
    refine wz_iconst C dX12_side_13 ?_
    exact wz_iret C dX12_side_14 ⟨_, rfl, h⟩
theorem in_X12_leastFlow_X12 : ∀ w ∈ wsX120, w ∈ wsX12_leastFlow := by decide +kernel
theorem f_X12_leastFlow_90 : FLk wsX12_leastFlow RX12 90 12 0 := flk 12 0 rfl tyX12_ok nmX12 in_X12_leastFlow_X12 (by decide) (by decide +kernel)
def rm_X12_leastFlow : Room := { frames := 2, cells := 0, slots := 0, locals := 44 }
set_option maxHeartbeats 4000000 in
set_option maxRecDepth 100000 in
theorem lk_X12_leastFlow_9 (G : KG) (hG : Kok G) (X : KX) (hX : KR X = rm_X12_leastFlow) (C : Fr G X cX12_leastFlow 4 yX12_leastFlow.cls (some .int) wsX12_leastFlow) (Q : Int → Ii → Jj → Prop) : ∀ (n : Nat) (l1 : Int) (l2 : Int) (I : Ii) (J : Jj), L_X12_leastFlow_9 Q n l1 l2 I J → Wz G X 4 (QsU G X (QsI Q)) 0 0 9 [some (.ref (kadr G 0)), some (.int (iZ l1)), some (.int (iZ l2)), none] [] I J := by
  intro n
  induction n with
  | zero => intro l1 l2 I J h; exact False.elim h
  | succ n w9 =>
    intro l1 l2 I J h
    have h : Lb_X12_leastFlow_9 Q (L_X12_leastFlow_9 Q n) l1 l2 I J := h
    unfold Lb_X12_leastFlow_9 at h
    generalize L_X12_leastFlow_9 Q n = r9 at h w9
    refine wz_iload_n C rfl rfl dX12_leastFlow_9 ?_
    refine wz_aload_n C rfl rfl dX12_leastFlow_10 ?_
    refine wm_callV C (o := 0) (As := []) (st := [.int (iZ l2)]) (a' := 0) (b' := 0) rfl rfl (k_X12_everything G hG I J _ h) 0 gX12_leastFlow_X12_everything rfl (by decide +kernel) (by rw [hX]; exact ⟨Nat.le_of_ble_eq_true rfl, Nat.le_of_ble_eq_true rfl⟩) rfl (Nat.le_of_ble_eq_true rfl) rfl rfl rfl dX12_leastFlow_11 (kk_sI (fun v2 I2 J2 h => ?_))
    obtain ⟨g3, h⟩ := h
    obtain ⟨g4, h⟩ := h
    refine wz_icmp_ge C (tgt := 45) g3 g4 dX12_leastFlow_14 (by decide) (fun c => ?_) (fun c => ?_)
    · replace h := h.1 c
      refine wz_iload_n C rfl rfl dX12_leastFlow_45 ?_
      exact wz_iret C dX12_leastFlow_46 ⟨_, rfl, h⟩
    · replace h := h.2 c
      refine wz_aload_n C rfl rfl dX12_leastFlow_17 ?_
      refine wz_iload_n C rfl rfl dX12_leastFlow_18 ?_
      refine wm_callV C (o := 0) (As := [.int (iZ l2)]) (st := []) (a' := 0) (b' := 0) rfl rfl (k_X12_outOf G hG l2 I2 J2 _ h) 1 gX12_leastFlow_X12_outOf rfl (by decide +kernel) (by rw [hX]; exact ⟨Nat.le_of_ble_eq_true rfl, Nat.le_of_ble_eq_true rfl⟩) rfl (Nat.le_of_ble_eq_true rfl) rfl rfl rfl dX12_leastFlow_19 (kk_sI (fun v5 I5 J5 h => ?_))
      refine wz_istore_3 C rfl dX12_leastFlow_22 ?_
      refine wz_iload_n C rfl rfl dX12_leastFlow_23 ?_
      refine wz_iconst C dX12_leastFlow_24 ?_
      obtain ⟨g6, h⟩ := h
      refine wz_icmp_eq C (tgt := 33) g6 (by decide) dX12_leastFlow_25 (by decide) (fun c => ?_) (fun c => ?_)
      · replace h := h.1 c
        refine wz_iload_n C rfl rfl dX12_leastFlow_33 ?_
        refine wz_goto C dX12_leastFlow_34 (tgt := 38) (by decide) ?_
        refine wz_istore_1 C rfl dX12_leastFlow_38 ?_
        refine wz_iinc_2 C rfl dX12_leastFlow_39 ?_
        refine wz_goto C dX12_leastFlow_42 (tgt := 9) (by decide) ?_
        exact Wz.drop (w9 v5 (l2 + 2) I5 J5 h) (And.intro rfl (And.intro rfl (And.intro rfl trivial)))
      · replace h := h.2 c
        refine wz_iload_n C rfl rfl dX12_leastFlow_28 ?_
        refine wz_iload_n C rfl rfl dX12_leastFlow_29 ?_
        obtain ⟨g7, h⟩ := h
        refine wz_icmp_ge C (tgt := 37) g7 g6 dX12_leastFlow_30 (by decide) (fun c => ?_) (fun c => ?_)
        · replace h := h.1 c
          refine wz_iload_n C rfl rfl dX12_leastFlow_37 ?_
          refine wz_istore_1 C rfl dX12_leastFlow_38 ?_
          refine wz_iinc_2 C rfl dX12_leastFlow_39 ?_
          refine wz_goto C dX12_leastFlow_42 (tgt := 9) (by decide) ?_
          exact Wz.drop (w9 l1 (l2 + 2) I5 J5 h) (And.intro rfl (And.intro rfl (And.intro rfl trivial)))
        · replace h := h.2 c
          refine wz_iload_n C rfl rfl dX12_leastFlow_33 ?_
          refine wz_goto C dX12_leastFlow_34 (tgt := 38) (by decide) ?_
          refine wz_istore_1 C rfl dX12_leastFlow_38 ?_
          refine wz_iinc_2 C rfl dX12_leastFlow_39 ?_
          refine wz_goto C dX12_leastFlow_42 (tgt := 9) (by decide) ?_
          exact Wz.drop (w9 v5 (l2 + 2) I5 J5 h) (And.intro rfl (And.intro rfl (And.intro rfl trivial)))
set_option maxHeartbeats 4000000 in
set_option maxRecDepth 100000 in
theorem k_X12_leastFlow (G : KG) (hG : Kok G) (I : Ii) (J : Jj) (Q : Int → Ii → Jj → Prop) (h : wp_X12_leastFlow I J Q) : Ctr G yX12_leastFlow wsX12_leastFlow rm_X12_leastFlow [.ref (kadr G 0)] (I, J) (QsI Q) := by
  unfold wp_X12_leastFlow at h
  skip
  refine Ctr.ofZ (cc := cX12_leastFlow) (nL := 4) (ret := (some .int)) [some (.ref (kadr G 0)), none, none, none] hG (by decide +kernel) rfl (Nat.le_of_ble_eq_true rfl) (Nat.le_of_ble_eq_true rfl) (by simp [lvA, lv_args, Value.category]) ?_
  intro X hX C
  refine wz_aload_n C rfl rfl dX12_leastFlow_0 ?_
  refine wz_iconst C dX12_leastFlow_1 ?_
  refine wd_putI C f_X12_leastFlow_90 fp_X12_0 rfl dX12_leastFlow_2 (fun I1 e => ?_)
  replace h := h I1 e
  refine wz_iconst C dX12_leastFlow_5 ?_
  refine wz_istore_1 C rfl dX12_leastFlow_6 ?_
  refine wz_iconst C dX12_leastFlow_7 ?_
  refine wz_istore_2 C rfl dX12_leastFlow_8 ?_
  obtain ⟨n, h⟩ := h
  exact lk_X12_leastFlow_9 G hG X hX C Q n (-1) 1 I1 J h
theorem in_X12_weightOf_X12 : ∀ w ∈ wsX120, w ∈ wsX12_weightOf := by decide +kernel
theorem f_X12_weightOf_26 : FLk wsX12_weightOf RX12 26 12 15 := flk 12 15 rfl tyX12_ok nmX12 in_X12_weightOf_X12 (by decide) (by decide +kernel)
def rm_X12_weightOf : Room := { frames := 0, cells := 0, slots := 0, locals := 0 }
set_option maxHeartbeats 4000000 in
set_option maxRecDepth 100000 in
theorem lk_X12_weightOf_4 (G : KG) (hG : Kok G) (X : KX) (hX : KR X = rm_X12_weightOf) (C : Fr G X cX12_weightOf 4 yX12_weightOf.cls (some .int) wsX12_weightOf) (l1 : Int) (Q : Int → Ii → Jj → Prop) : ∀ (n : Nat) (l2 : Int) (l3 : Int) (I : Ii) (J : Jj), L_X12_weightOf_4 l1 Q n l2 l3 I J → Wz G X 4 (QsU G X (QsI Q)) 0 0 4 [some (.ref (kadr G 0)), some (.int (iZ l1)), some (.int (iZ l2)), some (.int (iZ l3))] [] I J := by
  intro n
  induction n with
  | zero => intro l2 l3 I J h; exact False.elim h
  | succ n w4 =>
    intro l2 l3 I J h
    have h : Lb_X12_weightOf_4 l1 Q (L_X12_weightOf_4 l1 Q n) l2 l3 I J := h
    unfold Lb_X12_weightOf_4 at h
    generalize L_X12_weightOf_4 l1 Q n = r4 at h w4
    refine wz_iload_n C rfl rfl dX12_weightOf_4 ?_
    refine wz_aload_n C rfl rfl dX12_weightOf_5 ?_
    refine wz_getR C (j := 2) f_X12_weightOf_26 rfl dX12_weightOf_6 ?_
    refine wz_iconst C dX12_weightOf_9 ?_
    refine wz_iaload C 0 (n := 350) rfl rfl (by decide) (by decide) rfl dX12_weightOf_10 ?_
    obtain ⟨g1, h⟩ := h
    obtain ⟨g2, h⟩ := h
    refine wz_icmp_ge C (tgt := 49) g1 g2 dX12_weightOf_11 (by decide) (fun c => ?_) (fun c => ?_)
    · replace h := h.1 c
      refine wz_iload_n C rfl rfl dX12_weightOf_49 ?_
      exact wz_iret C dX12_weightOf_50 ⟨_, rfl, h⟩
    · replace h := h.2 c
      refine wz_iload_n C rfl rfl dX12_weightOf_14 ?_
      refine wz_aload_n C rfl rfl dX12_weightOf_15 ?_
      refine wz_getR C (j := 2) f_X12_weightOf_26 rfl dX12_weightOf_16 ?_
      refine wz_bipush C (by decide) dX12_weightOf_19 ?_
      refine wz_iload_n C rfl rfl dX12_weightOf_21 ?_
      refine wz_iadd C dX12_weightOf_22 ?_
      obtain ⟨g3, h⟩ := h
      refine wz_iaload C ((21 + l3).toNat) (n := 350) rfl (zN g3) (zL g3) (by decide) rfl dX12_weightOf_23 ?_
      refine wz_iload_n C rfl rfl dX12_weightOf_24 ?_
      obtain ⟨g4, h⟩ := h
      obtain ⟨g5, h⟩ := h
      refine wz_icmp_ne C (tgt := 40) g4 g5 dX12_weightOf_25 (by decide) (fun c => ?_) (fun c => ?_)
      · replace h := h.1 c
        refine wz_iconst C dX12_weightOf_40 ?_
        refine wz_iadd C dX12_weightOf_41 ?_
        refine wz_istore_2 C rfl dX12_weightOf_42 ?_
        refine wz_iinc_3 C rfl dX12_weightOf_43 ?_
        refine wz_goto C dX12_weightOf_46 (tgt := 4) (by decide) ?_
        exact w4 (l2 + 0) (l3 + 1) I J h
      · replace h := h.2 c
        refine wz_aload_n C rfl rfl dX12_weightOf_28 ?_
        refine wz_getR C (j := 2) f_X12_weightOf_26 rfl dX12_weightOf_29 ?_
        refine wz_bipush C (by decide) dX12_weightOf_32 ?_
        refine wz_iload_n C rfl rfl dX12_weightOf_34 ?_
        refine wz_iadd C dX12_weightOf_35 ?_
        obtain ⟨g6, h⟩ := h
        refine wz_iaload C ((7 + l3).toNat) (n := 350) rfl (zN g6) (zL g6) (by decide) rfl dX12_weightOf_36 ?_
        refine wz_goto C dX12_weightOf_37 (tgt := 41) (by decide) ?_
        refine wz_iadd C dX12_weightOf_41 ?_
        refine wz_istore_2 C rfl dX12_weightOf_42 ?_
        refine wz_iinc_3 C rfl dX12_weightOf_43 ?_
        refine wz_goto C dX12_weightOf_46 (tgt := 4) (by decide) ?_
        exact w4 (l2 + (I 2 ((7 + l3).toNat))) (l3 + 1) I J h
set_option maxHeartbeats 4000000 in
set_option maxRecDepth 100000 in
theorem k_X12_weightOf (G : KG) (hG : Kok G) (l1 : Int) (I : Ii) (J : Jj) (Q : Int → Ii → Jj → Prop) (h : wp_X12_weightOf l1 I J Q) : Ctr G yX12_weightOf wsX12_weightOf rm_X12_weightOf [.ref (kadr G 0), .int (iZ l1)] (I, J) (QsI Q) := by
  unfold wp_X12_weightOf at h
  skip
  refine Ctr.ofZ (cc := cX12_weightOf) (nL := 4) (ret := (some .int)) [some (.ref (kadr G 0)), some (.int (iZ l1)), none, none] hG (by decide +kernel) rfl (Nat.le_of_ble_eq_true rfl) (Nat.le_of_ble_eq_true rfl) (by simp [lvA, lv_args, Value.category]) ?_
  intro X hX C
  refine wz_iconst C dX12_weightOf_0 ?_
  refine wz_istore_2 C rfl dX12_weightOf_1 ?_
  refine wz_iconst C dX12_weightOf_2 ?_
  refine wz_istore_3 C rfl dX12_weightOf_3 ?_
  obtain ⟨n, h⟩ := h
  exact lk_X12_weightOf_4 G hG X hX C l1 Q n 0 0 I J h
def rm_X12_debtOf : Room := { frames := 2, cells := 0, slots := 0, locals := 42 }
set_option maxHeartbeats 4000000 in
set_option maxRecDepth 100000 in
theorem k_X12_debtOf (G : KG) (hG : Kok G) (l1 : Int) (I : Ii) (J : Jj) (Q : Int → Ii → Jj → Prop) (h : wp_X12_debtOf l1 I J Q) : Ctr G yX12_debtOf wsX12_debtOf rm_X12_debtOf [.ref (kadr G 0), .int (iZ l1)] (I, J) (QsI Q) := by
  unfold wp_X12_debtOf at h
  skip
  refine Ctr.ofZ (cc := cX12_debtOf) (nL := 3) (ret := (some .int)) [some (.ref (kadr G 0)), some (.int (iZ l1)), none] hG (by decide +kernel) rfl (Nat.le_of_ble_eq_true rfl) (Nat.le_of_ble_eq_true rfl) (by simp [lvA, lv_args, Value.category]) ?_
  intro X hX C
  refine wz_aload_n C rfl rfl dX12_debtOf_0 ?_
  refine wz_iload_n C rfl rfl dX12_debtOf_1 ?_
  refine wm_callV C (o := 0) (As := [.int (iZ l1)]) (st := []) (a' := 0) (b' := 0) rfl rfl (k_X12_weightOf G hG l1 I J _ h) 1 gX12_debtOf_X12_weightOf rfl (by decide +kernel) (by rw [hX]; exact ⟨Nat.le_of_ble_eq_true rfl, Nat.le_of_ble_eq_true rfl⟩) rfl (Nat.le_of_ble_eq_true rfl) rfl rfl rfl dX12_debtOf_2 (kk_sI (fun v1 I1 J1 h => ?_))
  refine wz_aload_n C rfl rfl dX12_debtOf_5 ?_
  refine wm_callV C (o := 0) (As := []) (st := [.int (iZ v1)]) (a' := 0) (b' := 0) rfl rfl (k_X12_limit G hG I1 J1 _ h) 0 gX12_debtOf_X12_limit rfl (by decide +kernel) (by rw [hX]; exact ⟨Nat.le_of_ble_eq_true rfl, Nat.le_of_ble_eq_true rfl⟩) rfl (Nat.le_of_ble_eq_true rfl) rfl rfl rfl dX12_debtOf_6 (kk_sI (fun v2 I2 J2 h => ?_))
  refine wz_isub C dX12_debtOf_9 ?_
  refine wz_istore_2 C rfl dX12_debtOf_10 ?_
  refine wz_iload_n C rfl rfl dX12_debtOf_11 ?_
  obtain ⟨g3, h⟩ := h
  refine wz_if_le C (tgt := 19) g3 dX12_debtOf_12 (by decide) (fun c => ?_) (fun c => ?_)
  · replace h := h.1 c
    refine wz_iconst C dX12_debtOf_19 ?_
    exact wz_iret C dX12_debtOf_20 ⟨_, rfl, h⟩
  · replace h := h.2 c
    refine wz_iload_n C rfl rfl dX12_debtOf_15 ?_
    refine wz_goto C dX12_debtOf_16 (tgt := 20) (by decide) ?_
    exact wz_iret C dX12_debtOf_20 ⟨_, rfl, h⟩
theorem in_X12_debtsNow_X12 : ∀ w ∈ wsX120, w ∈ wsX12_debtsNow := by decide +kernel
theorem f_X12_debtsNow_26 : FLk wsX12_debtsNow RX12 26 12 15 := flk 12 15 rfl tyX12_ok nmX12 in_X12_debtsNow_X12 (by decide) (by decide +kernel)
def rm_X12_debtsNow : Room := { frames := 3, cells := 0, slots := 0, locals := 64 }
set_option maxHeartbeats 4000000 in
set_option maxRecDepth 100000 in
theorem lk_X12_debtsNow_4 (G : KG) (hG : Kok G) (X : KX) (hX : KR X = rm_X12_debtsNow) (C : Fr G X cX12_debtsNow 3 yX12_debtsNow.cls (some .int) wsX12_debtsNow) (Q : Int → Ii → Jj → Prop) : ∀ (n : Nat) (l1 : Int) (l2 : Int) (I : Ii) (J : Jj), L_X12_debtsNow_4 Q n l1 l2 I J → Wz G X 3 (QsU G X (QsI Q)) 0 0 4 [some (.ref (kadr G 0)), some (.int (iZ l1)), some (.int (iZ l2))] [] I J := by
  intro n
  induction n with
  | zero => intro l1 l2 I J h; exact False.elim h
  | succ n w4 =>
    intro l1 l2 I J h
    have h : Lb_X12_debtsNow_4 Q (L_X12_debtsNow_4 Q n) l1 l2 I J := h
    unfold Lb_X12_debtsNow_4 at h
    generalize L_X12_debtsNow_4 Q n = r4 at h w4
    refine wz_iload_n C rfl rfl dX12_debtsNow_4 ?_
    refine wz_aload_n C rfl rfl dX12_debtsNow_5 ?_
    refine wz_getR C (j := 2) f_X12_debtsNow_26 rfl dX12_debtsNow_6 ?_
    refine wz_iconst C dX12_debtsNow_9 ?_
    refine wz_iaload C 2 (n := 350) rfl rfl (by decide) (by decide) rfl dX12_debtsNow_10 ?_
    obtain ⟨g1, h⟩ := h
    obtain ⟨g2, h⟩ := h
    refine wz_icmp_ge C (tgt := 28) g1 g2 dX12_debtsNow_11 (by decide) (fun c => ?_) (fun c => ?_)
    · replace h := h.1 c
      refine wz_iload_n C rfl rfl dX12_debtsNow_28 ?_
      exact wz_iret C dX12_debtsNow_29 ⟨_, rfl, h⟩
    · replace h := h.2 c
      refine wz_iload_n C rfl rfl dX12_debtsNow_14 ?_
      refine wz_aload_n C rfl rfl dX12_debtsNow_15 ?_
      refine wz_iload_n C rfl rfl dX12_debtsNow_16 ?_
      refine wm_callV C (o := 0) (As := [.int (iZ l2)]) (st := [.int (iZ l1)]) (a' := 0) (b' := 0) rfl rfl (k_X12_debtOf G hG l2 I J _ h) 1 gX12_debtsNow_X12_debtOf rfl (by decide +kernel) (by rw [hX]; exact ⟨Nat.le_of_ble_eq_true rfl, Nat.le_of_ble_eq_true rfl⟩) rfl (Nat.le_of_ble_eq_true rfl) rfl rfl rfl dX12_debtsNow_17 (kk_sI (fun v3 I3 J3 h => ?_))
      refine wz_iadd C dX12_debtsNow_20 ?_
      refine wz_istore_1 C rfl dX12_debtsNow_21 ?_
      refine wz_iinc_2 C rfl dX12_debtsNow_22 ?_
      refine wz_goto C dX12_debtsNow_25 (tgt := 4) (by decide) ?_
      exact w4 (l1 + v3) (l2 + 1) I3 J3 h
set_option maxHeartbeats 4000000 in
set_option maxRecDepth 100000 in
theorem k_X12_debtsNow (G : KG) (hG : Kok G) (I : Ii) (J : Jj) (Q : Int → Ii → Jj → Prop) (h : wp_X12_debtsNow I J Q) : Ctr G yX12_debtsNow wsX12_debtsNow rm_X12_debtsNow [.ref (kadr G 0)] (I, J) (QsI Q) := by
  unfold wp_X12_debtsNow at h
  skip
  refine Ctr.ofZ (cc := cX12_debtsNow) (nL := 3) (ret := (some .int)) [some (.ref (kadr G 0)), none, none] hG (by decide +kernel) rfl (Nat.le_of_ble_eq_true rfl) (Nat.le_of_ble_eq_true rfl) (by simp [lvA, lv_args, Value.category]) ?_
  intro X hX C
  refine wz_iconst C dX12_debtsNow_0 ?_
  refine wz_istore_1 C rfl dX12_debtsNow_1 ?_
  refine wz_iconst C dX12_debtsNow_2 ?_
  refine wz_istore_2 C rfl dX12_debtsNow_3 ?_
  obtain ⟨n, h⟩ := h
  exact lk_X12_debtsNow_4 G hG X hX C Q n 0 0 I J h
theorem in_X12_cutNow_X12 : ∀ w ∈ wsX120, w ∈ wsX12_cutNow := by decide +kernel
theorem f_X12_cutNow_26 : FLk wsX12_cutNow RX12 26 12 15 := flk 12 15 rfl tyX12_ok nmX12 in_X12_cutNow_X12 (by decide) (by decide +kernel)
def rm_X12_cutNow : Room := { frames := 1, cells := 0, slots := 0, locals := 21 }
set_option maxHeartbeats 4000000 in
set_option maxRecDepth 100000 in
theorem lk_X12_cutNow_4 (G : KG) (hG : Kok G) (X : KX) (hX : KR X = rm_X12_cutNow) (C : Fr G X cX12_cutNow 3 yX12_cutNow.cls (some .int) wsX12_cutNow) (Q : Int → Ii → Jj → Prop) : ∀ (n : Nat) (l1 : Int) (l2 : Int) (I : Ii) (J : Jj), L_X12_cutNow_4 Q n l1 l2 I J → Wz G X 3 (QsU G X (QsI Q)) 0 0 4 [some (.ref (kadr G 0)), some (.int (iZ l1)), some (.int (iZ l2))] [] I J := by
  intro n
  induction n with
  | zero => intro l1 l2 I J h; exact False.elim h
  | succ n w4 =>
    intro l1 l2 I J h
    have h : Lb_X12_cutNow_4 Q (L_X12_cutNow_4 Q n) l1 l2 I J := h
    unfold Lb_X12_cutNow_4 at h
    generalize L_X12_cutNow_4 Q n = r4 at h w4
    refine wz_iload_n C rfl rfl dX12_cutNow_4 ?_
    refine wz_aload_n C rfl rfl dX12_cutNow_5 ?_
    refine wz_getR C (j := 2) f_X12_cutNow_26 rfl dX12_cutNow_6 ?_
    refine wz_iconst C dX12_cutNow_9 ?_
    refine wz_iaload C 1 (n := 350) rfl rfl (by decide) (by decide) rfl dX12_cutNow_10 ?_
    obtain ⟨g1, h⟩ := h
    obtain ⟨g2, h⟩ := h
    refine wz_icmp_ge C (tgt := 45) g1 g2 dX12_cutNow_11 (by decide) (fun c => ?_) (fun c => ?_)
    · replace h := h.1 c
      refine wz_iload_n C rfl rfl dX12_cutNow_45 ?_
      exact wz_iret C dX12_cutNow_46 ⟨_, rfl, h⟩
    · replace h := h.2 c
      refine wz_iload_n C rfl rfl dX12_cutNow_14 ?_
      refine wz_aload_n C rfl rfl dX12_cutNow_15 ?_
      refine wz_iload_n C rfl rfl dX12_cutNow_16 ?_
      refine wm_callV C (o := 0) (As := [.int (iZ l2)]) (st := [.int (iZ l1)]) (a' := 0) (b' := 0) rfl rfl (k_X12_isCut G hG l2 I J _ h) 1 gX12_cutNow_X12_isCut rfl (by decide +kernel) (by rw [hX]; exact ⟨Nat.le_of_ble_eq_true rfl, Nat.le_of_ble_eq_true rfl⟩) rfl (Nat.le_of_ble_eq_true rfl) rfl rfl rfl dX12_cutNow_17 (kk_sB (fun v3 I3 J3 hb3 h => ?_))
      refine wz_if_eq C (tgt := 36) (rgB hb3) dX12_cutNow_20 (by decide) (fun c => ?_) (fun c => ?_)
      · replace h := h.1 c
        refine wz_iconst C dX12_cutNow_36 ?_
        refine wz_iadd C dX12_cutNow_37 ?_
        refine wz_istore_1 C rfl dX12_cutNow_38 ?_
        refine wz_iinc_2 C rfl dX12_cutNow_39 ?_
        refine wz_goto C dX12_cutNow_42 (tgt := 4) (by decide) ?_
        exact w4 (l1 + 0) (l2 + 1) I3 J3 h
      · replace h := h.2 c
        refine wz_aload_n C rfl rfl dX12_cutNow_23 ?_
        refine wz_getR C (j := 2) f_X12_cutNow_26 rfl dX12_cutNow_24 ?_
        refine wz_sipush C (by decide) dX12_cutNow_27 ?_
        refine wz_iload_n C rfl rfl dX12_cutNow_30 ?_
        refine wz_iadd C dX12_cutNow_31 ?_
        obtain ⟨g4, h⟩ := h
        refine wz_iaload C ((190 + l2).toNat) (n := 350) rfl (zN g4) (zL g4) (by decide) rfl dX12_cutNow_32 ?_
        refine wz_goto C dX12_cutNow_33 (tgt := 37) (by decide) ?_
        refine wz_iadd C dX12_cutNow_37 ?_
        refine wz_istore_1 C rfl dX12_cutNow_38 ?_
        refine wz_iinc_2 C rfl dX12_cutNow_39 ?_
        refine wz_goto C dX12_cutNow_42 (tgt := 4) (by decide) ?_
        exact w4 (l1 + (I3 2 ((190 + l2).toNat))) (l2 + 1) I3 J3 h
set_option maxHeartbeats 4000000 in
set_option maxRecDepth 100000 in
theorem k_X12_cutNow (G : KG) (hG : Kok G) (I : Ii) (J : Jj) (Q : Int → Ii → Jj → Prop) (h : wp_X12_cutNow I J Q) : Ctr G yX12_cutNow wsX12_cutNow rm_X12_cutNow [.ref (kadr G 0)] (I, J) (QsI Q) := by
  unfold wp_X12_cutNow at h
  skip
  refine Ctr.ofZ (cc := cX12_cutNow) (nL := 3) (ret := (some .int)) [some (.ref (kadr G 0)), none, none] hG (by decide +kernel) rfl (Nat.le_of_ble_eq_true rfl) (Nat.le_of_ble_eq_true rfl) (by simp [lvA, lv_args, Value.category]) ?_
  intro X hX C
  refine wz_iconst C dX12_cutNow_0 ?_
  refine wz_istore_1 C rfl dX12_cutNow_1 ?_
  refine wz_iconst C dX12_cutNow_2 ?_
  refine wz_istore_2 C rfl dX12_cutNow_3 ?_
  obtain ⟨n, h⟩ := h
  exact lk_X12_cutNow_4 G hG X hX C Q n 0 0 I J h
theorem in_X12_partOf_X12 : ∀ w ∈ wsX120, w ∈ wsX12_partOf := by decide +kernel
theorem f_X12_partOf_26 : FLk wsX12_partOf RX12 26 12 15 := flk 12 15 rfl tyX12_ok nmX12 in_X12_partOf_X12 (by decide) (by decide +kernel)
def rm_X12_partOf : Room := { frames := 2, cells := 0, slots := 0, locals := 46 }
set_option maxHeartbeats 4000000 in
set_option maxRecDepth 100000 in
theorem k_X12_partOf (G : KG) (hG : Kok G) (l1 : Int) (I : Ii) (J : Jj) (Q : Int → Ii → Jj → Prop) (h : wp_X12_partOf l1 I J Q) : Ctr G yX12_partOf wsX12_partOf rm_X12_partOf [.ref (kadr G 0), .int (iZ l1)] (I, J) (QsI Q) := by
  unfold wp_X12_partOf at h
  skip
  refine Ctr.ofZ (cc := cX12_partOf) (nL := 2) (ret := (some .int)) [some (.ref (kadr G 0)), some (.int (iZ l1))] hG (by decide +kernel) rfl (Nat.le_of_ble_eq_true rfl) (Nat.le_of_ble_eq_true rfl) (by simp [lvA, lv_args, Value.category]) ?_
  intro X hX C
  refine wz_aload_n C rfl rfl dX12_partOf_0 ?_
  refine wz_aload_n C rfl rfl dX12_partOf_1 ?_
  refine wz_iload_n C rfl rfl dX12_partOf_2 ?_
  refine wm_callV C (o := 0) (As := [.int (iZ l1)]) (st := [.ref (kadr G 0)]) (a' := 0) (b' := 0) rfl rfl (k_X12_isVertex G hG l1 I J _ h) 1 gX12_partOf_X12_isVertex rfl (by decide +kernel) (by rw [hX]; exact ⟨Nat.le_of_ble_eq_true rfl, Nat.le_of_ble_eq_true rfl⟩) rfl (Nat.le_of_ble_eq_true rfl) rfl rfl rfl dX12_partOf_3 (kk_sB (fun v1 I1 J1 hb1 h => ?_))
  refine wm_callV C (o := 0) (As := [.int (iZ v1)]) (st := []) (a' := 0) (b' := 0) rfl rfl (k_X12_goes G hG v1 I1 J1 _ h) 1 gX12_partOf_X12_goes rfl (by decide +kernel) (by rw [hX]; exact ⟨Nat.le_of_ble_eq_true rfl, Nat.le_of_ble_eq_true rfl⟩) rfl (Nat.le_of_ble_eq_true rfl) rfl rfl rfl dX12_partOf_6 (kk_sB (fun v2 I2 J2 hb2 h => ?_))
  refine wz_if_eq C (tgt := 24) (rgB hb2) dX12_partOf_9 (by decide) (fun c => ?_) (fun c => ?_)
  · replace h := h.1 c
    refine wz_iconst C dX12_partOf_24 ?_
    exact wz_iret C dX12_partOf_25 ⟨_, rfl, h⟩
  · replace h := h.2 c
    refine wz_aload_n C rfl rfl dX12_partOf_12 ?_
    refine wz_getR C (j := 2) f_X12_partOf_26 rfl dX12_partOf_13 ?_
    refine wz_bipush C (by decide) dX12_partOf_16 ?_
    refine wz_iload_n C rfl rfl dX12_partOf_18 ?_
    refine wz_iadd C dX12_partOf_19 ?_
    obtain ⟨g3, h⟩ := h
    refine wz_iaload C ((21 + l1).toNat) (n := 350) rfl (zN g3) (zL g3) (by decide) rfl dX12_partOf_20 ?_
    refine wz_goto C dX12_partOf_21 (tgt := 25) (by decide) ?_
    exact wz_iret C dX12_partOf_25 ⟨_, rfl, h⟩
theorem in_X12_inPart_X12 : ∀ w ∈ wsX120, w ∈ wsX12_inPart := by decide +kernel
theorem f_X12_inPart_26 : FLk wsX12_inPart RX12 26 12 15 := flk 12 15 rfl tyX12_ok nmX12 in_X12_inPart_X12 (by decide) (by decide +kernel)
def rm_X12_inPart : Room := { frames := 1, cells := 0, slots := 0, locals := 20 }
set_option maxHeartbeats 4000000 in
set_option maxRecDepth 100000 in
theorem bk_X12_inPart_33 (G : KG) (hG : Kok G) (X : KX) (hX : KR X = rm_X12_inPart) (C : Fr G X cX12_inPart 4 yX12_inPart.cls (some .int) wsX12_inPart) (l1 : Int) (Q : Int → Ii → Jj → Prop) (r4 : Int → Int → Ii → Jj → Prop) (w4 : ∀ (l2 : Int) (l3 : Int) (I : Ii) (J : Jj), r4 l2 l3 I J → Wz G X 4 (QsU G X (QsI Q)) 0 0 4 [some (.ref (kadr G 0)), some (.int (iZ l1)), some (.int (iZ l2)), some (.int (iZ l3))] [] I J) (l3 : Int) (t0 : Int) (t1 : Int) (I : Ii) (J : Jj) (h : B_X12_inPart_33 l1 Q r4 l3 t0 t1 I J) : Wz G X 4 (QsU G X (QsI Q)) 0 0 33 [some (.ref (kadr G 0)), some (.int (iZ l1)), none, some (.int (iZ l3))] [.int (iZ t1), .int (iZ t0)] I J := by
  unfold B_X12_inPart_33 at h
  refine wm_callS C (As := [.int (iZ t1)]) (st := [.int (iZ t0)]) (a' := 0) (b' := 0) (k_X12_truth G hG t1 I J _ h) 1 gX12_inPart_X12_truth rfl (by decide +kernel) (by rw [hX]; exact ⟨Nat.le_of_ble_eq_true rfl, Nat.le_of_ble_eq_true rfl⟩) rfl (Nat.le_of_ble_eq_true rfl) rfl rfl rfl dX12_inPart_33 (kk_sI (fun v6 I6 J6 h => ?_))
  refine wz_iload_n C rfl rfl dX12_inPart_36 ?_
  refine wd_ishl C dX12_inPart_37 ?_
  refine wd_ior C dX12_inPart_38 ?_
  refine wz_istore_2 C rfl dX12_inPart_39 ?_
  refine wz_iinc_3 C rfl dX12_inPart_40 ?_
  refine wz_goto C dX12_inPart_43 (tgt := 4) (by decide) ?_
  exact w4 (orZ t0 (shlZ v6 l3)) (l3 + 1) I6 J6 h
set_option maxHeartbeats 4000000 in
set_option maxRecDepth 100000 in
theorem lk_X12_inPart_4 (G : KG) (hG : Kok G) (X : KX) (hX : KR X = rm_X12_inPart) (C : Fr G X cX12_inPart 4 yX12_inPart.cls (some .int) wsX12_inPart) (l1 : Int) (Q : Int → Ii → Jj → Prop) : ∀ (n : Nat) (l2 : Int) (l3 : Int) (I : Ii) (J : Jj), L_X12_inPart_4 l1 Q n l2 l3 I J → Wz G X 4 (QsU G X (QsI Q)) 0 0 4 [some (.ref (kadr G 0)), some (.int (iZ l1)), some (.int (iZ l2)), some (.int (iZ l3))] [] I J := by
  intro n
  induction n with
  | zero => intro l2 l3 I J h; exact False.elim h
  | succ n w4 =>
    intro l2 l3 I J h
    have h : Lb_X12_inPart_4 l1 Q (L_X12_inPart_4 l1 Q n) l2 l3 I J := h
    unfold Lb_X12_inPart_4 at h
    generalize L_X12_inPart_4 l1 Q n = r4 at h w4
    refine wz_iload_n C rfl rfl dX12_inPart_4 ?_
    refine wz_aload_n C rfl rfl dX12_inPart_5 ?_
    refine wz_getR C (j := 2) f_X12_inPart_26 rfl dX12_inPart_6 ?_
    refine wz_iconst C dX12_inPart_9 ?_
    refine wz_iaload C 0 (n := 350) rfl rfl (by decide) (by decide) rfl dX12_inPart_10 ?_
    obtain ⟨g1, h⟩ := h
    obtain ⟨g2, h⟩ := h
    refine wz_icmp_ge C (tgt := 46) g1 g2 dX12_inPart_11 (by decide) (fun c => ?_) (fun c => ?_)
    · replace h := h.1 c
      refine wz_iload_n C rfl rfl dX12_inPart_46 ?_
      exact wz_iret C dX12_inPart_47 ⟨_, rfl, h⟩
    · replace h := h.2 c
      refine wz_iload_n C rfl rfl dX12_inPart_14 ?_
      refine wz_aload_n C rfl rfl dX12_inPart_15 ?_
      refine wz_getR C (j := 2) f_X12_inPart_26 rfl dX12_inPart_16 ?_
      refine wz_bipush C (by decide) dX12_inPart_19 ?_
      refine wz_iload_n C rfl rfl dX12_inPart_21 ?_
      refine wz_iadd C dX12_inPart_22 ?_
      obtain ⟨g3, h⟩ := h
      refine wz_iaload C ((21 + l3).toNat) (n := 350) rfl (zN g3) (zL g3) (by decide) rfl dX12_inPart_23 ?_
      refine wz_iload_n C rfl rfl dX12_inPart_24 ?_
      obtain ⟨g4, h⟩ := h
      obtain ⟨g5, h⟩ := h
      refine wz_icmp_ne C (tgt := 32) g4 g5 dX12_inPart_25 (by decide) (fun c => ?_) (fun c => ?_)
      · replace h := h.1 c
        refine wz_iconst C dX12_inPart_32 ?_
        exact Wz.drop (bk_X12_inPart_33 G hG X hX C l1 Q r4 w4 l3 l2 0 I J h) (And.intro rfl (And.intro rfl (And.intro rfl trivial)))
      · replace h := h.2 c
        refine wz_iconst C dX12_inPart_28 ?_
        refine wz_goto C dX12_inPart_29 (tgt := 33) (by decide) ?_
        exact Wz.drop (bk_X12_inPart_33 G hG X hX C l1 Q r4 w4 l3 l2 1 I J h) (And.intro rfl (And.intro rfl (And.intro rfl trivial)))
set_option maxHeartbeats 4000000 in
set_option maxRecDepth 100000 in
theorem k_X12_inPart (G : KG) (hG : Kok G) (l1 : Int) (I : Ii) (J : Jj) (Q : Int → Ii → Jj → Prop) (h : wp_X12_inPart l1 I J Q) : Ctr G yX12_inPart wsX12_inPart rm_X12_inPart [.ref (kadr G 0), .int (iZ l1)] (I, J) (QsI Q) := by
  unfold wp_X12_inPart at h
  skip
  refine Ctr.ofZ (cc := cX12_inPart) (nL := 4) (ret := (some .int)) [some (.ref (kadr G 0)), some (.int (iZ l1)), none, none] hG (by decide +kernel) rfl (Nat.le_of_ble_eq_true rfl) (Nat.le_of_ble_eq_true rfl) (by simp [lvA, lv_args, Value.category]) ?_
  intro X hX C
  refine wz_iconst C dX12_inPart_0 ?_
  refine wz_istore_2 C rfl dX12_inPart_1 ?_
  refine wz_iconst C dX12_inPart_2 ?_
  refine wz_istore_3 C rfl dX12_inPart_3 ?_
  obtain ⟨n, h⟩ := h
  exact lk_X12_inPart_4 G hG X hX C l1 Q n 0 0 I J h
