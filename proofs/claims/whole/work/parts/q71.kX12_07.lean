def rm_X12_groupOf : Room := { frames := 2, cells := 0, slots := 0, locals := 46 }
set_option maxHeartbeats 4000000 in
set_option maxRecDepth 100000 in
theorem k_X12_groupOf (G : KG) (hG : Kok G) (l1 : Int) (I : Ii) (J : Jj) (Q : Int → Ii → Jj → Prop) (h : wp_X12_groupOf l1 I J Q) : Ctr G yX12_groupOf wsX12_groupOf rm_X12_groupOf [.ref (kadr G 0), .int (iZ l1)] (I, J) (QsI Q) := by
  unfold wp_X12_groupOf at h
  skip
  refine Ctr.ofZ (cc := cX12_groupOf) (nL := 2) (ret := (some .int)) [some (.ref (kadr G 0)), some (.int (iZ l1))] hG (by decide +kernel) rfl (Nat.le_of_ble_eq_true rfl) (Nat.le_of_ble_eq_true rfl) (by simp [lvA, lv_args, Value.category]) ?_
  intro X hX C
  refine wz_aload_n C rfl rfl dX12_groupOf_0 ?_
  refine wz_aload_n C rfl rfl dX12_groupOf_1 ?_
  refine wz_iload_n C rfl rfl dX12_groupOf_2 ?_
  refine wm_callV C (o := 0) (As := [.int (iZ l1)]) (st := [.ref (kadr G 0)]) (a' := 0) (b' := 0) rfl rfl (k_X12_isVertex G hG l1 I J _ h) 1 gX12_groupOf_X12_isVertex rfl (by decide +kernel) (by rw [hX]; exact ⟨Nat.le_of_ble_eq_true rfl, Nat.le_of_ble_eq_true rfl⟩) rfl (Nat.le_of_ble_eq_true rfl) rfl rfl rfl dX12_groupOf_3 (kk_sB (fun v1 I1 J1 hb1 h => ?_))
  refine wm_callV C (o := 0) (As := [.int (iZ v1)]) (st := []) (a' := 0) (b' := 0) rfl rfl (k_X12_goes G hG v1 I1 J1 _ h) 1 gX12_groupOf_X12_goes rfl (by decide +kernel) (by rw [hX]; exact ⟨Nat.le_of_ble_eq_true rfl, Nat.le_of_ble_eq_true rfl⟩) rfl (Nat.le_of_ble_eq_true rfl) rfl rfl rfl dX12_groupOf_6 (kk_sB (fun v2 I2 J2 hb2 h => ?_))
  refine wz_if_eq C (tgt := 20) (rgB hb2) dX12_groupOf_9 (by decide) (fun c => ?_) (fun c => ?_)
  · replace h := h.1 c
    refine wz_iconst C dX12_groupOf_20 ?_
    exact wz_iret C dX12_groupOf_21 ⟨_, rfl, h⟩
  · replace h := h.2 c
    refine wz_aload_n C rfl rfl dX12_groupOf_12 ?_
    refine wz_iload_n C rfl rfl dX12_groupOf_13 ?_
    refine wm_callV C (o := 0) (As := [.int (iZ l1)]) (st := []) (a' := 0) (b' := 0) rfl rfl (k_X12_groupAt G hG l1 I2 J2 _ h) 1 gX12_groupOf_X12_groupAt rfl (by decide +kernel) (by rw [hX]; exact ⟨Nat.le_of_ble_eq_true rfl, Nat.le_of_ble_eq_true rfl⟩) rfl (Nat.le_of_ble_eq_true rfl) rfl rfl rfl dX12_groupOf_14 (kk_sI (fun v3 I3 J3 h => ?_))
    refine wz_goto C dX12_groupOf_17 (tgt := 21) (by decide) ?_
    exact wz_iret C dX12_groupOf_21 ⟨_, rfl, h⟩
theorem in_X12_mateBehind_X12 : ∀ w ∈ wsX120, w ∈ wsX12_mateBehind := by decide +kernel
theorem f_X12_mateBehind_51 : FLk wsX12_mateBehind RX12 51 12 28 := flk 12 28 rfl tyX12_ok nmX12 in_X12_mateBehind_X12 (by decide) (by decide +kernel)
def rm_X12_mateBehind : Room := { frames := 2, cells := 0, slots := 0, locals := 47 }
set_option maxHeartbeats 4000000 in
set_option maxRecDepth 100000 in
theorem lk_X12_mateBehind_9 (G : KG) (hG : Kok G) (X : KX) (hX : KR X = rm_X12_mateBehind) (C : Fr G X cX12_mateBehind 6 yX12_mateBehind.cls (some .int) wsX12_mateBehind) (l1 : Int) (Q : Int → Ii → Jj → Prop) : ∀ (n : Nat) (l2 : Int) (l3 : Int) (l4 : Int) (I : Ii) (J : Jj), L_X12_mateBehind_9 l1 Q n l2 l3 l4 I J → Wz G X 6 (QsU G X (QsI Q)) 0 0 9 [some (.ref (kadr G 0)), some (.int (iZ l1)), some (.int (iZ l2)), some (.int (iZ l3)), some (.int (iZ l4)), none] [] I J := by
  intro n
  induction n with
  | zero => intro l2 l3 l4 I J h; exact False.elim h
  | succ n w9 =>
    intro l2 l3 l4 I J h
    have h : Lb_X12_mateBehind_9 l1 Q (L_X12_mateBehind_9 l1 Q n) l2 l3 l4 I J := h
    unfold Lb_X12_mateBehind_9 at h
    generalize L_X12_mateBehind_9 l1 Q n = r9 at h w9
    refine wz_iload C rfl dX12_mateBehind_9 ?_
    refine wz_aload_n C rfl rfl dX12_mateBehind_11 ?_
    refine wm_callV C (o := 0) (As := []) (st := [.int (iZ l4)]) (a' := 0) (b' := 0) rfl rfl (k_X12_groups G hG I J _ h) 0 gX12_mateBehind_X12_groups rfl (by decide +kernel) (by rw [hX]; exact ⟨Nat.le_of_ble_eq_true rfl, Nat.le_of_ble_eq_true rfl⟩) rfl (Nat.le_of_ble_eq_true rfl) rfl rfl rfl dX12_mateBehind_12 (kk_sI (fun v1 I1 J1 h => ?_))
    obtain ⟨g2, h⟩ := h
    obtain ⟨g3, h⟩ := h
    refine wz_icmp_ge C (tgt := 92) g2 g3 dX12_mateBehind_15 (by decide) (fun c => ?_) (fun c => ?_)
    · replace h := h.1 c
      refine wz_iload_n C rfl rfl dX12_mateBehind_92 ?_
      exact wz_iret C dX12_mateBehind_93 ⟨_, rfl, h⟩
    · replace h := h.2 c
      refine wz_aload_n C rfl rfl dX12_mateBehind_18 ?_
      refine wz_iload_n C rfl rfl dX12_mateBehind_19 ?_
      refine wz_iload C rfl dX12_mateBehind_20 ?_
      refine wm_callV C (o := 0) (As := [.int (iZ l1), .int (iZ l4)]) (st := []) (a' := 0) (b' := 0) rfl rfl (k_X12_joined G hG l1 l4 I1 J1 _ h) 2 gX12_mateBehind_X12_joined rfl (by decide +kernel) (by rw [hX]; exact ⟨Nat.le_of_ble_eq_true rfl, Nat.le_of_ble_eq_true rfl⟩) rfl (Nat.le_of_ble_eq_true rfl) rfl rfl rfl dX12_mateBehind_22 (kk_sI (fun v4 I4 J4 h => ?_))
      refine wz_istore_5 C rfl dX12_mateBehind_25 ?_
      refine wz_aload_n C rfl rfl dX12_mateBehind_27 ?_
      refine wz_getR C (j := 10) f_X12_mateBehind_51 rfl dX12_mateBehind_28 ?_
      refine wz_iload C rfl dX12_mateBehind_31 ?_
      obtain ⟨g5, h⟩ := h
      refine wz_iaload C l4.toNat (n := 14) rfl (zN g5) (zL g5) (by decide) rfl dX12_mateBehind_33 ?_
      refine wz_iconst C dX12_mateBehind_34 ?_
      obtain ⟨g6, h⟩ := h
      refine wz_icmp_ne C (tgt := 86) g6 (by decide) dX12_mateBehind_35 (by decide) (fun c => ?_) (fun c => ?_)
      · replace h := h.1 c
        refine wz_iinc_4 C rfl dX12_mateBehind_86 ?_
        refine wz_goto C dX12_mateBehind_89 (tgt := 9) (by decide) ?_
        exact Wz.drop (w9 l2 l3 (l4 + 1) I4 J4 h) (And.intro rfl (And.intro rfl (And.intro rfl (And.intro rfl (And.intro rfl trivial)))))
      · replace h := h.2 c
        refine wz_iload C rfl dX12_mateBehind_38 ?_
        refine wz_iload_n C rfl rfl dX12_mateBehind_40 ?_
        obtain ⟨g7, h⟩ := h
        obtain ⟨g8, h⟩ := h
        refine wz_icmp_le C (tgt := 86) g7 g8 dX12_mateBehind_41 (by decide) (fun c => ?_) (fun c => ?_)
        · replace h := h.1 c
          refine wz_iinc_4 C rfl dX12_mateBehind_86 ?_
          refine wz_goto C dX12_mateBehind_89 (tgt := 9) (by decide) ?_
          exact Wz.drop (w9 l2 l3 (l4 + 1) I4 J4 h) (And.intro rfl (And.intro rfl (And.intro rfl (And.intro rfl (And.intro rfl trivial)))))
        · replace h := h.2 c
          refine wz_aload_n C rfl rfl dX12_mateBehind_44 ?_
          refine wz_iload C rfl dX12_mateBehind_45 ?_
          refine wm_callV C (o := 0) (As := [.int (iZ l4)]) (st := []) (a' := 0) (b' := 0) rfl rfl (k_X12_groupPart G hG l4 I4 J4 _ h) 1 gX12_mateBehind_X12_groupPart rfl (by decide +kernel) (by rw [hX]; exact ⟨Nat.le_of_ble_eq_true rfl, Nat.le_of_ble_eq_true rfl⟩) rfl (Nat.le_of_ble_eq_true rfl) rfl rfl rfl dX12_mateBehind_47 (kk_sI (fun v9 I9 J9 h => ?_))
          refine wz_aload_n C rfl rfl dX12_mateBehind_50 ?_
          refine wz_iload_n C rfl rfl dX12_mateBehind_51 ?_
          refine wm_callV C (o := 0) (As := [.int (iZ l1)]) (st := [.int (iZ v9)]) (a' := 0) (b' := 0) rfl rfl (k_X12_groupPart G hG l1 I9 J9 _ h) 1 gX12_mateBehind_X12_groupPart rfl (by decide +kernel) (by rw [hX]; exact ⟨Nat.le_of_ble_eq_true rfl, Nat.le_of_ble_eq_true rfl⟩) rfl (Nat.le_of_ble_eq_true rfl) rfl rfl rfl dX12_mateBehind_52 (kk_sI (fun v10 I10 J10 h => ?_))
          obtain ⟨g11, h⟩ := h
          obtain ⟨g12, h⟩ := h
          refine wz_icmp_ne C (tgt := 86) g11 g12 dX12_mateBehind_55 (by decide) (fun c => ?_) (fun c => ?_)
          · replace h := h.1 c
            refine wz_iinc_4 C rfl dX12_mateBehind_86 ?_
            refine wz_goto C dX12_mateBehind_89 (tgt := 9) (by decide) ?_
            exact Wz.drop (w9 l2 l3 (l4 + 1) I10 J10 h) (And.intro rfl (And.intro rfl (And.intro rfl (And.intro rfl (And.intro rfl trivial)))))
          · replace h := h.2 c
            refine wz_aload_n C rfl rfl dX12_mateBehind_58 ?_
            refine wz_iload_n C rfl rfl dX12_mateBehind_59 ?_
            refine wm_callV C (o := 0) (As := [.int (iZ l1)]) (st := []) (a' := 0) (b' := 0) rfl rfl (k_X12_groupWeight G hG l1 I10 J10 _ h) 1 gX12_mateBehind_X12_groupWeight rfl (by decide +kernel) (by rw [hX]; exact ⟨Nat.le_of_ble_eq_true rfl, Nat.le_of_ble_eq_true rfl⟩) rfl (Nat.le_of_ble_eq_true rfl) rfl rfl rfl dX12_mateBehind_60 (kk_sI (fun v13 I13 J13 h => ?_))
            refine wz_aload_n C rfl rfl dX12_mateBehind_63 ?_
            refine wz_iload C rfl dX12_mateBehind_64 ?_
            refine wm_callV C (o := 0) (As := [.int (iZ l4)]) (st := [.int (iZ v13)]) (a' := 0) (b' := 0) rfl rfl (k_X12_groupWeight G hG l4 I13 J13 _ h) 1 gX12_mateBehind_X12_groupWeight rfl (by decide +kernel) (by rw [hX]; exact ⟨Nat.le_of_ble_eq_true rfl, Nat.le_of_ble_eq_true rfl⟩) rfl (Nat.le_of_ble_eq_true rfl) rfl rfl rfl dX12_mateBehind_66 (kk_sI (fun v14 I14 J14 h => ?_))
            refine wz_iadd C dX12_mateBehind_69 ?_
            refine wz_aload_n C rfl rfl dX12_mateBehind_70 ?_
            refine wm_callV C (o := 0) (As := []) (st := [.int (iZ (v13 + v14))]) (a' := 0) (b' := 0) rfl rfl (k_X12_limit G hG I14 J14 _ h) 0 gX12_mateBehind_X12_limit rfl (by decide +kernel) (by rw [hX]; exact ⟨Nat.le_of_ble_eq_true rfl, Nat.le_of_ble_eq_true rfl⟩) rfl (Nat.le_of_ble_eq_true rfl) rfl rfl rfl dX12_mateBehind_71 (kk_sI (fun v15 I15 J15 h => ?_))
            obtain ⟨g16, h⟩ := h
            obtain ⟨g17, h⟩ := h
            refine wz_icmp_le C (tgt := 80) g16 g17 dX12_mateBehind_74 (by decide) (fun c => ?_) (fun c => ?_)
            · replace h := h.1 c
              refine wz_iload C rfl dX12_mateBehind_80 ?_
              refine wz_istore_2 C rfl dX12_mateBehind_82 ?_
              refine wz_iload C rfl dX12_mateBehind_83 ?_
              refine wz_istore_3 C rfl dX12_mateBehind_85 ?_
              refine wz_iinc_4 C rfl dX12_mateBehind_86 ?_
              refine wz_goto C dX12_mateBehind_89 (tgt := 9) (by decide) ?_
              exact Wz.drop (w9 l4 v4 (l4 + 1) I15 J15 h) (And.intro rfl (And.intro rfl (And.intro rfl (And.intro rfl (And.intro rfl trivial)))))
            · replace h := h.2 c
              refine wz_goto C dX12_mateBehind_77 (tgt := 86) (by decide) ?_
              refine wz_iinc_4 C rfl dX12_mateBehind_86 ?_
              refine wz_goto C dX12_mateBehind_89 (tgt := 9) (by decide) ?_
              exact Wz.drop (w9 l2 l3 (l4 + 1) I15 J15 h) (And.intro rfl (And.intro rfl (And.intro rfl (And.intro rfl (And.intro rfl trivial)))))
set_option maxHeartbeats 4000000 in
set_option maxRecDepth 100000 in
theorem k_X12_mateBehind (G : KG) (hG : Kok G) (l1 : Int) (I : Ii) (J : Jj) (Q : Int → Ii → Jj → Prop) (h : wp_X12_mateBehind l1 I J Q) : Ctr G yX12_mateBehind wsX12_mateBehind rm_X12_mateBehind [.ref (kadr G 0), .int (iZ l1)] (I, J) (QsI Q) := by
  unfold wp_X12_mateBehind at h
  skip
  refine Ctr.ofZ (cc := cX12_mateBehind) (nL := 6) (ret := (some .int)) [some (.ref (kadr G 0)), some (.int (iZ l1)), none, none, none, none] hG (by decide +kernel) rfl (Nat.le_of_ble_eq_true rfl) (Nat.le_of_ble_eq_true rfl) (by simp [lvA, lv_args, Value.category]) ?_
  intro X hX C
  refine wz_iconst C dX12_mateBehind_0 ?_
  refine wz_istore_2 C rfl dX12_mateBehind_1 ?_
  refine wz_iconst C dX12_mateBehind_2 ?_
  refine wz_istore_3 C rfl dX12_mateBehind_3 ?_
  refine wz_iload_n C rfl rfl dX12_mateBehind_4 ?_
  refine wz_iconst C dX12_mateBehind_5 ?_
  refine wz_iadd C dX12_mateBehind_6 ?_
  refine wz_istore_4 C rfl dX12_mateBehind_7 ?_
  obtain ⟨n, h⟩ := h
  exact lk_X12_mateBehind_9 G hG X hX C l1 Q n (-1) 0 (l1 + 1) I J h
theorem in_X12_laysMates_X12 : ∀ w ∈ wsX120, w ∈ wsX12_laysMates := by decide +kernel
theorem f_X12_laysMates_51 : FLk wsX12_laysMates RX12 51 12 28 := flk 12 28 rfl tyX12_ok nmX12 in_X12_laysMates_X12 (by decide) (by decide +kernel)
def rm_X12_laysMates : Room := { frames := 3, cells := 0, slots := 0, locals := 72 }
set_option maxHeartbeats 4000000 in
set_option maxRecDepth 100000 in
theorem bk_X12_laysMates_52 (G : KG) (hG : Kok G) (X : KX) (hX : KR X = rm_X12_laysMates) (C : Fr G X cX12_laysMates 4 yX12_laysMates.cls (some .int) wsX12_laysMates) (Q : Int → Ii → Jj → Prop) (r25 : Int → Int → Ii → Jj → Prop) (w25 : ∀ (l1 : Int) (l2 : Int) (I : Ii) (J : Jj), r25 l1 l2 I J → Wz G X 4 (QsU G X (QsI Q)) 0 0 25 [some (.ref (kadr G 0)), some (.int (iZ l1)), some (.int (iZ l2)), none] [] I J) (l1 : Int) (l2 : Int) (t0 : Int) (I : Ii) (J : Jj) (h : B_X12_laysMates_52 Q r25 l1 l2 t0 I J) : Wz G X 4 (QsU G X (QsI Q)) 0 0 52 [some (.ref (kadr G 0)), some (.int (iZ l1)), some (.int (iZ l2)), none] [.int (iZ t0)] I J := by
  unfold B_X12_laysMates_52 at h
  refine wz_istore_3 C rfl dX12_laysMates_52 ?_
  refine wz_iload_n C rfl rfl dX12_laysMates_53 ?_
  refine wz_iconst C dX12_laysMates_54 ?_
  obtain ⟨g10, h⟩ := h
  refine wz_icmp_ne C (tgt := 61) g10 (by decide) dX12_laysMates_55 (by decide) (fun c => ?_) (fun c => ?_)
  · replace h := h.1 c
    refine wz_aload_n C rfl rfl dX12_laysMates_61 ?_
    refine wz_getR C (j := 10) f_X12_laysMates_51 rfl dX12_laysMates_62 ?_
    refine wz_iload_n C rfl rfl dX12_laysMates_65 ?_
    refine wz_iload_n C rfl rfl dX12_laysMates_66 ?_
    obtain ⟨g11, h⟩ := h
    refine wd_iastore C l2.toNat (n := 14) rfl (zN g11) (zL g11) (by decide) dX12_laysMates_67 (fun I12 e => ?_)
    replace h := h I12 e
    refine wz_aload_n C rfl rfl dX12_laysMates_68 ?_
    refine wz_getR C (j := 10) f_X12_laysMates_51 rfl dX12_laysMates_69 ?_
    refine wz_iload_n C rfl rfl dX12_laysMates_72 ?_
    refine wz_iload_n C rfl rfl dX12_laysMates_73 ?_
    obtain ⟨g13, h⟩ := h
    refine wd_iastore C t0.toNat (n := 14) rfl (zN g13) (zL g13) (by decide) dX12_laysMates_74 (fun I14 e => ?_)
    replace h := h I14 e
    refine wz_iinc_1 C rfl dX12_laysMates_75 ?_
    refine wz_iinc_2 C rfl dX12_laysMates_78 ?_
    refine wz_goto C dX12_laysMates_81 (tgt := 25) (by decide) ?_
    exact Wz.drop (w25 (l1 + 1) (l2 + 1) I14 J h) (And.intro rfl (And.intro rfl (And.intro rfl trivial)))
  · replace h := h.2 c
    refine wz_goto C dX12_laysMates_58 (tgt := 78) (by decide) ?_
    refine wz_iinc_2 C rfl dX12_laysMates_78 ?_
    refine wz_goto C dX12_laysMates_81 (tgt := 25) (by decide) ?_
    exact Wz.drop (w25 l1 (l2 + 1) I J h) (And.intro rfl (And.intro rfl (And.intro rfl trivial)))
set_option maxHeartbeats 4000000 in
set_option maxRecDepth 100000 in
theorem lk_X12_laysMates_25 (G : KG) (hG : Kok G) (X : KX) (hX : KR X = rm_X12_laysMates) (C : Fr G X cX12_laysMates 4 yX12_laysMates.cls (some .int) wsX12_laysMates) (Q : Int → Ii → Jj → Prop) : ∀ (n : Nat) (l1 : Int) (l2 : Int) (I : Ii) (J : Jj), L_X12_laysMates_25 Q n l1 l2 I J → Wz G X 4 (QsU G X (QsI Q)) 0 0 25 [some (.ref (kadr G 0)), some (.int (iZ l1)), some (.int (iZ l2)), none] [] I J := by
  intro n
  induction n with
  | zero => intro l1 l2 I J h; exact False.elim h
  | succ n w25 =>
    intro l1 l2 I J h
    have h : Lb_X12_laysMates_25 Q (L_X12_laysMates_25 Q n) l1 l2 I J := h
    unfold Lb_X12_laysMates_25 at h
    generalize L_X12_laysMates_25 Q n = r25 at h w25
    refine wz_iload_n C rfl rfl dX12_laysMates_25 ?_
    refine wz_aload_n C rfl rfl dX12_laysMates_26 ?_
    refine wm_callV C (o := 0) (As := []) (st := [.int (iZ l2)]) (a' := 0) (b' := 0) rfl rfl (k_X12_groups G hG I J _ h) 0 gX12_laysMates_X12_groups rfl (by decide +kernel) (by rw [hX]; exact ⟨Nat.le_of_ble_eq_true rfl, Nat.le_of_ble_eq_true rfl⟩) rfl (Nat.le_of_ble_eq_true rfl) rfl rfl rfl dX12_laysMates_27 (kk_sI (fun v4 I4 J4 h => ?_))
    obtain ⟨g5, h⟩ := h
    obtain ⟨g6, h⟩ := h
    refine wz_icmp_ge C (tgt := 84) g5 g6 dX12_laysMates_30 (by decide) (fun c => ?_) (fun c => ?_)
    · replace h := h.1 c
      refine wz_iload_n C rfl rfl dX12_laysMates_84 ?_
      exact wz_iret C dX12_laysMates_85 ⟨_, rfl, h⟩
    · replace h := h.2 c
      refine wz_aload_n C rfl rfl dX12_laysMates_33 ?_
      refine wz_getR C (j := 10) f_X12_laysMates_51 rfl dX12_laysMates_34 ?_
      refine wz_iload_n C rfl rfl dX12_laysMates_37 ?_
      obtain ⟨g7, h⟩ := h
      refine wz_iaload C l2.toNat (n := 14) rfl (zN g7) (zL g7) (by decide) rfl dX12_laysMates_38 ?_
      refine wz_iconst C dX12_laysMates_39 ?_
      obtain ⟨g8, h⟩ := h
      refine wz_icmp_ne C (tgt := 51) g8 (by decide) dX12_laysMates_40 (by decide) (fun c => ?_) (fun c => ?_)
      · replace h := h.1 c
        refine wz_iconst C dX12_laysMates_51 ?_
        exact bk_X12_laysMates_52 G hG X hX C Q r25 w25 l1 l2 (-1) I4 J4 h
      · replace h := h.2 c
        refine wz_aload_n C rfl rfl dX12_laysMates_43 ?_
        refine wz_iload_n C rfl rfl dX12_laysMates_44 ?_
        refine wm_callV C (o := 0) (As := [.int (iZ l2)]) (st := []) (a' := 0) (b' := 0) rfl rfl (k_X12_mateBehind G hG l2 I4 J4 _ h) 1 gX12_laysMates_X12_mateBehind rfl (by decide +kernel) (by rw [hX]; exact ⟨Nat.le_of_ble_eq_true rfl, Nat.le_of_ble_eq_true rfl⟩) rfl (Nat.le_of_ble_eq_true rfl) rfl rfl rfl dX12_laysMates_45 (kk_sI (fun v9 I9 J9 h => ?_))
        refine wz_goto C dX12_laysMates_48 (tgt := 52) (by decide) ?_
        exact bk_X12_laysMates_52 G hG X hX C Q r25 w25 l1 l2 v9 I9 J9 h
set_option maxHeartbeats 4000000 in
set_option maxRecDepth 100000 in
theorem lk_X12_laysMates_4 (G : KG) (hG : Kok G) (X : KX) (hX : KR X = rm_X12_laysMates) (C : Fr G X cX12_laysMates 4 yX12_laysMates.cls (some .int) wsX12_laysMates) (Q : Int → Ii → Jj → Prop) : ∀ (n : Nat) (l1 : Int) (l2 : Int) (I : Ii) (J : Jj), L_X12_laysMates_4 Q n l1 l2 I J → Wz G X 4 (QsU G X (QsI Q)) 0 0 4 [some (.ref (kadr G 0)), some (.int (iZ l1)), some (.int (iZ l2)), none] [] I J := by
  intro n
  induction n with
  | zero => intro l1 l2 I J h; exact False.elim h
  | succ n w4 =>
    intro l1 l2 I J h
    have h : Lb_X12_laysMates_4 Q (L_X12_laysMates_4 Q n) l1 l2 I J := h
    unfold Lb_X12_laysMates_4 at h
    generalize L_X12_laysMates_4 Q n = r4 at h w4
    refine wz_iload_n C rfl rfl dX12_laysMates_4 ?_
    refine wz_bipush C (by decide) dX12_laysMates_5 ?_
    obtain ⟨g1, h⟩ := h
    refine wz_icmp_ge C (tgt := 23) g1 (by decide) dX12_laysMates_7 (by decide) (fun c => ?_) (fun c => ?_)
    · replace h := h.1 c
      refine wz_iconst C dX12_laysMates_23 ?_
      refine wz_istore_2 C rfl dX12_laysMates_24 ?_
      obtain ⟨n, h⟩ := h
      exact lk_X12_laysMates_25 G hG X hX C Q n l1 0 I J h
    · replace h := h.2 c
      refine wz_aload_n C rfl rfl dX12_laysMates_10 ?_
      refine wz_getR C (j := 10) f_X12_laysMates_51 rfl dX12_laysMates_11 ?_
      refine wz_iload_n C rfl rfl dX12_laysMates_14 ?_
      refine wz_iconst C dX12_laysMates_15 ?_
      obtain ⟨g2, h⟩ := h
      refine wd_iastore C l2.toNat (n := 14) rfl (zN g2) (zL g2) (by decide) dX12_laysMates_16 (fun I3 e => ?_)
      replace h := h I3 e
      refine wz_iinc_2 C rfl dX12_laysMates_17 ?_
      refine wz_goto C dX12_laysMates_20 (tgt := 4) (by decide) ?_
      exact w4 l1 (l2 + 1) I3 J h
set_option maxHeartbeats 4000000 in
set_option maxRecDepth 100000 in
theorem k_X12_laysMates (G : KG) (hG : Kok G) (I : Ii) (J : Jj) (Q : Int → Ii → Jj → Prop) (h : wp_X12_laysMates I J Q) : Ctr G yX12_laysMates wsX12_laysMates rm_X12_laysMates [.ref (kadr G 0)] (I, J) (QsI Q) := by
  unfold wp_X12_laysMates at h
  skip
  refine Ctr.ofZ (cc := cX12_laysMates) (nL := 4) (ret := (some .int)) [some (.ref (kadr G 0)), none, none, none] hG (by decide +kernel) rfl (Nat.le_of_ble_eq_true rfl) (Nat.le_of_ble_eq_true rfl) (by simp [lvA, lv_args, Value.category]) ?_
  intro X hX C
  refine wz_iconst C dX12_laysMates_0 ?_
  refine wz_istore_1 C rfl dX12_laysMates_1 ?_
  refine wz_iconst C dX12_laysMates_2 ?_
  refine wz_istore_2 C rfl dX12_laysMates_3 ?_
  obtain ⟨n, h⟩ := h
  exact lk_X12_laysMates_4 G hG X hX C Q n 0 0 I J h
theorem in_X12_whyShrink_X12 : ∀ w ∈ wsX120, w ∈ wsX12_whyShrink := by decide +kernel
theorem f_X12_whyShrink_26 : FLk wsX12_whyShrink RX12 26 12 15 := flk 12 15 rfl tyX12_ok nmX12 in_X12_whyShrink_X12 (by decide) (by decide +kernel)
def rm_X12_whyShrink : Room := { frames := 4, cells := 0, slots := 0, locals := 95 }
set_option maxHeartbeats 4000000 in
set_option maxRecDepth 100000 in
theorem k_X12_whyShrink (G : KG) (hG : Kok G) (I : Ii) (J : Jj) (Q : Int → Ii → Jj → Prop) (h : wp_X12_whyShrink I J Q) : Ctr G yX12_whyShrink wsX12_whyShrink rm_X12_whyShrink [.ref (kadr G 0)] (I, J) (QsI Q) := by
  unfold wp_X12_whyShrink at h
  skip
  refine Ctr.ofZ (cc := cX12_whyShrink) (nL := 1) (ret := (some .int)) [some (.ref (kadr G 0))] hG (by decide +kernel) rfl (Nat.le_of_ble_eq_true rfl) (Nat.le_of_ble_eq_true rfl) (by simp [lvA, lv_args, Value.category]) ?_
  intro X hX C
  refine wz_aload_n C rfl rfl dX12_whyShrink_0 ?_
  refine wz_getR C (j := 2) f_X12_whyShrink_26 rfl dX12_whyShrink_1 ?_
  refine wz_iconst C dX12_whyShrink_4 ?_
  refine wz_iaload C 5 (n := 350) rfl rfl (by decide) (by decide) rfl dX12_whyShrink_5 ?_
  refine wz_iconst C dX12_whyShrink_6 ?_
  obtain ⟨g1, h⟩ := h
  refine wz_icmp_ne C (tgt := 14) g1 (by decide) dX12_whyShrink_7 (by decide) (fun c => ?_) (fun c => ?_)
  · replace h := h.1 c
    refine wz_aload_n C rfl rfl dX12_whyShrink_14 ?_
    refine wm_callV C (o := 0) (As := []) (st := []) (a' := 0) (b' := 0) rfl rfl (k_X12_laysMates G hG I J _ h) 0 gX12_whyShrink_X12_laysMates rfl (by decide +kernel) (by rw [hX]; exact ⟨Nat.le_of_ble_eq_true rfl, Nat.le_of_ble_eq_true rfl⟩) rfl (Nat.le_of_ble_eq_true rfl) rfl rfl rfl dX12_whyShrink_15 (kk_sI (fun v2 I2 J2 h => ?_))
    obtain ⟨g3, h⟩ := h
    refine wz_if_ne C (tgt := 25) g3 dX12_whyShrink_18 (by decide) (fun c => ?_) (fun c => ?_)
    · replace h := h.1 c
      refine wz_iconst C dX12_whyShrink_25 ?_
      exact wz_iret C dX12_whyShrink_26 ⟨_, rfl, h⟩
    · replace h := h.2 c
      refine wz_iconst C dX12_whyShrink_21 ?_
      refine wz_goto C dX12_whyShrink_22 (tgt := 26) (by decide) ?_
      exact wz_iret C dX12_whyShrink_26 ⟨_, rfl, h⟩
  · replace h := h.2 c
    refine wz_iconst C dX12_whyShrink_10 ?_
    refine wz_goto C dX12_whyShrink_11 (tgt := 26) (by decide) ?_
    exact wz_iret C dX12_whyShrink_26 ⟨_, rfl, h⟩
theorem in_X12_whyNotShrink_X12 : ∀ w ∈ wsX120, w ∈ wsX12_whyNotShrink := by decide +kernel
theorem f_X12_whyNotShrink_90 : FLk wsX12_whyNotShrink RX12 90 12 0 := flk 12 0 rfl tyX12_ok nmX12 in_X12_whyNotShrink_X12 (by decide) (by decide +kernel)
def rm_X12_whyNotShrink : Room := { frames := 5, cells := 0, slots := 0, locals := 115 }
set_option maxHeartbeats 4000000 in
set_option maxRecDepth 100000 in
theorem k_X12_whyNotShrink (G : KG) (hG : Kok G) (I : Ii) (J : Jj) (Q : Int → Ii → Jj → Prop) (h : wp_X12_whyNotShrink I J Q) : Ctr G yX12_whyNotShrink wsX12_whyNotShrink rm_X12_whyNotShrink [.ref (kadr G 0)] (I, J) (QsI Q) := by
  unfold wp_X12_whyNotShrink at h
  skip
  refine Ctr.ofZ (cc := cX12_whyNotShrink) (nL := 1) (ret := (some .int)) [some (.ref (kadr G 0))] hG (by decide +kernel) rfl (Nat.le_of_ble_eq_true rfl) (Nat.le_of_ble_eq_true rfl) (by simp [lvA, lv_args, Value.category]) ?_
  intro X hX C
  refine wz_aload_n C rfl rfl dX12_whyNotShrink_0 ?_
  refine wz_iconst C dX12_whyNotShrink_1 ?_
  refine wd_putI C f_X12_whyNotShrink_90 fp_X12_0 rfl dX12_whyNotShrink_2 (fun I1 e => ?_)
  replace h := h I1 e
  refine wz_aload_n C rfl rfl dX12_whyNotShrink_5 ?_
  refine wm_callV C (o := 0) (As := []) (st := []) (a' := 0) (b' := 0) rfl rfl (k_X12_whyShrink G hG I1 J _ h) 0 gX12_whyNotShrink_X12_whyShrink rfl (by decide +kernel) (by rw [hX]; exact ⟨Nat.le_of_ble_eq_true rfl, Nat.le_of_ble_eq_true rfl⟩) rfl (Nat.le_of_ble_eq_true rfl) rfl rfl rfl dX12_whyNotShrink_6 (kk_sI (fun v2 I2 J2 h => ?_))
  exact wz_iret C dX12_whyNotShrink_9 ⟨_, rfl, h⟩
theorem in_X12_mate_X12 : ∀ w ∈ wsX120, w ∈ wsX12_mate := by decide +kernel
theorem f_X12_mate_51 : FLk wsX12_mate RX12 51 12 28 := flk 12 28 rfl tyX12_ok nmX12 in_X12_mate_X12 (by decide) (by decide +kernel)
def rm_X12_mate : Room := { frames := 4, cells := 0, slots := 0, locals := 95 }
set_option maxHeartbeats 4000000 in
set_option maxRecDepth 100000 in
theorem k_X12_mate (G : KG) (hG : Kok G) (l1 : Int) (I : Ii) (J : Jj) (Q : Int → Ii → Jj → Prop) (h : wp_X12_mate l1 I J Q) : Ctr G yX12_mate wsX12_mate rm_X12_mate [.ref (kadr G 0), .int (iZ l1)] (I, J) (QsI Q) := by
  unfold wp_X12_mate at h
  skip
  refine Ctr.ofZ (cc := cX12_mate) (nL := 3) (ret := (some .int)) [some (.ref (kadr G 0)), some (.int (iZ l1)), none] hG (by decide +kernel) rfl (Nat.le_of_ble_eq_true rfl) (Nat.le_of_ble_eq_true rfl) (by simp [lvA, lv_args, Value.category]) ?_
  intro X hX C
  refine wz_aload_n C rfl rfl dX12_mate_0 ?_
  refine wz_aload_n C rfl rfl dX12_mate_1 ?_
  refine wz_iload_n C rfl rfl dX12_mate_2 ?_
  refine wm_callV C (o := 0) (As := [.int (iZ l1)]) (st := [.ref (kadr G 0)]) (a' := 0) (b' := 0) rfl rfl (k_X12_isGroup G hG l1 I J _ h) 1 gX12_mate_X12_isGroup rfl (by decide +kernel) (by rw [hX]; exact ⟨Nat.le_of_ble_eq_true rfl, Nat.le_of_ble_eq_true rfl⟩) rfl (Nat.le_of_ble_eq_true rfl) rfl rfl rfl dX12_mate_3 (kk_sB (fun v1 I1 J1 hb1 h => ?_))
  refine wm_callV C (o := 0) (As := [.int (iZ v1)]) (st := []) (a' := 0) (b' := 0) rfl rfl (k_X12_goes G hG v1 I1 J1 _ h) 1 gX12_mate_X12_goes rfl (by decide +kernel) (by rw [hX]; exact ⟨Nat.le_of_ble_eq_true rfl, Nat.le_of_ble_eq_true rfl⟩) rfl (Nat.le_of_ble_eq_true rfl) rfl rfl rfl dX12_mate_6 (kk_sB (fun v2 I2 J2 hb2 h => ?_))
  refine wz_if_ne C (tgt := 14) (rgB hb2) dX12_mate_9 (by decide) (fun c => ?_) (fun c => ?_)
  · replace h := h.1 c
    refine wz_aload_n C rfl rfl dX12_mate_14 ?_
    refine wm_callV C (o := 0) (As := []) (st := []) (a' := 0) (b' := 0) rfl rfl (k_X12_laysMates G hG I2 J2 _ h) 0 gX12_mate_X12_laysMates rfl (by decide +kernel) (by rw [hX]; exact ⟨Nat.le_of_ble_eq_true rfl, Nat.le_of_ble_eq_true rfl⟩) rfl (Nat.le_of_ble_eq_true rfl) rfl rfl rfl dX12_mate_15 (kk_sI (fun v3 I3 J3 h => ?_))
    refine wz_istore_2 C rfl dX12_mate_18 ?_
    refine wz_aload_n C rfl rfl dX12_mate_19 ?_
    refine wz_getR C (j := 10) f_X12_mate_51 rfl dX12_mate_20 ?_
    refine wz_iload_n C rfl rfl dX12_mate_23 ?_
    obtain ⟨g4, h⟩ := h
    refine wz_iaload C l1.toNat (n := 14) rfl (zN g4) (zL g4) (by decide) rfl dX12_mate_24 ?_
    exact wz_iret C dX12_mate_25 ⟨_, rfl, h⟩
  · replace h := h.2 c
    refine wz_iconst C dX12_mate_12 ?_
    exact wz_iret C dX12_mate_13 ⟨_, rfl, h⟩
theorem in_X12_gainOf_X12 : ∀ w ∈ wsX120, w ∈ wsX12_gainOf := by decide +kernel
theorem f_X12_gainOf_26 : FLk wsX12_gainOf RX12 26 12 15 := flk 12 15 rfl tyX12_ok nmX12 in_X12_gainOf_X12 (by decide) (by decide +kernel)
def rm_X12_gainOf : Room := { frames := 2, cells := 0, slots := 0, locals := 43 }
set_option maxHeartbeats 4000000 in
set_option maxRecDepth 100000 in
theorem bk_X12_gainOf_122 (G : KG) (hG : Kok G) (X : KX) (hX : KR X = rm_X12_gainOf) (C : Fr G X cX12_gainOf 9 yX12_gainOf.cls (some .int) wsX12_gainOf) (l1 : Int) (l2 : Int) (Q : Int → Ii → Jj → Prop) (r12 : Int → Int → Int → Ii → Jj → Prop) (w12 : ∀ (l3 : Int) (l4 : Int) (l5 : Int) (I : Ii) (J : Jj), r12 l3 l4 l5 I J → Wz G X 9 (QsU G X (QsI Q)) 0 0 12 [some (.ref (kadr G 0)), some (.int (iZ l1)), some (.int (iZ l2)), some (.int (iZ l3)), some (.int (iZ l4)), some (.int (iZ l5)), none, none, none] [] I J) (l3 : Int) (l4 : Int) (l5 : Int) (t0 : Int) (I : Ii) (J : Jj) (h : B_X12_gainOf_122 l1 l2 Q r12 l3 l4 l5 t0 I J) : Wz G X 9 (QsU G X (QsI Q)) 0 0 122 [some (.ref (kadr G 0)), some (.int (iZ l1)), some (.int (iZ l2)), some (.int (iZ l3)), some (.int (iZ l4)), some (.int (iZ l5)), none, none, none] [.int (iZ t0)] I J := by
  unfold B_X12_gainOf_122 at h
  refine wz_istore_8 C rfl dX12_gainOf_122 ?_
  refine wz_iload C rfl dX12_gainOf_124 ?_
  refine wz_iload C rfl dX12_gainOf_126 ?_
  refine wz_iload_n C rfl rfl dX12_gainOf_128 ?_
  obtain ⟨g21, h⟩ := h
  obtain ⟨g22, h⟩ := h
  refine wz_icmp_ne C (tgt := 146) g21 g22 dX12_gainOf_129 (by decide) (fun c => ?_) (fun c => ?_)
  · replace h := h.1 c
    refine wz_iload C rfl dX12_gainOf_146 ?_
    refine wz_iload_n C rfl rfl dX12_gainOf_148 ?_
    obtain ⟨g23, h⟩ := h
    refine wz_icmp_ne C (tgt := 167) g21 g23 dX12_gainOf_149 (by decide) (fun c => ?_) (fun c => ?_)
    · replace h := h.1 c
      refine wz_iconst C dX12_gainOf_167 ?_
      refine wz_iadd C dX12_gainOf_168 ?_
      refine wz_istore_4 C rfl dX12_gainOf_169 ?_
      refine wz_iinc_5 C rfl dX12_gainOf_171 ?_
      refine wz_goto C dX12_gainOf_174 (tgt := 12) (by decide) ?_
      exact Wz.drop (w12 l3 (l4 + 0) (l5 + 1) I J h) (And.intro rfl (And.intro rfl (And.intro rfl (And.intro rfl (And.intro rfl (And.intro rfl trivial))))))
    · replace h := h.2 c
      refine wz_aload_n C rfl rfl dX12_gainOf_152 ?_
      refine wz_getR C (j := 2) f_X12_gainOf_26 rfl dX12_gainOf_153 ?_
      refine wz_sipush C (by decide) dX12_gainOf_156 ?_
      refine wz_iload C rfl dX12_gainOf_159 ?_
      refine wz_iadd C dX12_gainOf_161 ?_
      obtain ⟨g24, h⟩ := h
      refine wz_iaload C ((190 + l5).toNat) (n := 350) rfl (zN g24) (zL g24) (by decide) rfl dX12_gainOf_162 ?_
      refine wz_ineg C dX12_gainOf_163 ?_
      refine wz_goto C dX12_gainOf_164 (tgt := 168) (by decide) ?_
      refine wz_iadd C dX12_gainOf_168 ?_
      refine wz_istore_4 C rfl dX12_gainOf_169 ?_
      refine wz_iinc_5 C rfl dX12_gainOf_171 ?_
      refine wz_goto C dX12_gainOf_174 (tgt := 12) (by decide) ?_
      exact Wz.drop (w12 l3 (l4 + (-(I 2 ((190 + l5).toNat)))) (l5 + 1) I J h) (And.intro rfl (And.intro rfl (And.intro rfl (And.intro rfl (And.intro rfl (And.intro rfl trivial))))))
  · replace h := h.2 c
    refine wz_aload_n C rfl rfl dX12_gainOf_132 ?_
    refine wz_getR C (j := 2) f_X12_gainOf_26 rfl dX12_gainOf_133 ?_
    refine wz_sipush C (by decide) dX12_gainOf_136 ?_
    refine wz_iload C rfl dX12_gainOf_139 ?_
    refine wz_iadd C dX12_gainOf_141 ?_
    obtain ⟨g25, h⟩ := h
    refine wz_iaload C ((190 + l5).toNat) (n := 350) rfl (zN g25) (zL g25) (by decide) rfl dX12_gainOf_142 ?_
    refine wz_goto C dX12_gainOf_143 (tgt := 168) (by decide) ?_
    refine wz_iadd C dX12_gainOf_168 ?_
    refine wz_istore_4 C rfl dX12_gainOf_169 ?_
    refine wz_iinc_5 C rfl dX12_gainOf_171 ?_
    refine wz_goto C dX12_gainOf_174 (tgt := 12) (by decide) ?_
    exact Wz.drop (w12 l3 (l4 + (I 2 ((190 + l5).toNat))) (l5 + 1) I J h) (And.intro rfl (And.intro rfl (And.intro rfl (And.intro rfl (And.intro rfl (And.intro rfl trivial))))))
set_option maxHeartbeats 4000000 in
set_option maxRecDepth 100000 in
theorem bk_X12_gainOf_83 (G : KG) (hG : Kok G) (X : KX) (hX : KR X = rm_X12_gainOf) (C : Fr G X cX12_gainOf 9 yX12_gainOf.cls (some .int) wsX12_gainOf) (l1 : Int) (l2 : Int) (Q : Int → Ii → Jj → Prop) (r12 : Int → Int → Int → Ii → Jj → Prop) (w12 : ∀ (l3 : Int) (l4 : Int) (l5 : Int) (I : Ii) (J : Jj), r12 l3 l4 l5 I J → Wz G X 9 (QsU G X (QsI Q)) 0 0 12 [some (.ref (kadr G 0)), some (.int (iZ l1)), some (.int (iZ l2)), some (.int (iZ l3)), some (.int (iZ l4)), some (.int (iZ l5)), none, none, none] [] I J) (l3 : Int) (l4 : Int) (l5 : Int) (l6 : Int) (l7 : Int) (t0 : Int) (t1 : Int) (I : Ii) (J : Jj) (h : B_X12_gainOf_83 l1 l2 Q r12 l3 l4 l5 l6 l7 t0 t1 I J) : Wz G X 9 (QsU G X (QsI Q)) 0 0 83 [some (.ref (kadr G 0)), some (.int (iZ l1)), some (.int (iZ l2)), some (.int (iZ l3)), some (.int (iZ l4)), some (.int (iZ l5)), some (.int (iZ l6)), some (.int (iZ l7)), none] [.int (iZ t1), .int (iZ t0)] I J := by
  unfold B_X12_gainOf_83 at h
  obtain ⟨g14, h⟩ := h
  obtain ⟨g15, h⟩ := h
  refine wz_icmp_ne C (tgt := 89) g14 g15 dX12_gainOf_83 (by decide) (fun c => ?_) (fun c => ?_)
  · replace h := h.1 c
    refine wz_aload_n C rfl rfl dX12_gainOf_89 ?_
    refine wz_iload C rfl dX12_gainOf_90 ?_
    refine wm_callV C (o := 0) (As := [.int (iZ l6)]) (st := []) (a' := 0) (b' := 0) rfl rfl (k_X12_groupAt G hG l6 I J _ h) 1 gX12_gainOf_X12_groupAt rfl (by decide +kernel) (by rw [hX]; exact ⟨Nat.le_of_ble_eq_true rfl, Nat.le_of_ble_eq_true rfl⟩) rfl (Nat.le_of_ble_eq_true rfl) rfl rfl rfl dX12_gainOf_92 (kk_sI (fun v16 I16 J16 h => ?_))
    refine wz_iload_n C rfl rfl dX12_gainOf_95 ?_
    obtain ⟨g17, h⟩ := h
    obtain ⟨g18, h⟩ := h
    refine wz_icmp_ne C (tgt := 112) g17 g18 dX12_gainOf_96 (by decide) (fun c => ?_) (fun c => ?_)
    · replace h := h.1 c
      refine wz_aload_n C rfl rfl dX12_gainOf_112 ?_
      refine wz_getR C (j := 2) f_X12_gainOf_26 rfl dX12_gainOf_113 ?_
      refine wz_bipush C (by decide) dX12_gainOf_116 ?_
      refine wz_iload C rfl dX12_gainOf_118 ?_
      refine wz_iadd C dX12_gainOf_120 ?_
      obtain ⟨g19, h⟩ := h
      refine wz_iaload C ((21 + l6).toNat) (n := 350) rfl (zN g19) (zL g19) (by decide) rfl dX12_gainOf_121 ?_
      exact Wz.drop (bk_X12_gainOf_122 G hG X hX C l1 l2 Q r12 w12 l3 l4 l5 (I16 2 ((21 + l6).toNat)) I16 J16 h) (And.intro rfl (And.intro rfl (And.intro rfl (And.intro rfl (And.intro rfl (And.intro rfl trivial))))))
    · replace h := h.2 c
      refine wz_aload_n C rfl rfl dX12_gainOf_99 ?_
      refine wz_getR C (j := 2) f_X12_gainOf_26 rfl dX12_gainOf_100 ?_
      refine wz_bipush C (by decide) dX12_gainOf_103 ?_
      refine wz_iload C rfl dX12_gainOf_105 ?_
      refine wz_iadd C dX12_gainOf_107 ?_
      obtain ⟨g20, h⟩ := h
      refine wz_iaload C ((21 + l7).toNat) (n := 350) rfl (zN g20) (zL g20) (by decide) rfl dX12_gainOf_108 ?_
      refine wz_goto C dX12_gainOf_109 (tgt := 122) (by decide) ?_
      exact Wz.drop (bk_X12_gainOf_122 G hG X hX C l1 l2 Q r12 w12 l3 l4 l5 (I16 2 ((21 + l7).toNat)) I16 J16 h) (And.intro rfl (And.intro rfl (And.intro rfl (And.intro rfl (And.intro rfl (And.intro rfl trivial))))))
  · replace h := h.2 c
    refine wz_goto C dX12_gainOf_86 (tgt := 171) (by decide) ?_
    refine wz_iinc_5 C rfl dX12_gainOf_171 ?_
    refine wz_goto C dX12_gainOf_174 (tgt := 12) (by decide) ?_
    exact Wz.drop (w12 l3 l4 (l5 + 1) I J h) (And.intro rfl (And.intro rfl (And.intro rfl (And.intro rfl (And.intro rfl (And.intro rfl trivial))))))
set_option maxHeartbeats 4000000 in
set_option maxRecDepth 100000 in
theorem bk_X12_gainOf_68 (G : KG) (hG : Kok G) (X : KX) (hX : KR X = rm_X12_gainOf) (C : Fr G X cX12_gainOf 9 yX12_gainOf.cls (some .int) wsX12_gainOf) (l1 : Int) (l2 : Int) (Q : Int → Ii → Jj → Prop) (r12 : Int → Int → Int → Ii → Jj → Prop) (w12 : ∀ (l3 : Int) (l4 : Int) (l5 : Int) (I : Ii) (J : Jj), r12 l3 l4 l5 I J → Wz G X 9 (QsU G X (QsI Q)) 0 0 12 [some (.ref (kadr G 0)), some (.int (iZ l1)), some (.int (iZ l2)), some (.int (iZ l3)), some (.int (iZ l4)), some (.int (iZ l5)), none, none, none] [] I J) (l3 : Int) (l4 : Int) (l5 : Int) (l6 : Int) (l7 : Int) (t0 : Int) (I : Ii) (J : Jj) (h : B_X12_gainOf_68 l1 l2 Q r12 l3 l4 l5 l6 l7 t0 I J) : Wz G X 9 (QsU G X (QsI Q)) 0 0 68 [some (.ref (kadr G 0)), some (.int (iZ l1)), some (.int (iZ l2)), some (.int (iZ l3)), some (.int (iZ l4)), some (.int (iZ l5)), some (.int (iZ l6)), some (.int (iZ l7)), none] [.int (iZ t0)] I J := by
  unfold B_X12_gainOf_68 at h
  refine wz_aload_n C rfl rfl dX12_gainOf_68 ?_
  refine wz_iload C rfl dX12_gainOf_69 ?_
  refine wm_callV C (o := 0) (As := [.int (iZ l7)]) (st := [.int (iZ t0)]) (a' := 0) (b' := 0) rfl rfl (k_X12_groupAt G hG l7 I J _ h) 1 gX12_gainOf_X12_groupAt rfl (by decide +kernel) (by rw [hX]; exact ⟨Nat.le_of_ble_eq_true rfl, Nat.le_of_ble_eq_true rfl⟩) rfl (Nat.le_of_ble_eq_true rfl) rfl rfl rfl dX12_gainOf_71 (kk_sI (fun v11 I11 J11 h => ?_))
  refine wz_iload_n C rfl rfl dX12_gainOf_74 ?_
  obtain ⟨g12, h⟩ := h
  obtain ⟨g13, h⟩ := h
  refine wz_icmp_ne C (tgt := 82) g12 g13 dX12_gainOf_75 (by decide) (fun c => ?_) (fun c => ?_)
  · replace h := h.1 c
    refine wz_iconst C dX12_gainOf_82 ?_
    exact bk_X12_gainOf_83 G hG X hX C l1 l2 Q r12 w12 l3 l4 l5 l6 l7 t0 0 I11 J11 h
  · replace h := h.2 c
    refine wz_iconst C dX12_gainOf_78 ?_
    refine wz_goto C dX12_gainOf_79 (tgt := 83) (by decide) ?_
    exact bk_X12_gainOf_83 G hG X hX C l1 l2 Q r12 w12 l3 l4 l5 l6 l7 t0 1 I11 J11 h
set_option maxHeartbeats 4000000 in
set_option maxRecDepth 100000 in
theorem lk_X12_gainOf_12 (G : KG) (hG : Kok G) (X : KX) (hX : KR X = rm_X12_gainOf) (C : Fr G X cX12_gainOf 9 yX12_gainOf.cls (some .int) wsX12_gainOf) (l1 : Int) (l2 : Int) (Q : Int → Ii → Jj → Prop) : ∀ (n : Nat) (l3 : Int) (l4 : Int) (l5 : Int) (I : Ii) (J : Jj), L_X12_gainOf_12 l1 l2 Q n l3 l4 l5 I J → Wz G X 9 (QsU G X (QsI Q)) 0 0 12 [some (.ref (kadr G 0)), some (.int (iZ l1)), some (.int (iZ l2)), some (.int (iZ l3)), some (.int (iZ l4)), some (.int (iZ l5)), none, none, none] [] I J := by
  intro n
  induction n with
  | zero => intro l3 l4 l5 I J h; exact False.elim h
  | succ n w12 =>
    intro l3 l4 l5 I J h
    have h : Lb_X12_gainOf_12 l1 l2 Q (L_X12_gainOf_12 l1 l2 Q n) l3 l4 l5 I J := h
    unfold Lb_X12_gainOf_12 at h
    generalize L_X12_gainOf_12 l1 l2 Q n = r12 at h w12
    refine wz_iload C rfl dX12_gainOf_12 ?_
    refine wz_aload_n C rfl rfl dX12_gainOf_14 ?_
    refine wz_getR C (j := 2) f_X12_gainOf_26 rfl dX12_gainOf_15 ?_
    refine wz_iconst C dX12_gainOf_18 ?_
    refine wz_iaload C 1 (n := 350) rfl rfl (by decide) (by decide) rfl dX12_gainOf_19 ?_
    obtain ⟨g2, h⟩ := h
    obtain ⟨g3, h⟩ := h
    refine wz_icmp_ge C (tgt := 177) g2 g3 dX12_gainOf_20 (by decide) (fun c => ?_) (fun c => ?_)
    · replace h := h.1 c
      refine wz_iload C rfl dX12_gainOf_177 ?_
      exact wz_iret C dX12_gainOf_179 ⟨_, rfl, h⟩
    · replace h := h.2 c
      refine wz_iload_n C rfl rfl dX12_gainOf_23 ?_
      refine wz_iload_n C rfl rfl dX12_gainOf_24 ?_
      obtain ⟨g4, h⟩ := h
      obtain ⟨g5, h⟩ := h
      refine wz_icmp_eq C (tgt := 177) g4 g5 dX12_gainOf_25 (by decide) (fun c => ?_) (fun c => ?_)
      · replace h := h.1 c
        refine wz_iload C rfl dX12_gainOf_177 ?_
        exact wz_iret C dX12_gainOf_179 ⟨_, rfl, h⟩
      · replace h := h.2 c
        refine wz_aload_n C rfl rfl dX12_gainOf_28 ?_
        refine wz_getR C (j := 2) f_X12_gainOf_26 rfl dX12_gainOf_29 ?_
        refine wz_bipush C (by decide) dX12_gainOf_32 ?_
        refine wz_iload C rfl dX12_gainOf_34 ?_
        refine wz_iadd C dX12_gainOf_36 ?_
        obtain ⟨g6, h⟩ := h
        refine wz_iaload C ((110 + l5).toNat) (n := 350) rfl (zN g6) (zL g6) (by decide) rfl dX12_gainOf_37 ?_
        refine wz_istore_6 C rfl dX12_gainOf_38 ?_
        refine wz_aload_n C rfl rfl dX12_gainOf_40 ?_
        refine wz_getR C (j := 2) f_X12_gainOf_26 rfl dX12_gainOf_41 ?_
        refine wz_sipush C (by decide) dX12_gainOf_44 ?_
        refine wz_iload C rfl dX12_gainOf_47 ?_
        refine wz_iadd C dX12_gainOf_49 ?_
        obtain ⟨g7, h⟩ := h
        refine wz_iaload C ((150 + l5).toNat) (n := 350) rfl (zN g7) (zL g7) (by decide) rfl dX12_gainOf_50 ?_
        refine wz_istore_7 C rfl dX12_gainOf_51 ?_
        refine wz_aload_n C rfl rfl dX12_gainOf_53 ?_
        refine wz_iload C rfl dX12_gainOf_54 ?_
        refine wm_callV C (o := 0) (As := [.int (iZ (I 2 ((110 + l5).toNat)))]) (st := []) (a' := 0) (b' := 0) rfl rfl (k_X12_groupAt G hG (I 2 ((110 + l5).toNat)) I J _ h) 1 gX12_gainOf_X12_groupAt rfl (by decide +kernel) (by rw [hX]; exact ⟨Nat.le_of_ble_eq_true rfl, Nat.le_of_ble_eq_true rfl⟩) rfl (Nat.le_of_ble_eq_true rfl) rfl rfl rfl dX12_gainOf_56 (kk_sI (fun v8 I8 J8 h => ?_))
        refine wz_iload_n C rfl rfl dX12_gainOf_59 ?_
        obtain ⟨g9, h⟩ := h
        obtain ⟨g10, h⟩ := h
        refine wz_icmp_ne C (tgt := 67) g9 g10 dX12_gainOf_60 (by decide) (fun c => ?_) (fun c => ?_)
        · replace h := h.1 c
          refine wz_iconst C dX12_gainOf_67 ?_
          exact bk_X12_gainOf_68 G hG X hX C l1 l2 Q r12 w12 l3 l4 l5 (I 2 ((110 + l5).toNat)) (I 2 ((150 + l5).toNat)) 0 I8 J8 h
        · replace h := h.2 c
          refine wz_iconst C dX12_gainOf_63 ?_
          refine wz_goto C dX12_gainOf_64 (tgt := 68) (by decide) ?_
          exact bk_X12_gainOf_68 G hG X hX C l1 l2 Q r12 w12 l3 l4 l5 (I 2 ((110 + l5).toNat)) (I 2 ((150 + l5).toNat)) 1 I8 J8 h
set_option maxHeartbeats 4000000 in
set_option maxRecDepth 100000 in
theorem k_X12_gainOf (G : KG) (hG : Kok G) (l1 : Int) (l2 : Int) (I : Ii) (J : Jj) (Q : Int → Ii → Jj → Prop) (h : wp_X12_gainOf l1 l2 I J Q) : Ctr G yX12_gainOf wsX12_gainOf rm_X12_gainOf [.ref (kadr G 0), .int (iZ l1), .int (iZ l2)] (I, J) (QsI Q) := by
  unfold wp_X12_gainOf at h
  skip
  refine Ctr.ofZ (cc := cX12_gainOf) (nL := 9) (ret := (some .int)) [some (.ref (kadr G 0)), some (.int (iZ l1)), some (.int (iZ l2)), none, none, none, none, none, none] hG (by decide +kernel) rfl (Nat.le_of_ble_eq_true rfl) (Nat.le_of_ble_eq_true rfl) (by simp [lvA, lv_args, Value.category]) ?_
  intro X hX C
  refine wz_aload_n C rfl rfl dX12_gainOf_0 ?_
  refine wz_iload_n C rfl rfl dX12_gainOf_1 ?_
  refine wm_callV C (o := 0) (As := [.int (iZ l1)]) (st := []) (a' := 0) (b' := 0) rfl rfl (k_X12_groupPart G hG l1 I J _ h) 1 gX12_gainOf_X12_groupPart rfl (by decide +kernel) (by rw [hX]; exact ⟨Nat.le_of_ble_eq_true rfl, Nat.le_of_ble_eq_true rfl⟩) rfl (Nat.le_of_ble_eq_true rfl) rfl rfl rfl dX12_gainOf_2 (kk_sI (fun v1 I1 J1 h => ?_))
  refine wz_istore_3 C rfl dX12_gainOf_5 ?_
  refine wz_iconst C dX12_gainOf_6 ?_
  refine wz_istore_4 C rfl dX12_gainOf_7 ?_
  refine wz_iconst C dX12_gainOf_9 ?_
  refine wz_istore_5 C rfl dX12_gainOf_10 ?_
  obtain ⟨n, h⟩ := h
  exact lk_X12_gainOf_12 G hG X hX C l1 l2 Q n v1 0 0 I1 J1 h
theorem in_X12_debtsWith_X12 : ∀ w ∈ wsX120, w ∈ wsX12_debtsWith := by decide +kernel
theorem f_X12_debtsWith_26 : FLk wsX12_debtsWith RX12 26 12 15 := flk 12 15 rfl tyX12_ok nmX12 in_X12_debtsWith_X12 (by decide) (by decide +kernel)
def rm_X12_debtsWith : Room := { frames := 2, cells := 0, slots := 0, locals := 44 }
set_option maxHeartbeats 4000000 in
set_option maxRecDepth 100000 in
theorem bk_X12_debtsWith_65 (G : KG) (hG : Kok G) (X : KX) (hX : KR X = rm_X12_debtsWith) (C : Fr G X cX12_debtsWith 8 yX12_debtsWith.cls (some .int) wsX12_debtsWith) (l1 : Int) (l2 : Int) (Q : Int → Ii → Jj → Prop) (r19 : Int → Int → Int → Int → Ii → Jj → Prop) (w19 : ∀ (l3 : Int) (l4 : Int) (l5 : Int) (l6 : Int) (I : Ii) (J : Jj), r19 l3 l4 l5 l6 I J → Wz G X 8 (QsU G X (QsI Q)) 0 0 19 [some (.ref (kadr G 0)), none, some (.int (iZ l2)), some (.int (iZ l3)), some (.int (iZ l4)), some (.int (iZ l5)), some (.int (iZ l6)), none] [] I J) (l3 : Int) (l4 : Int) (l5 : Int) (l6 : Int) (t0 : Int) (t1 : Int) (I : Ii) (J : Jj) (h : B_X12_debtsWith_65 l1 l2 Q r19 l3 l4 l5 l6 t0 t1 I J) : Wz G X 8 (QsU G X (QsI Q)) 0 0 65 [some (.ref (kadr G 0)), none, some (.int (iZ l2)), some (.int (iZ l3)), some (.int (iZ l4)), some (.int (iZ l5)), some (.int (iZ l6)), none] [.int (iZ t1), .int (iZ t0)] I J := by
  unfold B_X12_debtsWith_65 at h
  refine wm_callS C (As := [.int (iZ t1)]) (st := [.int (iZ t0)]) (a' := 0) (b' := 0) (k_X12_truth G hG t1 I J _ h) 1 gX12_debtsWith_X12_truth rfl (by decide +kernel) (by rw [hX]; exact ⟨Nat.le_of_ble_eq_true rfl, Nat.le_of_ble_eq_true rfl⟩) rfl (Nat.le_of_ble_eq_true rfl) rfl rfl rfl dX12_debtsWith_65 (kk_sI (fun v11 I11 J11 h => ?_))
  refine wz_iload C rfl dX12_debtsWith_68 ?_
  refine wz_imul C dX12_debtsWith_70 ?_
  refine wz_iadd C dX12_debtsWith_71 ?_
  refine wz_aload_n C rfl rfl dX12_debtsWith_72 ?_
  refine wm_callV C (o := 0) (As := []) (st := [.int (iZ (t0 + (v11 * l5)))]) (a' := 0) (b' := 0) rfl rfl (k_X12_limit G hG I11 J11 _ h) 0 gX12_debtsWith_X12_limit rfl (by decide +kernel) (by rw [hX]; exact ⟨Nat.le_of_ble_eq_true rfl, Nat.le_of_ble_eq_true rfl⟩) rfl (Nat.le_of_ble_eq_true rfl) rfl rfl rfl dX12_debtsWith_73 (kk_sI (fun v12 I12 J12 h => ?_))
  refine wz_isub C dX12_debtsWith_76 ?_
  refine wz_istore_7 C rfl dX12_debtsWith_77 ?_
  refine wz_iload C rfl dX12_debtsWith_79 ?_
  refine wz_iload C rfl dX12_debtsWith_81 ?_
  obtain ⟨g13, h⟩ := h
  refine wz_if_le C (tgt := 91) g13 dX12_debtsWith_83 (by decide) (fun c => ?_) (fun c => ?_)
  · replace h := h.1 c
    refine wz_iconst C dX12_debtsWith_91 ?_
    refine wz_iadd C dX12_debtsWith_92 ?_
    refine wz_istore_4 C rfl dX12_debtsWith_93 ?_
    refine wz_iinc_6 C rfl dX12_debtsWith_95 ?_
    refine wz_goto C dX12_debtsWith_98 (tgt := 19) (by decide) ?_
    exact Wz.drop (w19 l3 (l4 + 0) l5 (l6 + 1) I12 J12 h) (And.intro rfl (And.intro rfl (And.intro rfl (And.intro rfl (And.intro rfl (And.intro rfl trivial))))))
  · replace h := h.2 c
    refine wz_iload C rfl dX12_debtsWith_86 ?_
    refine wz_goto C dX12_debtsWith_88 (tgt := 92) (by decide) ?_
    refine wz_iadd C dX12_debtsWith_92 ?_
    refine wz_istore_4 C rfl dX12_debtsWith_93 ?_
    refine wz_iinc_6 C rfl dX12_debtsWith_95 ?_
    refine wz_goto C dX12_debtsWith_98 (tgt := 19) (by decide) ?_
    exact Wz.drop (w19 l3 (l4 + ((t0 + (v11 * l5)) - v12)) l5 (l6 + 1) I12 J12 h) (And.intro rfl (And.intro rfl (And.intro rfl (And.intro rfl (And.intro rfl (And.intro rfl trivial))))))
set_option maxHeartbeats 4000000 in
set_option maxRecDepth 100000 in
theorem bk_X12_debtsWith_47 (G : KG) (hG : Kok G) (X : KX) (hX : KR X = rm_X12_debtsWith) (C : Fr G X cX12_debtsWith 8 yX12_debtsWith.cls (some .int) wsX12_debtsWith) (l1 : Int) (l2 : Int) (Q : Int → Ii → Jj → Prop) (r19 : Int → Int → Int → Int → Ii → Jj → Prop) (w19 : ∀ (l3 : Int) (l4 : Int) (l5 : Int) (l6 : Int) (I : Ii) (J : Jj), r19 l3 l4 l5 l6 I J → Wz G X 8 (QsU G X (QsI Q)) 0 0 19 [some (.ref (kadr G 0)), none, some (.int (iZ l2)), some (.int (iZ l3)), some (.int (iZ l4)), some (.int (iZ l5)), some (.int (iZ l6)), none] [] I J) (l3 : Int) (l4 : Int) (l5 : Int) (l6 : Int) (t0 : Int) (t1 : Int) (I : Ii) (J : Jj) (h : B_X12_debtsWith_47 l1 l2 Q r19 l3 l4 l5 l6 t0 t1 I J) : Wz G X 8 (QsU G X (QsI Q)) 0 0 47 [some (.ref (kadr G 0)), none, some (.int (iZ l2)), some (.int (iZ l3)), some (.int (iZ l4)), some (.int (iZ l5)), some (.int (iZ l6)), none] [.int (iZ t1), .int (iZ t0)] I J := by
  unfold B_X12_debtsWith_47 at h
  refine wm_callS C (As := [.int (iZ t1)]) (st := [.int (iZ t0)]) (a' := 0) (b' := 0) (k_X12_truth G hG t1 I J _ h) 1 gX12_debtsWith_X12_truth rfl (by decide +kernel) (by rw [hX]; exact ⟨Nat.le_of_ble_eq_true rfl, Nat.le_of_ble_eq_true rfl⟩) rfl (Nat.le_of_ble_eq_true rfl) rfl rfl rfl dX12_debtsWith_47 (kk_sI (fun v8 I8 J8 h => ?_))
  refine wz_iload C rfl dX12_debtsWith_50 ?_
  refine wz_imul C dX12_debtsWith_52 ?_
  refine wz_isub C dX12_debtsWith_53 ?_
  refine wz_iload C rfl dX12_debtsWith_54 ?_
  refine wz_iload_n C rfl rfl dX12_debtsWith_56 ?_
  obtain ⟨g9, h⟩ := h
  obtain ⟨g10, h⟩ := h
  refine wz_icmp_ne C (tgt := 64) g9 g10 dX12_debtsWith_57 (by decide) (fun c => ?_) (fun c => ?_)
  · replace h := h.1 c
    refine wz_iconst C dX12_debtsWith_64 ?_
    exact bk_X12_debtsWith_65 G hG X hX C l1 l2 Q r19 w19 l3 l4 l5 l6 (t0 - (v8 * l5)) 0 I8 J8 h
  · replace h := h.2 c
    refine wz_iconst C dX12_debtsWith_60 ?_
    refine wz_goto C dX12_debtsWith_61 (tgt := 65) (by decide) ?_
    exact bk_X12_debtsWith_65 G hG X hX C l1 l2 Q r19 w19 l3 l4 l5 l6 (t0 - (v8 * l5)) 1 I8 J8 h
set_option maxHeartbeats 4000000 in
set_option maxRecDepth 100000 in
theorem lk_X12_debtsWith_19 (G : KG) (hG : Kok G) (X : KX) (hX : KR X = rm_X12_debtsWith) (C : Fr G X cX12_debtsWith 8 yX12_debtsWith.cls (some .int) wsX12_debtsWith) (l1 : Int) (l2 : Int) (Q : Int → Ii → Jj → Prop) : ∀ (n : Nat) (l3 : Int) (l4 : Int) (l5 : Int) (l6 : Int) (I : Ii) (J : Jj), L_X12_debtsWith_19 l1 l2 Q n l3 l4 l5 l6 I J → Wz G X 8 (QsU G X (QsI Q)) 0 0 19 [some (.ref (kadr G 0)), none, some (.int (iZ l2)), some (.int (iZ l3)), some (.int (iZ l4)), some (.int (iZ l5)), some (.int (iZ l6)), none] [] I J := by
  intro n
  induction n with
  | zero => intro l3 l4 l5 l6 I J h; exact False.elim h
  | succ n w19 =>
    intro l3 l4 l5 l6 I J h
    have h : Lb_X12_debtsWith_19 l1 l2 Q (L_X12_debtsWith_19 l1 l2 Q n) l3 l4 l5 l6 I J := h
    unfold Lb_X12_debtsWith_19 at h
    generalize L_X12_debtsWith_19 l1 l2 Q n = r19 at h w19
    refine wz_iload C rfl dX12_debtsWith_19 ?_
    refine wz_aload_n C rfl rfl dX12_debtsWith_21 ?_
    refine wz_getR C (j := 2) f_X12_debtsWith_26 rfl dX12_debtsWith_22 ?_
    refine wz_iconst C dX12_debtsWith_25 ?_
    refine wz_iaload C 2 (n := 350) rfl rfl (by decide) (by decide) rfl dX12_debtsWith_26 ?_
    obtain ⟨g3, h⟩ := h
    obtain ⟨g4, h⟩ := h
    refine wz_icmp_ge C (tgt := 101) g3 g4 dX12_debtsWith_27 (by decide) (fun c => ?_) (fun c => ?_)
    · replace h := h.1 c
      refine wz_iload C rfl dX12_debtsWith_101 ?_
      exact wz_iret C dX12_debtsWith_103 ⟨_, rfl, h⟩
    · replace h := h.2 c
      refine wz_aload_n C rfl rfl dX12_debtsWith_30 ?_
      refine wz_iload C rfl dX12_debtsWith_31 ?_
      refine wm_callV C (o := 0) (As := [.int (iZ l6)]) (st := []) (a' := 0) (b' := 0) rfl rfl (k_X12_weightOf G hG l6 I J _ h) 1 gX12_debtsWith_X12_weightOf rfl (by decide +kernel) (by rw [hX]; exact ⟨Nat.le_of_ble_eq_true rfl, Nat.le_of_ble_eq_true rfl⟩) rfl (Nat.le_of_ble_eq_true rfl) rfl rfl rfl dX12_debtsWith_33 (kk_sI (fun v5 I5 J5 h => ?_))
      refine wz_iload C rfl dX12_debtsWith_36 ?_
      refine wz_iload_n C rfl rfl dX12_debtsWith_38 ?_
      obtain ⟨g6, h⟩ := h
      obtain ⟨g7, h⟩ := h
      refine wz_icmp_ne C (tgt := 46) g6 g7 dX12_debtsWith_39 (by decide) (fun c => ?_) (fun c => ?_)
      · replace h := h.1 c
        refine wz_iconst C dX12_debtsWith_46 ?_
        exact bk_X12_debtsWith_47 G hG X hX C l1 l2 Q r19 w19 l3 l4 l5 l6 v5 0 I5 J5 h
      · replace h := h.2 c
        refine wz_iconst C dX12_debtsWith_42 ?_
        refine wz_goto C dX12_debtsWith_43 (tgt := 47) (by decide) ?_
        exact bk_X12_debtsWith_47 G hG X hX C l1 l2 Q r19 w19 l3 l4 l5 l6 v5 1 I5 J5 h
set_option maxHeartbeats 4000000 in
set_option maxRecDepth 100000 in
theorem k_X12_debtsWith (G : KG) (hG : Kok G) (l1 : Int) (l2 : Int) (I : Ii) (J : Jj) (Q : Int → Ii → Jj → Prop) (h : wp_X12_debtsWith l1 l2 I J Q) : Ctr G yX12_debtsWith wsX12_debtsWith rm_X12_debtsWith [.ref (kadr G 0), .int (iZ l1), .int (iZ l2)] (I, J) (QsI Q) := by
  unfold wp_X12_debtsWith at h
  skip
  refine Ctr.ofZ (cc := cX12_debtsWith) (nL := 8) (ret := (some .int)) [some (.ref (kadr G 0)), some (.int (iZ l1)), some (.int (iZ l2)), none, none, none, none, none] hG (by decide +kernel) rfl (Nat.le_of_ble_eq_true rfl) (Nat.le_of_ble_eq_true rfl) (by simp [lvA, lv_args, Value.category]) ?_
  intro X hX C
  refine wz_aload_n C rfl rfl dX12_debtsWith_0 ?_
  refine wz_iload_n C rfl rfl dX12_debtsWith_1 ?_
  refine wm_callV C (o := 0) (As := [.int (iZ l1)]) (st := []) (a' := 0) (b' := 0) rfl rfl (k_X12_groupPart G hG l1 I J _ h) 1 gX12_debtsWith_X12_groupPart rfl (by decide +kernel) (by rw [hX]; exact ⟨Nat.le_of_ble_eq_true rfl, Nat.le_of_ble_eq_true rfl⟩) rfl (Nat.le_of_ble_eq_true rfl) rfl rfl rfl dX12_debtsWith_2 (kk_sI (fun v1 I1 J1 h => ?_))
  refine wz_istore_3 C rfl dX12_debtsWith_5 ?_
  refine wz_iconst C dX12_debtsWith_6 ?_
  refine wz_istore_4 C rfl dX12_debtsWith_7 ?_
  refine wz_aload_n C rfl rfl dX12_debtsWith_9 ?_
  refine wz_iload_n C rfl rfl dX12_debtsWith_10 ?_
  refine wm_callV C (o := 0) (As := [.int (iZ l1)]) (st := []) (a' := 0) (b' := 0) rfl rfl (k_X12_groupWeight G hG l1 I1 J1 _ h) 1 gX12_debtsWith_X12_groupWeight rfl (by decide +kernel) (by rw [hX]; exact ⟨Nat.le_of_ble_eq_true rfl, Nat.le_of_ble_eq_true rfl⟩) rfl (Nat.le_of_ble_eq_true rfl) rfl rfl rfl dX12_debtsWith_11 (kk_sI (fun v2 I2 J2 h => ?_))
  refine wz_istore_5 C rfl dX12_debtsWith_14 ?_
  refine wz_iconst C dX12_debtsWith_16 ?_
  refine wz_istore_6 C rfl dX12_debtsWith_17 ?_
  obtain ⟨n, h⟩ := h
  exact Wz.drop (lk_X12_debtsWith_19 G hG X hX C l1 l2 Q n v1 0 v2 0 I2 J2 h) (And.intro rfl (And.intro rfl (And.intro rfl (And.intro rfl (And.intro rfl (And.intro rfl trivial))))))
theorem in_X12_whyMove_X12 : ∀ w ∈ wsX120, w ∈ wsX12_whyMove := by decide +kernel
theorem f_X12_whyMove_26 : FLk wsX12_whyMove RX12 26 12 15 := flk 12 15 rfl tyX12_ok nmX12 in_X12_whyMove_X12 (by decide) (by decide +kernel)
def rm_X12_whyMove : Room := { frames := 4, cells := 0, slots := 0, locals := 86 }
set_option maxHeartbeats 4000000 in
set_option maxRecDepth 100000 in
theorem k_X12_whyMove (G : KG) (hG : Kok G) (l1 : Int) (l2 : Int) (I : Ii) (J : Jj) (Q : Int → Ii → Jj → Prop) (h : wp_X12_whyMove l1 l2 I J Q) : Ctr G yX12_whyMove wsX12_whyMove rm_X12_whyMove [.ref (kadr G 0), .int (iZ l1), .int (iZ l2)] (I, J) (QsI Q) := by
  unfold wp_X12_whyMove at h
  skip
  refine Ctr.ofZ (cc := cX12_whyMove) (nL := 4) (ret := (some .int)) [some (.ref (kadr G 0)), some (.int (iZ l1)), some (.int (iZ l2)), none] hG (by decide +kernel) rfl (Nat.le_of_ble_eq_true rfl) (Nat.le_of_ble_eq_true rfl) (by simp [lvA, lv_args, Value.category]) ?_
  intro X hX C
  refine wz_aload_n C rfl rfl dX12_whyMove_0 ?_
  refine wz_iload_n C rfl rfl dX12_whyMove_1 ?_
  refine wm_callV C (o := 0) (As := [.int (iZ l1)]) (st := []) (a' := 0) (b' := 0) rfl rfl (k_X12_groupPart G hG l1 I J _ h) 1 gX12_whyMove_X12_groupPart rfl (by decide +kernel) (by rw [hX]; exact ⟨Nat.le_of_ble_eq_true rfl, Nat.le_of_ble_eq_true rfl⟩) rfl (Nat.le_of_ble_eq_true rfl) rfl rfl rfl dX12_whyMove_2 (kk_sI (fun v1 I1 J1 h => ?_))
  refine wz_iload_n C rfl rfl dX12_whyMove_5 ?_
  obtain ⟨g2, h⟩ := h
  obtain ⟨g3, h⟩ := h
  refine wz_icmp_ne C (tgt := 11) g2 g3 dX12_whyMove_6 (by decide) (fun c => ?_) (fun c => ?_)
  · replace h := h.1 c
    refine wz_aload_n C rfl rfl dX12_whyMove_11 ?_
    refine wz_iload_n C rfl rfl dX12_whyMove_12 ?_
    refine wz_iload_n C rfl rfl dX12_whyMove_13 ?_
    refine wm_callV C (o := 0) (As := [.int (iZ l1), .int (iZ l2)]) (st := []) (a' := 0) (b' := 0) rfl rfl (k_X12_debtsWith G hG l1 l2 I1 J1 _ h) 2 gX12_whyMove_X12_debtsWith rfl (by decide +kernel) (by rw [hX]; exact ⟨Nat.le_of_ble_eq_true rfl, Nat.le_of_ble_eq_true rfl⟩) rfl (Nat.le_of_ble_eq_true rfl) rfl rfl rfl dX12_whyMove_14 (kk_sI (fun v4 I4 J4 h => ?_))
    refine wz_istore_3 C rfl dX12_whyMove_17 ?_
    refine wz_iload_n C rfl rfl dX12_whyMove_18 ?_
    refine wz_aload_n C rfl rfl dX12_whyMove_19 ?_
    refine wz_getR C (j := 2) f_X12_whyMove_26 rfl dX12_whyMove_20 ?_
    refine wz_iconst C dX12_whyMove_23 ?_
    refine wz_iaload C 4 (n := 350) rfl rfl (by decide) (by decide) rfl dX12_whyMove_24 ?_
    obtain ⟨g5, h⟩ := h
    obtain ⟨g6, h⟩ := h
    refine wz_icmp_le C (tgt := 40) g5 g6 dX12_whyMove_25 (by decide) (fun c => ?_) (fun c => ?_)
    · replace h := h.1 c
      refine wz_iconst C dX12_whyMove_40 ?_
      exact wz_iret C dX12_whyMove_41 ⟨_, rfl, h⟩
    · replace h := h.2 c
      refine wz_iload_n C rfl rfl dX12_whyMove_28 ?_
      refine wz_aload_n C rfl rfl dX12_whyMove_29 ?_
      refine wm_callV C (o := 0) (As := []) (st := [.int (iZ v4)]) (a' := 0) (b' := 0) rfl rfl (k_X12_debtsNow G hG I4 J4 _ h) 0 gX12_whyMove_X12_debtsNow rfl (by decide +kernel) (by rw [hX]; exact ⟨Nat.le_of_ble_eq_true rfl, Nat.le_of_ble_eq_true rfl⟩) rfl (Nat.le_of_ble_eq_true rfl) rfl rfl rfl dX12_whyMove_30 (kk_sI (fun v7 I7 J7 h => ?_))
      obtain ⟨g8, h⟩ := h
      obtain ⟨g9, h⟩ := h
      refine wz_icmp_le C (tgt := 40) g8 g9 dX12_whyMove_33 (by decide) (fun c => ?_) (fun c => ?_)
      · replace h := h.1 c
        refine wz_iconst C dX12_whyMove_40 ?_
        exact wz_iret C dX12_whyMove_41 ⟨_, rfl, h⟩
      · replace h := h.2 c
        refine wz_iconst C dX12_whyMove_36 ?_
        refine wz_goto C dX12_whyMove_37 (tgt := 41) (by decide) ?_
        exact wz_iret C dX12_whyMove_41 ⟨_, rfl, h⟩
  · replace h := h.2 c
    refine wz_iconst C dX12_whyMove_9 ?_
    exact wz_iret C dX12_whyMove_10 ⟨_, rfl, h⟩
