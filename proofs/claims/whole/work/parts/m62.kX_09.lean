theorem in_X11_makeSteps_X11 : ∀ w ∈ wsX110, w ∈ wsX11_makeSteps := by decide +kernel
theorem f_X11_makeSteps_73 : FLk wsX11_makeSteps RX11 73 11 12 := flk 11 12 rfl tyX11_ok nmX11 in_X11_makeSteps_X11 (by decide) (by decide +kernel)
theorem f_X11_makeSteps_40 : FLk wsX11_makeSteps RX11 40 11 4 := flk 11 4 rfl tyX11_ok nmX11 in_X11_makeSteps_X11 (by decide) (by decide +kernel)
def rm_X11_makeSteps : Room := { frames := 4, cells := 0, slots := 0, locals := 108 }
set_option maxHeartbeats 4000000 in
set_option maxRecDepth 100000 in
theorem lk_X11_makeSteps_2 (G : KG) (hG : Kok G) (X : KX) (hX : KR X = rm_X11_makeSteps) (C : Fr G X cX11_makeSteps 5 yX11_makeSteps.cls (some .int) wsX11_makeSteps) (k1 : Nat) (l2 : Int) (hk1 : sK k1) (Q : Int → Ii → Jj → Prop) : ∀ (n : Nat) (l3 : Int) (I : Ii) (J : Jj), L_X11_makeSteps_2 k1 l2 Q n l3 I J → Wz G X 5 (QsU G X (QsI Q)) 0 0 2 [some (.ref (kadr G 100)), some (.ref (kadr G k1)), some (.int (iZ l2)), some (.int (iZ l3)), none] [] I J := by
  intro n
  induction n with
  | zero => intro l3 I J h; exact False.elim h
  | succ n w2 =>
    intro l3 I J h
    have h : Lb_X11_makeSteps_2 k1 l2 Q (L_X11_makeSteps_2 k1 l2 Q n) l3 I J := h
    unfold Lb_X11_makeSteps_2 at h
    generalize L_X11_makeSteps_2 k1 l2 Q n = r2 at h w2
    refine wz_iload_n C rfl rfl dX11_makeSteps_2 ?_
    refine wz_iload_n C rfl rfl dX11_makeSteps_3 ?_
    obtain ⟨g1, h⟩ := h
    obtain ⟨g2, h⟩ := h
    refine wz_icmp_ge C (tgt := 57) g1 g2 dX11_makeSteps_4 (by decide) (fun c => ?_) (fun c => ?_)
    · replace h := h.1 c
      refine wz_iload_n C rfl rfl dX11_makeSteps_57 ?_
      exact wz_iret C dX11_makeSteps_58 ⟨_, rfl, h⟩
    · replace h := h.2 c
      refine wz_aload_n C rfl rfl dX11_makeSteps_7 ?_
      refine wz_getR C (j := 113) f_X11_makeSteps_73 rfl dX11_makeSteps_8 ?_
      refine wz_aload_n C rfl rfl dX11_makeSteps_11 ?_
      refine wz_getR C (j := 200) f_X11_makeSteps_40 rfl dX11_makeSteps_12 ?_
      refine wz_aload_n C rfl rfl dX11_makeSteps_15 ?_
      refine wm_callV C (o := 113) (As := [.ref (kadr G 200), .ref (kadr G k1)]) (st := []) (a' := 0) (b' := 0) rfl rfl (k_X4_take G hG 200 k1 I J _ h) 2 gX11_makeSteps_X4_take rfl (by decide +kernel) (by rw [hX]; exact ⟨Nat.le_of_ble_eq_true rfl, Nat.le_of_ble_eq_true rfl⟩) rfl (Nat.le_of_ble_eq_true rfl) rfl rfl rfl dX11_makeSteps_16 (kk_sV (fun I3 J3 h => ?_))
      refine wz_aload_n C rfl rfl dX11_makeSteps_19 ?_
      refine wz_getR C (j := 113) f_X11_makeSteps_73 rfl dX11_makeSteps_20 ?_
      refine wm_callV C (o := 113) (As := []) (st := []) (a' := 0) (b' := 0) rfl rfl (k_X4_chosenStep G hG I3 J3 _ h) 0 gX11_makeSteps_X4_chosenStep rfl (by decide +kernel) (by rw [hX]; exact ⟨Nat.le_of_ble_eq_true rfl, Nat.le_of_ble_eq_true rfl⟩) rfl (Nat.le_of_ble_eq_true rfl) rfl rfl rfl dX11_makeSteps_23 (kk_sI (fun v4 I4 J4 h => ?_))
      refine wz_istore_4 C rfl dX11_makeSteps_26 ?_
      refine wz_iload C rfl dX11_makeSteps_28 ?_
      refine wz_iconst C dX11_makeSteps_30 ?_
      obtain ⟨g5, h⟩ := h
      refine wz_icmp_ne C (tgt := 36) g5 (by decide) dX11_makeSteps_31 (by decide) (fun c => ?_) (fun c => ?_)
      · replace h := h.1 c
        refine wz_aload_n C rfl rfl dX11_makeSteps_36 ?_
        refine wz_aload_n C rfl rfl dX11_makeSteps_37 ?_
        refine wz_iload C rfl dX11_makeSteps_38 ?_
        refine wz_bipush C (by decide) dX11_makeSteps_40 ?_
        obtain ⟨g6, h⟩ := h
        refine wd_idiv C g6 dX11_makeSteps_42 ?_
        refine wz_iload C rfl dX11_makeSteps_43 ?_
        refine wz_bipush C (by decide) dX11_makeSteps_45 ?_
        obtain ⟨g7, h⟩ := h
        refine wd_irem C g7 dX11_makeSteps_47 ?_
        refine wm_callV C (o := 100) (As := [.ref (kadr G k1), .int (iZ (v4 / 10)), .int (iZ (v4 % 10))]) (st := []) (a' := 0) (b' := 0) rfl rfl (k_X11_transfer G hG k1 (v4 / 10) (v4 % 10) I4 J4 _ h) 3 gX11_makeSteps_X11_transfer rfl (by decide +kernel) (by rw [hX]; exact ⟨Nat.le_of_ble_eq_true rfl, Nat.le_of_ble_eq_true rfl⟩) rfl (Nat.le_of_ble_eq_true rfl) rfl rfl rfl dX11_makeSteps_48 (kk_sV (fun I8 J8 h => ?_))
        refine wz_iinc_3 C rfl dX11_makeSteps_51 ?_
        refine wz_goto C dX11_makeSteps_54 (tgt := 2) (by decide) ?_
        exact Wz.drop (w2 (l3 + 1) I8 J8 h) (And.intro rfl (And.intro rfl (And.intro rfl (And.intro rfl trivial))))
      · replace h := h.2 c
        refine wz_iload_n C rfl rfl dX11_makeSteps_34 ?_
        exact wz_iret C dX11_makeSteps_35 ⟨_, rfl, h⟩
set_option maxHeartbeats 4000000 in
set_option maxRecDepth 100000 in
theorem k_X11_makeSteps (G : KG) (hG : Kok G) (k1 : Nat) (l2 : Int) (I : Ii) (J : Jj) (Q : Int → Ii → Jj → Prop) (h : wp_X11_makeSteps k1 l2 I J Q) : Ctr G yX11_makeSteps wsX11_makeSteps rm_X11_makeSteps [.ref (kadr G 100), .ref (kadr G k1), .int (iZ l2)] (I, J) (QsI Q) := by
  unfold wp_X11_makeSteps at h
  obtain ⟨hk1, h⟩ := h
  refine Ctr.ofZ (cc := cX11_makeSteps) (nL := 5) (ret := (some .int)) [some (.ref (kadr G 100)), some (.ref (kadr G k1)), some (.int (iZ l2)), none, none] hG (by decide +kernel) rfl (Nat.le_of_ble_eq_true rfl) (Nat.le_of_ble_eq_true rfl) (by simp [lvA, lv_args, Value.category]) ?_
  intro X hX C
  refine wz_iconst C dX11_makeSteps_0 ?_
  refine wz_istore_3 C rfl dX11_makeSteps_1 ?_
  obtain ⟨n, h⟩ := h
  exact lk_X11_makeSteps_2 G hG X hX C k1 l2 hk1 Q n 0 I J h
theorem in_X11_takeBest_X0 : ∀ w ∈ wsX00, w ∈ wsX11_takeBest := by decide +kernel
theorem in_X11_takeBest_X11 : ∀ w ∈ wsX110, w ∈ wsX11_takeBest := by decide +kernel
theorem in_X11_takeBest_X4 : ∀ w ∈ wsX40, w ∈ wsX11_takeBest := by decide +kernel
theorem f_X11_takeBest_53 : FLk wsX11_takeBest RX11 53 11 7 := flk 11 7 rfl tyX11_ok nmX11 in_X11_takeBest_X11 (by decide) (by decide +kernel)
theorem f_X11_takeBest_87 : FLk wsX11_takeBest RX11 87 11 14 := flk 11 14 rfl tyX11_ok nmX11 in_X11_takeBest_X11 (by decide) (by decide +kernel)
theorem f_X11_takeBest_479 : FLk wsX11_takeBest RX11 479 0 1 := flk 0 1 rfl tyX0_ok nmX0 in_X11_takeBest_X0 (by decide) (by decide +kernel)
theorem f_X11_takeBest_73 : FLk wsX11_takeBest RX11 73 11 12 := flk 11 12 rfl tyX11_ok nmX11 in_X11_takeBest_X11 (by decide) (by decide +kernel)
theorem f_X11_takeBest_378 : FLk wsX11_takeBest RX11 378 4 8 := flk 4 8 rfl tyX4_ok nmX4 in_X11_takeBest_X4 (by decide) (by decide +kernel)
def rm_X11_takeBest : Room := { frames := 4, cells := 0, slots := 0, locals := 130 }
set_option maxHeartbeats 4000000 in
set_option maxRecDepth 100000 in
theorem lk_X11_takeBest_12 (G : KG) (hG : Kok G) (X : KX) (hX : KR X = rm_X11_takeBest) (C : Fr G X cX11_takeBest 5 yX11_takeBest.cls (some .int) wsX11_takeBest) (Q : Int → Ii → Jj → Prop) : ∀ (n : Nat) (l1 : Int) (l2 : Int) (l3 : Int) (I : Ii) (J : Jj), L_X11_takeBest_12 Q n l1 l2 l3 I J → Wz G X 5 (QsU G X (QsI Q)) 0 0 12 [some (.ref (kadr G 100)), some (.int (iZ l1)), some (.int (iZ l2)), some (.int (iZ l3)), none] [] I J := by
  intro n
  induction n with
  | zero => intro l1 l2 l3 I J h; exact False.elim h
  | succ n w12 =>
    intro l1 l2 l3 I J h
    have h : Lb_X11_takeBest_12 Q (L_X11_takeBest_12 Q n) l1 l2 l3 I J := h
    unfold Lb_X11_takeBest_12 at h
    generalize L_X11_takeBest_12 Q n = r12 at h w12
    refine wz_iload_n C rfl rfl dX11_takeBest_12 ?_
    refine wz_iload_n C rfl rfl dX11_takeBest_13 ?_
    obtain ⟨g2, h⟩ := h
    obtain ⟨g3, h⟩ := h
    refine wz_icmp_ge C (tgt := 62) g2 g3 dX11_takeBest_14 (by decide) (fun c => ?_) (fun c => ?_)
    · replace h := h.1 c
      refine wz_iload_n C rfl rfl dX11_takeBest_62 ?_
      exact wz_iret C dX11_takeBest_63 ⟨_, rfl, h⟩
    · replace h := h.2 c
      refine wz_aload_n C rfl rfl dX11_takeBest_17 ?_
      refine wz_getR C (j := 124) f_X11_takeBest_87 rfl dX11_takeBest_18 ?_
      refine wz_getR C (j := 126) f_X11_takeBest_479 rfl dX11_takeBest_21 ?_
      refine wz_iload_n C rfl rfl dX11_takeBest_24 ?_
      refine wm_callS C (As := [.ref (kadr G 126), .int (iZ l3)]) (st := []) (a' := 0) (b' := 0) (k_X11_at G hG 126 l3 I J _ h) 2 gX11_takeBest_X11_at rfl (by decide +kernel) (by rw [hX]; exact ⟨Nat.le_of_ble_eq_true rfl, Nat.le_of_ble_eq_true rfl⟩) rfl (Nat.le_of_ble_eq_true rfl) rfl rfl rfl dX11_takeBest_25 (kk_sI (fun v4 I4 J4 h => ?_))
      refine wz_istore_4 C rfl dX11_takeBest_28 ?_
      refine wz_aload_n C rfl rfl dX11_takeBest_30 ?_
      refine wz_getR C (j := 113) f_X11_takeBest_73 rfl dX11_takeBest_31 ?_
      refine wz_getR C (j := 116) f_X11_takeBest_378 rfl dX11_takeBest_34 ?_
      refine wz_iload_n C rfl rfl dX11_takeBest_37 ?_
      refine wm_callS C (As := [.ref (kadr G 116), .int (iZ l3)]) (st := []) (a' := 0) (b' := 0) (k_X11_at G hG 116 l3 I4 J4 _ h) 2 gX11_takeBest_X11_at rfl (by decide +kernel) (by rw [hX]; exact ⟨Nat.le_of_ble_eq_true rfl, Nat.le_of_ble_eq_true rfl⟩) rfl (Nat.le_of_ble_eq_true rfl) rfl rfl rfl dX11_takeBest_38 (kk_sI (fun v5 I5 J5 h => ?_))
      refine wz_iload C rfl dX11_takeBest_41 ?_
      obtain ⟨g6, h⟩ := h
      obtain ⟨g7, h⟩ := h
      refine wz_icmp_eq C (tgt := 56) g6 g7 dX11_takeBest_43 (by decide) (fun c => ?_) (fun c => ?_)
      · replace h := h.1 c
        refine wz_iinc_3 C rfl dX11_takeBest_56 ?_
        refine wz_goto C dX11_takeBest_59 (tgt := 12) (by decide) ?_
        exact Wz.drop (w12 l1 l2 (l3 + 1) I5 J5 h) (And.intro rfl (And.intro rfl (And.intro rfl (And.intro rfl trivial))))
      · replace h := h.2 c
        refine wz_aload_n C rfl rfl dX11_takeBest_46 ?_
        refine wz_iload_n C rfl rfl dX11_takeBest_47 ?_
        refine wz_iload C rfl dX11_takeBest_48 ?_
        refine wm_callV C (o := 100) (As := [.int (iZ l3), .int (iZ v4)]) (st := []) (a' := 0) (b' := 0) rfl rfl (k_X11_takeTo G hG l3 v4 I5 J5 _ h) 2 gX11_takeBest_X11_takeTo rfl (by decide +kernel) (by rw [hX]; exact ⟨Nat.le_of_ble_eq_true rfl, Nat.le_of_ble_eq_true rfl⟩) rfl (Nat.le_of_ble_eq_true rfl) rfl rfl rfl dX11_takeBest_50 (kk_sV (fun I8 J8 h => ?_))
        refine wz_iinc_1 C rfl dX11_takeBest_53 ?_
        refine wz_iinc_3 C rfl dX11_takeBest_56 ?_
        refine wz_goto C dX11_takeBest_59 (tgt := 12) (by decide) ?_
        exact Wz.drop (w12 (l1 + 1) l2 (l3 + 1) I8 J8 h) (And.intro rfl (And.intro rfl (And.intro rfl (And.intro rfl trivial))))
set_option maxHeartbeats 4000000 in
set_option maxRecDepth 100000 in
theorem k_X11_takeBest (G : KG) (hG : Kok G) (I : Ii) (J : Jj) (Q : Int → Ii → Jj → Prop) (h : wp_X11_takeBest I J Q) : Ctr G yX11_takeBest wsX11_takeBest rm_X11_takeBest [.ref (kadr G 100)] (I, J) (QsI Q) := by
  unfold wp_X11_takeBest at h
  skip
  refine Ctr.ofZ (cc := cX11_takeBest) (nL := 5) (ret := (some .int)) [some (.ref (kadr G 100)), none, none, none, none] hG (by decide +kernel) rfl (Nat.le_of_ble_eq_true rfl) (Nat.le_of_ble_eq_true rfl) (by simp [lvA, lv_args, Value.category]) ?_
  intro X hX C
  refine wz_iconst C dX11_takeBest_0 ?_
  refine wz_istore_1 C rfl dX11_takeBest_1 ?_
  refine wz_aload_n C rfl rfl dX11_takeBest_2 ?_
  refine wz_getR C (j := 300) f_X11_takeBest_53 rfl dX11_takeBest_3 ?_
  refine wm_callV C (o := 300) (As := []) (st := []) (a' := 0) (b' := 0) rfl rfl (k_X8_groupCount G hG 300 I J _ h) 0 gX11_takeBest_X8_groupCount rfl (by decide +kernel) (by rw [hX]; exact ⟨Nat.le_of_ble_eq_true rfl, Nat.le_of_ble_eq_true rfl⟩) rfl (Nat.le_of_ble_eq_true rfl) rfl rfl rfl dX11_takeBest_6 (kk_sI (fun v1 I1 J1 h => ?_))
  refine wz_istore_2 C rfl dX11_takeBest_9 ?_
  refine wz_iconst C dX11_takeBest_10 ?_
  refine wz_istore_3 C rfl dX11_takeBest_11 ?_
  obtain ⟨n, h⟩ := h
  exact lk_X11_takeBest_12 G hG X hX C Q n 0 v1 0 I1 J1 h
theorem in_X11_takeApart_X1 : ∀ w ∈ wsX10, w ∈ wsX11_takeApart := by decide +kernel
theorem in_X11_takeApart_X11 : ∀ w ∈ wsX110, w ∈ wsX11_takeApart := by decide +kernel
theorem in_X11_takeApart_X2 : ∀ w ∈ wsX20, w ∈ wsX11_takeApart := by decide +kernel
theorem in_X11_takeApart_X8 : ∀ w ∈ wsX80, w ∈ wsX11_takeApart := by decide +kernel
theorem f_X11_takeApart_94 : FLk wsX11_takeApart RX11 94 11 15 := flk 11 15 rfl tyX11_ok nmX11 in_X11_takeApart_X11 (by decide) (by decide +kernel)
theorem f_X11_takeApart_40 : FLk wsX11_takeApart RX11 40 11 4 := flk 11 4 rfl tyX11_ok nmX11 in_X11_takeApart_X11 (by decide) (by decide +kernel)
theorem f_X11_takeApart_141 : FLk wsX11_takeApart RX11 141 2 0 := flk 2 0 rfl tyX2_ok nmX2 in_X11_takeApart_X2 (by decide) (by decide +kernel)
theorem f_X11_takeApart_327 : FLk wsX11_takeApart RX11 327 1 5 := flk 1 5 rfl tyX1_ok nmX1 in_X11_takeApart_X1 (by decide) (by decide +kernel)
theorem f_X11_takeApart_53 : FLk wsX11_takeApart RX11 53 11 7 := flk 11 7 rfl tyX11_ok nmX11 in_X11_takeApart_X11 (by decide) (by decide +kernel)
theorem f_X11_takeApart_315 : FLk wsX11_takeApart RX11 315 8 3 := flk 8 3 rfl tyX8_ok nmX8 in_X11_takeApart_X8 (by decide) (by decide +kernel)
def rm_X11_takeApart : Room := { frames := 4, cells := 0, slots := 0, locals := 130 }
set_option maxHeartbeats 4000000 in
set_option maxRecDepth 100000 in
theorem bk_X11_takeApart_50 (G : KG) (hG : Kok G) (X : KX) (hX : KR X = rm_X11_takeApart) (C : Fr G X cX11_takeApart 6 yX11_takeApart.cls (some .int) wsX11_takeApart) (l1 : Int) (l2 : Int) (Q : Int → Ii → Jj → Prop) (r18 : Int → Int → Ii → Jj → Prop) (w18 : ∀ (l3 : Int) (l4 : Int) (I : Ii) (J : Jj), r18 l3 l4 I J → Wz G X 6 (QsU G X (QsI Q)) 0 0 18 [some (.ref (kadr G 100)), none, none, some (.int (iZ l3)), some (.int (iZ l4)), none] [] I J) (l3 : Int) (l4 : Int) (t0 : Int) (I : Ii) (J : Jj) (h : B_X11_takeApart_50 l1 l2 Q r18 l3 l4 t0 I J) : Wz G X 6 (QsU G X (QsI Q)) 0 0 50 [some (.ref (kadr G 100)), none, none, some (.int (iZ l3)), some (.int (iZ l4)), none] [.int (iZ t0)] I J := by
  unfold B_X11_takeApart_50 at h
  refine wz_istore_5 C rfl dX11_takeApart_50 ?_
  refine wz_aload_n C rfl rfl dX11_takeApart_52 ?_
  refine wz_getR C (j := 300) f_X11_takeApart_53 rfl dX11_takeApart_53 ?_
  refine wz_getR C (j := 301) f_X11_takeApart_315 rfl dX11_takeApart_56 ?_
  refine wz_iload C rfl dX11_takeApart_59 ?_
  refine wm_callS C (As := [.ref (kadr G 301), .int (iZ l4)]) (st := []) (a' := 0) (b' := 0) (k_X11_at G hG 301 l4 I J _ h) 2 gX11_takeApart_X11_at rfl (by decide +kernel) (by rw [hX]; exact ⟨Nat.le_of_ble_eq_true rfl, Nat.le_of_ble_eq_true rfl⟩) rfl (Nat.le_of_ble_eq_true rfl) rfl rfl rfl dX11_takeApart_61 (kk_sI (fun v5 I5 J5 h => ?_))
  refine wz_iload C rfl dX11_takeApart_64 ?_
  obtain ⟨g6, h⟩ := h
  obtain ⟨g7, h⟩ := h
  refine wz_icmp_eq C (tgt := 80) g6 g7 dX11_takeApart_66 (by decide) (fun c => ?_) (fun c => ?_)
  · replace h := h.1 c
    refine wz_iinc_4 C rfl dX11_takeApart_80 ?_
    refine wz_goto C dX11_takeApart_83 (tgt := 18) (by decide) ?_
    exact Wz.drop (w18 l3 (l4 + 1) I5 J5 h) (And.intro rfl (And.intro rfl (And.intro rfl trivial)))
  · replace h := h.2 c
    refine wz_aload_n C rfl rfl dX11_takeApart_69 ?_
    refine wz_iload C rfl dX11_takeApart_70 ?_
    refine wz_iload C rfl dX11_takeApart_72 ?_
    refine wm_callV C (o := 100) (As := [.int (iZ l4), .int (iZ t0)]) (st := []) (a' := 0) (b' := 0) rfl rfl (k_X11_takeTo G hG l4 t0 I5 J5 _ h) 2 gX11_takeApart_X11_takeTo rfl (by decide +kernel) (by rw [hX]; exact ⟨Nat.le_of_ble_eq_true rfl, Nat.le_of_ble_eq_true rfl⟩) rfl (Nat.le_of_ble_eq_true rfl) rfl rfl rfl dX11_takeApart_74 (kk_sV (fun I8 J8 h => ?_))
    refine wz_iinc_3 C rfl dX11_takeApart_77 ?_
    refine wz_iinc_4 C rfl dX11_takeApart_80 ?_
    refine wz_goto C dX11_takeApart_83 (tgt := 18) (by decide) ?_
    exact Wz.drop (w18 (l3 + 1) (l4 + 1) I8 J8 h) (And.intro rfl (And.intro rfl (And.intro rfl trivial)))
set_option maxHeartbeats 4000000 in
set_option maxRecDepth 100000 in
theorem lk_X11_takeApart_18 (G : KG) (hG : Kok G) (X : KX) (hX : KR X = rm_X11_takeApart) (C : Fr G X cX11_takeApart 6 yX11_takeApart.cls (some .int) wsX11_takeApart) (l1 : Int) (l2 : Int) (Q : Int → Ii → Jj → Prop) : ∀ (n : Nat) (l3 : Int) (l4 : Int) (I : Ii) (J : Jj), L_X11_takeApart_18 l1 l2 Q n l3 l4 I J → Wz G X 6 (QsU G X (QsI Q)) 0 0 18 [some (.ref (kadr G 100)), none, none, some (.int (iZ l3)), some (.int (iZ l4)), none] [] I J := by
  intro n
  induction n with
  | zero => intro l3 l4 I J h; exact False.elim h
  | succ n w18 =>
    intro l3 l4 I J h
    have h : Lb_X11_takeApart_18 l1 l2 Q (L_X11_takeApart_18 l1 l2 Q n) l3 l4 I J := h
    unfold Lb_X11_takeApart_18 at h
    generalize L_X11_takeApart_18 l1 l2 Q n = r18 at h w18
    refine wz_iload C rfl dX11_takeApart_18 ?_
    refine wz_aload_n C rfl rfl dX11_takeApart_20 ?_
    refine wz_getR C (j := 200) f_X11_takeApart_40 rfl dX11_takeApart_21 ?_
    refine wz_getI C rfl f_X11_takeApart_141 rfl dX11_takeApart_24 ?_
    obtain ⟨g2, h⟩ := h
    obtain ⟨g3, h⟩ := h
    refine wz_icmp_ge C (tgt := 86) g2 g3 dX11_takeApart_27 (by decide) (fun c => ?_) (fun c => ?_)
    · replace h := h.1 c
      refine wz_iload_n C rfl rfl dX11_takeApart_86 ?_
      exact wz_iret C dX11_takeApart_87 ⟨_, rfl, h⟩
    · replace h := h.2 c
      refine wz_aload_n C rfl rfl dX11_takeApart_30 ?_
      refine wz_getR C (j := 128) f_X11_takeApart_94 rfl dX11_takeApart_31 ?_
      refine wz_getI C rfl f_X11_takeApart_327 rfl dX11_takeApart_34 ?_
      refine wz_iload C rfl dX11_takeApart_37 ?_
      refine wm_callS C (As := [.int (iZ (I 128 5)), .int (iZ l4)]) (st := []) (a' := 0) (b' := 0) (k_X11_isIn G hG (I 128 5) l4 I J _ h) 2 gX11_takeApart_X11_isIn rfl (by decide +kernel) (by rw [hX]; exact ⟨Nat.le_of_ble_eq_true rfl, Nat.le_of_ble_eq_true rfl⟩) rfl (Nat.le_of_ble_eq_true rfl) rfl rfl rfl dX11_takeApart_39 (kk_sB (fun v4 I4 J4 hb4 h => ?_))
      refine wz_if_eq C (tgt := 49) (rgB hb4) dX11_takeApart_42 (by decide) (fun c => ?_) (fun c => ?_)
      · replace h := h.1 c
        refine wz_iconst C dX11_takeApart_49 ?_
        exact bk_X11_takeApart_50 G hG X hX C l1 l2 Q r18 w18 l3 l4 1 I4 J4 h
      · replace h := h.2 c
        refine wz_iconst C dX11_takeApart_45 ?_
        refine wz_goto C dX11_takeApart_46 (tgt := 50) (by decide) ?_
        exact bk_X11_takeApart_50 G hG X hX C l1 l2 Q r18 w18 l3 l4 0 I4 J4 h
set_option maxHeartbeats 4000000 in
set_option maxRecDepth 100000 in
theorem k_X11_takeApart (G : KG) (hG : Kok G) (l1 : Int) (l2 : Int) (I : Ii) (J : Jj) (Q : Int → Ii → Jj → Prop) (h : wp_X11_takeApart l1 l2 I J Q) : Ctr G yX11_takeApart wsX11_takeApart rm_X11_takeApart [.ref (kadr G 100), .int (iZ l1), .int (iZ l2)] (I, J) (QsI Q) := by
  unfold wp_X11_takeApart at h
  skip
  refine Ctr.ofZ (cc := cX11_takeApart) (nL := 6) (ret := (some .int)) [some (.ref (kadr G 100)), some (.int (iZ l1)), some (.int (iZ l2)), none, none, none] hG (by decide +kernel) rfl (Nat.le_of_ble_eq_true rfl) (Nat.le_of_ble_eq_true rfl) (by simp [lvA, lv_args, Value.category]) ?_
  intro X hX C
  refine wz_aload_n C rfl rfl dX11_takeApart_0 ?_
  refine wz_getR C (j := 128) f_X11_takeApart_94 rfl dX11_takeApart_1 ?_
  refine wz_aload_n C rfl rfl dX11_takeApart_4 ?_
  refine wz_getR C (j := 200) f_X11_takeApart_40 rfl dX11_takeApart_5 ?_
  refine wz_iload_n C rfl rfl dX11_takeApart_8 ?_
  refine wz_iload_n C rfl rfl dX11_takeApart_9 ?_
  refine wm_callV C (o := 128) (As := [.ref (kadr G 200), .int (iZ l1), .int (iZ l2)]) (st := []) (a' := 0) (b' := 0) rfl rfl (k_X1_run G hG 200 l1 l2 I J _ h) 3 gX11_takeApart_X1_run rfl (by decide +kernel) (by rw [hX]; exact ⟨Nat.le_of_ble_eq_true rfl, Nat.le_of_ble_eq_true rfl⟩) rfl (Nat.le_of_ble_eq_true rfl) rfl rfl rfl dX11_takeApart_10 (kk_sV (fun I1 J1 h => ?_))
  refine wz_iconst C dX11_takeApart_13 ?_
  refine wz_istore_3 C rfl dX11_takeApart_14 ?_
  refine wz_iconst C dX11_takeApart_15 ?_
  refine wz_istore_4 C rfl dX11_takeApart_16 ?_
  obtain ⟨n, h⟩ := h
  exact Wz.drop (lk_X11_takeApart_18 G hG X hX C l1 l2 Q n 0 0 I1 J1 h) (And.intro rfl (And.intro rfl (And.intro rfl trivial)))
theorem in_X11_writeVertex_X11 : ∀ w ∈ wsX110, w ∈ wsX11_writeVertex := by decide +kernel
theorem f_X11_writeVertex_40 : FLk wsX11_writeVertex RX11 40 11 4 := flk 11 4 rfl tyX11_ok nmX11 in_X11_writeVertex_X11 (by decide) (by decide +kernel)
def rm_X11_writeVertex : Room := { frames := 2, cells := 0, slots := 0, locals := 43 }
set_option maxHeartbeats 4000000 in
set_option maxRecDepth 100000 in
theorem lk_X11_writeVertex_19 (G : KG) (hG : Kok G) (X : KX) (hX : KR X = rm_X11_writeVertex) (C : Fr G X cX11_writeVertex 7 yX11_writeVertex.cls none wsX11_writeVertex) (l1 : Int) (l2 : Int) (Q : Ii → Jj → Prop) : ∀ (n : Nat) (l3 : Int64) (l5 : Int) (I : Ii) (J : Jj), L_X11_writeVertex_19 l1 l2 Q n l3 l5 I J → Wz G X 7 (QsU G X (QsV Q)) 0 0 19 [some (.ref (kadr G 100)), none, some (.int (iZ l2)), some (.long l3), none, some (.int (iZ l5)), none] [] I J := by
  intro n
  induction n with
  | zero => intro l3 l5 I J h; exact False.elim h
  | succ n w19 =>
    intro l3 l5 I J h
    have h : Lb_X11_writeVertex_19 l1 l2 Q (L_X11_writeVertex_19 l1 l2 Q n) l3 l5 I J := h
    unfold Lb_X11_writeVertex_19 at h
    generalize L_X11_writeVertex_19 l1 l2 Q n = r19 at h w19
    refine wz_iload C rfl dX11_writeVertex_19 ?_
    obtain ⟨g3, h⟩ := h
    refine wz_if_lt C (tgt := 49) g3 dX11_writeVertex_21 (by decide) (fun c => ?_) (fun c => ?_)
    · replace h := h.1 c
      refine wz_iload_n C rfl rfl dX11_writeVertex_49 ?_
      obtain ⟨g4, h⟩ := h
      refine wz_if_eq C (tgt := 59) g4 dX11_writeVertex_50 (by decide) (fun c => ?_) (fun c => ?_)
      · replace h := h.1 c
        exact wz_vret C dX11_writeVertex_59 ⟨rfl, h⟩
      · replace h := h.2 c
        refine wz_aload_n C rfl rfl dX11_writeVertex_53 ?_
        refine wz_bipush C (by decide) dX11_writeVertex_54 ?_
        refine wm_callV C (o := 100) (As := [.int (iZ 43)]) (st := []) (a' := 0) (b' := 0) rfl rfl (k_X11_write G hG 43 I J _ h) 1 gX11_writeVertex_X11_write rfl (by decide +kernel) (by rw [hX]; exact ⟨Nat.le_of_ble_eq_true rfl, Nat.le_of_ble_eq_true rfl⟩) rfl (Nat.le_of_ble_eq_true rfl) rfl rfl rfl dX11_writeVertex_56 (kk_sV (fun I5 J5 h => ?_))
        exact wz_vret C dX11_writeVertex_59 ⟨rfl, h⟩
    · replace h := h.2 c
      refine wz_lload_n C rfl rfl dX11_writeVertex_24 ?_
      refine wz_iload C rfl dX11_writeVertex_25 ?_
      refine wm_callSo C (As := [.long l3, .int (iZ l5)]) (st := []) (a' := 0) (b' := 0) (k_X10_letterAt G hG l3 l5 I J _ h) 2 (goodIn_wsS gX11_writeVertex_X10_letterAt) (by decide +kernel) (by decide +kernel) (by decide +kernel) rfl (by decide +kernel) (by rw [hX]; exact ⟨Nat.le_of_ble_eq_true rfl, Nat.le_of_ble_eq_true rfl⟩) rfl (Nat.le_of_ble_eq_true rfl) rfl rfl rfl dX11_writeVertex_27 (kk_sI (fun v6 I6 J6 h => ?_))
      refine wz_istore_6 C rfl dX11_writeVertex_30 ?_
      refine wz_iload C rfl dX11_writeVertex_32 ?_
      obtain ⟨g7, h⟩ := h
      refine wz_if_eq C (tgt := 43) g7 dX11_writeVertex_34 (by decide) (fun c => ?_) (fun c => ?_)
      · replace h := h.1 c
        refine wz_iinc_5 C rfl dX11_writeVertex_43 ?_
        refine wz_goto C dX11_writeVertex_46 (tgt := 19) (by decide) ?_
        exact Wz.drop (w19 l3 (l5 + (-1)) I6 J6 h) (And.intro rfl (And.intro rfl (And.intro rfl (And.intro rfl trivial))))
      · replace h := h.2 c
        refine wz_aload_n C rfl rfl dX11_writeVertex_37 ?_
        refine wz_iload C rfl dX11_writeVertex_38 ?_
        refine wm_callV C (o := 100) (As := [.int (iZ v6)]) (st := []) (a' := 0) (b' := 0) rfl rfl (k_X11_write G hG v6 I6 J6 _ h) 1 gX11_writeVertex_X11_write rfl (by decide +kernel) (by rw [hX]; exact ⟨Nat.le_of_ble_eq_true rfl, Nat.le_of_ble_eq_true rfl⟩) rfl (Nat.le_of_ble_eq_true rfl) rfl rfl rfl dX11_writeVertex_40 (kk_sV (fun I8 J8 h => ?_))
        refine wz_iinc_5 C rfl dX11_writeVertex_43 ?_
        refine wz_goto C dX11_writeVertex_46 (tgt := 19) (by decide) ?_
        exact Wz.drop (w19 l3 (l5 + (-1)) I8 J8 h) (And.intro rfl (And.intro rfl (And.intro rfl (And.intro rfl trivial))))
set_option maxHeartbeats 4000000 in
set_option maxRecDepth 100000 in
theorem k_X11_writeVertex (G : KG) (hG : Kok G) (l1 : Int) (l2 : Int) (I : Ii) (J : Jj) (Q : Ii → Jj → Prop) (h : wp_X11_writeVertex l1 l2 I J Q) : Ctr G yX11_writeVertex wsX11_writeVertex rm_X11_writeVertex [.ref (kadr G 100), .int (iZ l1), .int (iZ l2)] (I, J) (QsV Q) := by
  unfold wp_X11_writeVertex at h
  skip
  refine Ctr.ofZ (cc := cX11_writeVertex) (nL := 7) (ret := none) [some (.ref (kadr G 100)), some (.int (iZ l1)), some (.int (iZ l2)), none, none, none, none] hG (by decide +kernel) rfl (Nat.le_of_ble_eq_true rfl) (Nat.le_of_ble_eq_true rfl) (by simp [lvA, lv_args, Value.category]) ?_
  intro X hX C
  refine wz_aload_n C rfl rfl dX11_writeVertex_0 ?_
  refine wz_bipush C (by decide) dX11_writeVertex_1 ?_
  refine wm_callV C (o := 100) (As := [.int (iZ 32)]) (st := []) (a' := 0) (b' := 0) rfl rfl (k_X11_write G hG 32 I J _ h) 1 gX11_writeVertex_X11_write rfl (by decide +kernel) (by rw [hX]; exact ⟨Nat.le_of_ble_eq_true rfl, Nat.le_of_ble_eq_true rfl⟩) rfl (Nat.le_of_ble_eq_true rfl) rfl rfl rfl dX11_writeVertex_3 (kk_sV (fun I1 J1 h => ?_))
  refine wz_aload_n C rfl rfl dX11_writeVertex_6 ?_
  refine wz_getR C (j := 200) f_X11_writeVertex_40 rfl dX11_writeVertex_7 ?_
  refine wz_iload_n C rfl rfl dX11_writeVertex_10 ?_
  refine wm_callV C (o := 200) (As := [.int (iZ l1)]) (st := []) (a' := 0) (b' := 0) rfl rfl (k_X2_nameOf G hG 200 l1 I1 J1 _ h) 1 gX11_writeVertex_X2_nameOf rfl (by decide +kernel) (by rw [hX]; exact ⟨Nat.le_of_ble_eq_true rfl, Nat.le_of_ble_eq_true rfl⟩) rfl (Nat.le_of_ble_eq_true rfl) rfl rfl rfl dX11_writeVertex_11 (kk_sJ (fun v2 I2 J2 h => ?_))
  refine wz_lstore_3 C rfl dX11_writeVertex_14 ?_
  refine wz_bipush C (by decide) dX11_writeVertex_15 ?_
  refine wz_istore_5 C rfl dX11_writeVertex_17 ?_
  obtain ⟨n, h⟩ := h
  exact Wz.drop (lk_X11_writeVertex_19 G hG X hX C l1 l2 Q n v2 7 I2 J2 h) (And.intro rfl (And.intro rfl (And.intro rfl (And.intro rfl trivial))))
theorem in_X11_save_X11 : ∀ w ∈ wsX110, w ∈ wsX11_save := by decide +kernel
theorem f_X11_save_47 : FLk wsX11_save RX11 47 11 6 := flk 11 6 rfl tyX11_ok nmX11 in_X11_save_X11 (by decide) (by decide +kernel)
theorem f_X11_save_40 : FLk wsX11_save RX11 40 11 4 := flk 11 4 rfl tyX11_ok nmX11 in_X11_save_X11 (by decide) (by decide +kernel)
theorem f_X11_save_60 : FLk wsX11_save RX11 60 11 9 := flk 11 9 rfl tyX11_ok nmX11 in_X11_save_X11 (by decide) (by decide +kernel)
theorem f_X11_save_53 : FLk wsX11_save RX11 53 11 7 := flk 11 7 rfl tyX11_ok nmX11 in_X11_save_X11 (by decide) (by decide +kernel)
theorem f_X11_save_523 : FLk wsX11_save RX11 523 11 10 := flk 11 10 rfl tyX11_ok nmX11 in_X11_save_X11 (by decide) (by decide +kernel)
theorem fp_X11_10 : FPk 11 10 .boolean := fun C9 T9 N9 h => by
  have h : some (RX11, TX11, 18) = some (C9, T9, N9) := h
  cases h
  exact ⟨rfl, by decide +kernel⟩
def rm_X11_save : Room := { frames := 4, cells := 0, slots := 0, locals := 102 }
set_option maxHeartbeats 4000000 in
set_option maxRecDepth 100000 in
theorem k_X11_save (G : KG) (hG : Kok G) (I : Ii) (J : Jj) (Q : Int → Ii → Jj → Prop) (h : wp_X11_save I J Q) : Ctr G yX11_save wsX11_save rm_X11_save [.ref (kadr G 100)] (I, J) (QsI Q) := by
  unfold wp_X11_save at h
  skip
  refine Ctr.ofZ (cc := cX11_save) (nL := 1) (ret := (some .int)) [some (.ref (kadr G 100))] hG (by decide +kernel) rfl (Nat.le_of_ble_eq_true rfl) (Nat.le_of_ble_eq_true rfl) (by simp [lvA, lv_args, Value.category]) ?_
  intro X hX C
  refine wz_aload_n C rfl rfl dX11_save_0 ?_
  refine wz_getR C (j := 220) f_X11_save_47 rfl dX11_save_1 ?_
  refine wz_aload_n C rfl rfl dX11_save_4 ?_
  refine wz_getR C (j := 200) f_X11_save_40 rfl dX11_save_5 ?_
  refine wm_callV C (o := 220) (As := [.ref (kadr G 200)]) (st := []) (a' := 0) (b' := 0) rfl rfl (k_X2_copyFrom G hG 220 200 I J _ h) 1 gX11_save_X2_copyFrom rfl (by decide +kernel) (by rw [hX]; exact ⟨Nat.le_of_ble_eq_true rfl, Nat.le_of_ble_eq_true rfl⟩) rfl (Nat.le_of_ble_eq_true rfl) rfl rfl rfl dX11_save_8 (kk_sV (fun I1 J1 h => ?_))
  refine wz_aload_n C rfl rfl dX11_save_11 ?_
  refine wz_getR C (j := 320) f_X11_save_60 rfl dX11_save_12 ?_
  refine wz_aload_n C rfl rfl dX11_save_15 ?_
  refine wz_getR C (j := 300) f_X11_save_53 rfl dX11_save_16 ?_
  refine wm_callV C (o := 320) (As := [.ref (kadr G 300)]) (st := []) (a' := 0) (b' := 0) rfl rfl (k_X8_copyFrom G hG 320 300 I1 J1 _ h) 1 gX11_save_X8_copyFrom rfl (by decide +kernel) (by rw [hX]; exact ⟨Nat.le_of_ble_eq_true rfl, Nat.le_of_ble_eq_true rfl⟩) rfl (Nat.le_of_ble_eq_true rfl) rfl rfl rfl dX11_save_19 (kk_sV (fun I2 J2 h => ?_))
  refine wz_aload_n C rfl rfl dX11_save_22 ?_
  refine wz_iconst C dX11_save_23 ?_
  refine wd_putZ C f_X11_save_523 fp_X11_10 (Or.inr rfl) rfl dX11_save_24 (fun I3 e => ?_)
  replace h := h I3 e
  refine wz_aload_n C rfl rfl dX11_save_27 ?_
  refine wm_callV C (o := 100) (As := []) (st := []) (a' := 0) (b' := 0) rfl rfl (k_X11_cut G hG I3 J2 _ h) 0 gX11_save_X11_cut rfl (by decide +kernel) (by rw [hX]; exact ⟨Nat.le_of_ble_eq_true rfl, Nat.le_of_ble_eq_true rfl⟩) rfl (Nat.le_of_ble_eq_true rfl) rfl rfl rfl dX11_save_28 (kk_sI (fun v4 I4 J4 h => ?_))
  exact wz_iret C dX11_save_31 ⟨_, rfl, h⟩
theorem in_X11_restore_X11 : ∀ w ∈ wsX110, w ∈ wsX11_restore := by decide +kernel
theorem f_X11_restore_523 : FLk wsX11_restore RX11 523 11 10 := flk 11 10 rfl tyX11_ok nmX11 in_X11_restore_X11 (by decide) (by decide +kernel)
theorem f_X11_restore_40 : FLk wsX11_restore RX11 40 11 4 := flk 11 4 rfl tyX11_ok nmX11 in_X11_restore_X11 (by decide) (by decide +kernel)
theorem f_X11_restore_47 : FLk wsX11_restore RX11 47 11 6 := flk 11 6 rfl tyX11_ok nmX11 in_X11_restore_X11 (by decide) (by decide +kernel)
theorem f_X11_restore_53 : FLk wsX11_restore RX11 53 11 7 := flk 11 7 rfl tyX11_ok nmX11 in_X11_restore_X11 (by decide) (by decide +kernel)
theorem f_X11_restore_60 : FLk wsX11_restore RX11 60 11 9 := flk 11 9 rfl tyX11_ok nmX11 in_X11_restore_X11 (by decide) (by decide +kernel)
theorem f_X11_restore_66 : FLk wsX11_restore RX11 66 11 11 := flk 11 11 rfl tyX11_ok nmX11 in_X11_restore_X11 (by decide) (by decide +kernel)
def rm_X11_restore : Room := { frames := 4, cells := 0, slots := 0, locals := 102 }
set_option maxHeartbeats 4000000 in
set_option maxRecDepth 100000 in
theorem k_X11_restore (G : KG) (hG : Kok G) (I : Ii) (J : Jj) (Q : Int → Ii → Jj → Prop) (h : wp_X11_restore I J Q) : Ctr G yX11_restore wsX11_restore rm_X11_restore [.ref (kadr G 100)] (I, J) (QsI Q) := by
  unfold wp_X11_restore at h
  skip
  refine Ctr.ofZ (cc := cX11_restore) (nL := 1) (ret := (some .int)) [some (.ref (kadr G 100))] hG (by decide +kernel) rfl (Nat.le_of_ble_eq_true rfl) (Nat.le_of_ble_eq_true rfl) (by simp [lvA, lv_args, Value.category]) ?_
  intro X hX C
  refine wz_aload_n C rfl rfl dX11_restore_0 ?_
  refine wz_getI C rfl f_X11_restore_523 rfl dX11_restore_1 ?_
  obtain ⟨g1, h⟩ := h
  refine wz_if_ne C (tgt := 18) g1 dX11_restore_4 (by decide) (fun c => ?_) (fun c => ?_)
  · replace h := h.1 c
    refine wz_aload_n C rfl rfl dX11_restore_18 ?_
    refine wz_getR C (j := 200) f_X11_restore_40 rfl dX11_restore_19 ?_
    refine wz_aload_n C rfl rfl dX11_restore_22 ?_
    refine wz_getR C (j := 220) f_X11_restore_47 rfl dX11_restore_23 ?_
    refine wm_callV C (o := 200) (As := [.ref (kadr G 220)]) (st := []) (a' := 0) (b' := 0) rfl rfl (k_X2_copyFrom G hG 200 220 I J _ h) 1 gX11_restore_X2_copyFrom rfl (by decide +kernel) (by rw [hX]; exact ⟨Nat.le_of_ble_eq_true rfl, Nat.le_of_ble_eq_true rfl⟩) rfl (Nat.le_of_ble_eq_true rfl) rfl rfl rfl dX11_restore_26 (kk_sV (fun I2 J2 h => ?_))
    refine wz_aload_n C rfl rfl dX11_restore_29 ?_
    refine wz_getR C (j := 300) f_X11_restore_53 rfl dX11_restore_30 ?_
    refine wz_aload_n C rfl rfl dX11_restore_33 ?_
    refine wz_getR C (j := 320) f_X11_restore_60 rfl dX11_restore_34 ?_
    refine wm_callV C (o := 300) (As := [.ref (kadr G 320)]) (st := []) (a' := 0) (b' := 0) rfl rfl (k_X8_copyFrom G hG 300 320 I2 J2 _ h) 1 gX11_restore_X8_copyFrom rfl (by decide +kernel) (by rw [hX]; exact ⟨Nat.le_of_ble_eq_true rfl, Nat.le_of_ble_eq_true rfl⟩) rfl (Nat.le_of_ble_eq_true rfl) rfl rfl rfl dX11_restore_37 (kk_sV (fun I3 J3 h => ?_))
    refine wz_aload_n C rfl rfl dX11_restore_40 ?_
    refine wz_getR C (j := 111) f_X11_restore_66 rfl dX11_restore_41 ?_
    refine wm_callV C (o := 111) (As := []) (st := []) (a' := 0) (b' := 0) rfl rfl (k_X3_forget G hG I3 J3 _ h) 0 gX11_restore_X3_forget rfl (by decide +kernel) (by rw [hX]; exact ⟨Nat.le_of_ble_eq_true rfl, Nat.le_of_ble_eq_true rfl⟩) rfl (Nat.le_of_ble_eq_true rfl) rfl rfl rfl dX11_restore_44 (kk_sV (fun I4 J4 h => ?_))
    refine wz_aload_n C rfl rfl dX11_restore_47 ?_
    refine wm_callV C (o := 100) (As := []) (st := []) (a' := 0) (b' := 0) rfl rfl (k_X11_cut G hG I4 J4 _ h) 0 gX11_restore_X11_cut rfl (by decide +kernel) (by rw [hX]; exact ⟨Nat.le_of_ble_eq_true rfl, Nat.le_of_ble_eq_true rfl⟩) rfl (Nat.le_of_ble_eq_true rfl) rfl rfl rfl dX11_restore_48 (kk_sI (fun v5 I5 J5 h => ?_))
    exact wz_iret C dX11_restore_51 ⟨_, rfl, h⟩
  · replace h := h.2 c
    exact False.elim h
theorem in_X0_search_X0 : ∀ w ∈ wsX00, w ∈ wsX0_search := by decide +kernel
theorem in_X0_search_X4 : ∀ w ∈ wsX40, w ∈ wsX0_search := by decide +kernel
theorem f_X0_search_9 : FLk wsX0_search RX0 9 0 0 := flk 0 0 rfl tyX0_ok nmX0 in_X0_search_X0 (by decide) (by decide +kernel)
theorem f_X0_search_28 : FLk wsX0_search RX0 28 0 3 := flk 0 3 rfl tyX0_ok nmX0 in_X0_search_X0 (by decide) (by decide +kernel)
theorem fp_X0_3 : FPk 0 3 .int := fun C9 T9 N9 h => by
  have h : some (RX0, TX0, 5) = some (C9, T9, N9) := h
  cases h
  exact ⟨rfl, by decide +kernel⟩
theorem f_X0_search_32 : FLk wsX0_search RX0 32 0 4 := flk 0 4 rfl tyX0_ok nmX0 in_X0_search_X0 (by decide) (by decide +kernel)
theorem fp_X0_4 : FPk 0 4 .int := fun C9 T9 N9 h => by
  have h : some (RX0, TX0, 5) = some (C9, T9, N9) := h
  cases h
  exact ⟨rfl, by decide +kernel⟩
theorem f_X0_search_39 : FLk wsX0_search RX0 39 4 0 := flk 4 0 rfl tyX4_ok nmX4 in_X0_search_X4 (by decide) (by decide +kernel)
theorem f_X0_search_15 : FLk wsX0_search RX0 15 0 1 := flk 0 1 rfl tyX0_ok nmX0 in_X0_search_X0 (by decide) (by decide +kernel)
def rm_X0_search : Room := { frames := 3, cells := 0, slots := 0, locals := 81 }
set_option maxHeartbeats 4000000 in
set_option maxRecDepth 100000 in
theorem bk_X0_search_109 (G : KG) (hG : Kok G) (X : KX) (hX : KR X = rm_X0_search) (C : Fr G X cX0_search 7 yX0_search.cls none wsX0_search) (Q : Ii → Jj → Prop) (r25 : Int → Int → Ii → Jj → Prop) (w25 : ∀ (l3 : Int) (l4 : Int) (I : Ii) (J : Jj), r25 l3 l4 I J → Wz G X 7 (QsU G X (QsV Q)) 0 0 25 [some (.ref (kadr G 124)), some (.ref (kadr G 113)), some (.ref (kadr G 120)), some (.int (iZ l3)), some (.int (iZ l4)), none, none] [] I J) (l4 : Int) (I : Ii) (J : Jj) (h : B_X0_search_109 Q r25 l4 I J) : Wz G X 7 (QsU G X (QsV Q)) 0 0 109 [some (.ref (kadr G 124)), some (.ref (kadr G 113)), some (.ref (kadr G 120)), none, some (.int (iZ l4)), none, none] [] I J := by
  unfold B_X0_search_109 at h
  refine wz_aload_n C rfl rfl dX0_search_109 ?_
  refine wz_aload_n C rfl rfl dX0_search_110 ?_
  refine wm_callV C (o := 124) (As := [.ref (kadr G 113)]) (st := []) (a' := 0) (b' := 0) rfl rfl (k_X0_advance G hG I J _ h) 1 gX0_search_X0_advance rfl (by decide +kernel) (by rw [hX]; exact ⟨Nat.le_of_ble_eq_true rfl, Nat.le_of_ble_eq_true rfl⟩) rfl (Nat.le_of_ble_eq_true rfl) rfl rfl rfl dX0_search_111 (kk_sB (fun v17 I17 J17 hb17 h => ?_))
  refine wz_istore_3 C rfl dX0_search_114 ?_
  refine wz_iinc_4 C rfl dX0_search_115 ?_
  refine wz_goto C dX0_search_118 (tgt := 25) (by decide) ?_
  exact w25 v17 (l4 + 1) I17 J17 h
set_option maxHeartbeats 4000000 in
set_option maxRecDepth 100000 in
theorem bk_X0_search_86 (G : KG) (hG : Kok G) (X : KX) (hX : KR X = rm_X0_search) (C : Fr G X cX0_search 7 yX0_search.cls none wsX0_search) (Q : Ii → Jj → Prop) (r25 : Int → Int → Ii → Jj → Prop) (w25 : ∀ (l3 : Int) (l4 : Int) (I : Ii) (J : Jj), r25 l3 l4 I J → Wz G X 7 (QsU G X (QsV Q)) 0 0 25 [some (.ref (kadr G 124)), some (.ref (kadr G 113)), some (.ref (kadr G 120)), some (.int (iZ l3)), some (.int (iZ l4)), none, none] [] I J) (l4 : Int) (l5 : Int) (l6 : Int) (I : Ii) (J : Jj) (h : B_X0_search_86 Q r25 l4 l5 l6 I J) : Wz G X 7 (QsU G X (QsV Q)) 0 0 86 [some (.ref (kadr G 124)), some (.ref (kadr G 113)), some (.ref (kadr G 120)), none, some (.int (iZ l4)), some (.int (iZ l5)), some (.int (iZ l6))] [] I J := by
  unfold B_X0_search_86 at h
  refine wz_aload_n C rfl rfl dX0_search_86 ?_
  refine wz_iload C rfl dX0_search_87 ?_
  refine wd_putI C f_X0_search_28 fp_X0_3 rfl dX0_search_89 (fun I14 e => ?_)
  replace h := h I14 e
  refine wz_aload_n C rfl rfl dX0_search_92 ?_
  refine wz_iload C rfl dX0_search_93 ?_
  refine wd_putI C f_X0_search_32 fp_X0_4 rfl dX0_search_95 (fun I15 e => ?_)
  replace h := h I15 e
  refine wz_aload_n C rfl rfl dX0_search_98 ?_
  refine wz_getR C (j := 125) f_X0_search_9 rfl dX0_search_99 ?_
  refine wz_aload_n C rfl rfl dX0_search_102 ?_
  refine wz_getR C (j := 126) f_X0_search_15 rfl dX0_search_103 ?_
  refine wm_callSN C (As := [.ref (kadr G 125), .ref (kadr G 126)]) (st := []) (a' := 0) (b' := 0) (host := "ShareGraph") (k_X11_copy G hG 125 126 I15 J _ h) 2 gX0_search_X11_copy_n48 (by decide +kernel) (by decide +kernel) (by decide +kernel) rfl (by decide +kernel) (by rw [hX]; exact ⟨Nat.le_of_ble_eq_true rfl, Nat.le_of_ble_eq_true rfl⟩) rfl (Nat.le_of_ble_eq_true rfl) rfl rfl rfl dX0_search_106 (kk_sV (fun I16 J16 h => ?_))
  exact Wz.drop (bk_X0_search_109 G hG X hX C Q r25 w25 l4 I16 J16 h) (And.intro rfl (And.intro rfl (And.intro rfl (And.intro rfl trivial))))
set_option maxHeartbeats 4000000 in
set_option maxRecDepth 100000 in
theorem bk_X0_search_66 (G : KG) (hG : Kok G) (X : KX) (hX : KR X = rm_X0_search) (C : Fr G X cX0_search 7 yX0_search.cls none wsX0_search) (Q : Ii → Jj → Prop) (r25 : Int → Int → Ii → Jj → Prop) (w25 : ∀ (l3 : Int) (l4 : Int) (I : Ii) (J : Jj), r25 l3 l4 I J → Wz G X 7 (QsU G X (QsV Q)) 0 0 25 [some (.ref (kadr G 124)), some (.ref (kadr G 113)), some (.ref (kadr G 120)), some (.int (iZ l3)), some (.int (iZ l4)), none, none] [] I J) (l4 : Int) (l5 : Int) (t0 : Int) (I : Ii) (J : Jj) (h : B_X0_search_66 Q r25 l4 l5 t0 I J) : Wz G X 7 (QsU G X (QsV Q)) 0 0 66 [some (.ref (kadr G 124)), some (.ref (kadr G 113)), some (.ref (kadr G 120)), none, some (.int (iZ l4)), some (.int (iZ l5)), none] [.int (iZ t0)] I J := by
  unfold B_X0_search_66 at h
  refine wz_istore_6 C rfl dX0_search_66 ?_
  refine wz_iload C rfl dX0_search_68 ?_
  refine wz_aload_n C rfl rfl dX0_search_70 ?_
  refine wz_getI C rfl f_X0_search_28 rfl dX0_search_71 ?_
  obtain ⟨g10, h⟩ := h
  obtain ⟨g11, h⟩ := h
  refine wz_icmp_lt C (tgt := 86) g10 g11 dX0_search_74 (by decide) (fun c => ?_) (fun c => ?_)
  · replace h := h.1 c
    exact bk_X0_search_86 G hG X hX C Q r25 w25 l4 l5 t0 I J h
  · replace h := h.2 c
    refine wz_iload C rfl dX0_search_77 ?_
    refine wz_aload_n C rfl rfl dX0_search_79 ?_
    refine wz_getI C rfl f_X0_search_32 rfl dX0_search_80 ?_
    obtain ⟨g12, h⟩ := h
    obtain ⟨g13, h⟩ := h
    refine wz_icmp_ge C (tgt := 109) g12 g13 dX0_search_83 (by decide) (fun c => ?_) (fun c => ?_)
    · replace h := h.1 c
      exact Wz.drop (bk_X0_search_109 G hG X hX C Q r25 w25 l4 I J h) (And.intro rfl (And.intro rfl (And.intro rfl (And.intro rfl trivial))))
    · replace h := h.2 c
      exact bk_X0_search_86 G hG X hX C Q r25 w25 l4 l5 t0 I J h
set_option maxHeartbeats 4000000 in
set_option maxRecDepth 100000 in
theorem lk_X0_search_25 (G : KG) (hG : Kok G) (X : KX) (hX : KR X = rm_X0_search) (C : Fr G X cX0_search 7 yX0_search.cls none wsX0_search) (Q : Ii → Jj → Prop) : ∀ (n : Nat) (l3 : Int) (l4 : Int) (I : Ii) (J : Jj), L_X0_search_25 Q n l3 l4 I J → Wz G X 7 (QsU G X (QsV Q)) 0 0 25 [some (.ref (kadr G 124)), some (.ref (kadr G 113)), some (.ref (kadr G 120)), some (.int (iZ l3)), some (.int (iZ l4)), none, none] [] I J := by
  intro n
  induction n with
  | zero => intro l3 l4 I J h; exact False.elim h
  | succ n w25 =>
    intro l3 l4 I J h
    have h : Lb_X0_search_25 Q (L_X0_search_25 Q n) l3 l4 I J := h
    unfold Lb_X0_search_25 at h
    generalize L_X0_search_25 Q n = r25 at h w25
    refine wz_iload_n C rfl rfl dX0_search_25 ?_
    obtain ⟨g4, h⟩ := h
    refine wz_if_eq C (tgt := 121) g4 dX0_search_26 (by decide) (fun c => ?_) (fun c => ?_)
    · replace h := h.1 c
      exact wz_vret C dX0_search_121 ⟨rfl, h⟩
    · replace h := h.2 c
      refine wz_iload C rfl dX0_search_29 ?_
      refine wz_ldc C (n := 1000000) (v := 1000000) (by decide) (by decide +kernel) dX0_search_31 ?_
      obtain ⟨g5, h⟩ := h
      refine wz_icmp_ge C (tgt := 121) g5 (by decide) dX0_search_33 (by decide) (fun c => ?_) (fun c => ?_)
      · replace h := h.1 c
        exact wz_vret C dX0_search_121 ⟨rfl, h⟩
      · replace h := h.2 c
        refine wz_aload_n C rfl rfl dX0_search_36 ?_
        refine wz_aload_n C rfl rfl dX0_search_37 ?_
        refine wm_callV C (o := 124) (As := [.ref (kadr G 113)]) (st := []) (a' := 0) (b' := 0) rfl rfl (k_X0_triedDebts G hG I J _ h) 1 gX0_search_X0_triedDebts rfl (by decide +kernel) (by rw [hX]; exact ⟨Nat.le_of_ble_eq_true rfl, Nat.le_of_ble_eq_true rfl⟩) rfl (Nat.le_of_ble_eq_true rfl) rfl rfl rfl dX0_search_38 (kk_sI (fun v6 I6 J6 h => ?_))
        refine wz_istore_5 C rfl dX0_search_41 ?_
        refine wz_iload C rfl dX0_search_43 ?_
        refine wz_aload_n C rfl rfl dX0_search_45 ?_
        refine wz_getI C rfl f_X0_search_28 rfl dX0_search_46 ?_
        obtain ⟨g7, h⟩ := h
        obtain ⟨g8, h⟩ := h
        refine wz_icmp_le C (tgt := 57) g7 g8 dX0_search_49 (by decide) (fun c => ?_) (fun c => ?_)
        · replace h := h.1 c
          refine wz_aload_n C rfl rfl dX0_search_57 ?_
          refine wz_aload_n C rfl rfl dX0_search_58 ?_
          refine wz_getI C rfl f_X0_search_39 rfl dX0_search_59 ?_
          refine wz_aload_n C rfl rfl dX0_search_62 ?_
          refine wm_callV C (o := 124) (As := [.int (iZ (I6 113 0)), .ref (kadr G 120)]) (st := []) (a' := 0) (b' := 0) rfl rfl (k_X0_triedCut G hG (I6 113 0) I6 J6 _ h) 2 gX0_search_X0_triedCut rfl (by decide +kernel) (by rw [hX]; exact ⟨Nat.le_of_ble_eq_true rfl, Nat.le_of_ble_eq_true rfl⟩) rfl (Nat.le_of_ble_eq_true rfl) rfl rfl rfl dX0_search_63 (kk_sI (fun v9 I9 J9 h => ?_))
          exact Wz.drop (bk_X0_search_66 G hG X hX C Q r25 w25 l4 v6 v9 I9 J9 h) (And.intro rfl (And.intro rfl (And.intro rfl (And.intro rfl (And.intro rfl trivial)))))
        · replace h := h.2 c
          refine wz_ldc C (n := 1000000) (v := 1000000) (by decide) (by decide +kernel) dX0_search_52 ?_
          refine wz_goto C dX0_search_54 (tgt := 66) (by decide) ?_
          exact Wz.drop (bk_X0_search_66 G hG X hX C Q r25 w25 l4 v6 1000000 I6 J6 h) (And.intro rfl (And.intro rfl (And.intro rfl (And.intro rfl (And.intro rfl trivial)))))
set_option maxHeartbeats 4000000 in
set_option maxRecDepth 100000 in
theorem k_X0_search (G : KG) (hG : Kok G) (I : Ii) (J : Jj) (Q : Ii → Jj → Prop) (h : wp_X0_search I J Q) : Ctr G yX0_search wsX0_search rm_X0_search [.ref (kadr G 124), .ref (kadr G 113), .ref (kadr G 120)] (I, J) (QsV Q) := by
  unfold wp_X0_search at h
  skip
  refine Ctr.ofZ (cc := cX0_search) (nL := 7) (ret := none) [some (.ref (kadr G 124)), some (.ref (kadr G 113)), some (.ref (kadr G 120)), none, none, none, none] hG (by decide +kernel) rfl (Nat.le_of_ble_eq_true rfl) (Nat.le_of_ble_eq_true rfl) (by simp [lvA, lv_args, Value.category]) ?_
  intro X hX C
  refine wz_aload_n C rfl rfl dX0_search_0 ?_
  refine wz_getR C (j := 125) f_X0_search_9 rfl dX0_search_1 ?_
  refine wz_iconst C dX0_search_4 ?_
  refine wm_callSo C (As := [.ref (kadr G 125), .int (iZ 0)]) (st := []) (a' := 0) (b' := 0) (k_J7_fill_53178 G hG 125 0 I J _ h) 2 (goodIn_wsS gX0_search_J7_fill_53178) (by decide +kernel) (by decide +kernel) (by decide +kernel) rfl (by decide +kernel) (by rw [hX]; exact ⟨Nat.le_of_ble_eq_true rfl, Nat.le_of_ble_eq_true rfl⟩) rfl (Nat.le_of_ble_eq_true rfl) rfl rfl rfl dX0_search_5 (kk_sV (fun I1 J1 h => ?_))
  refine wz_aload_n C rfl rfl dX0_search_8 ?_
  refine wz_ldc C (n := 1000000) (v := 1000000) (by decide) (by decide +kernel) dX0_search_9 ?_
  refine wd_putI C f_X0_search_28 fp_X0_3 rfl dX0_search_11 (fun I2 e => ?_)
  replace h := h I2 e
  refine wz_aload_n C rfl rfl dX0_search_14 ?_
  refine wz_ldc C (n := 1000000) (v := 1000000) (by decide) (by decide +kernel) dX0_search_15 ?_
  refine wd_putI C f_X0_search_32 fp_X0_4 rfl dX0_search_17 (fun I3 e => ?_)
  replace h := h I3 e
  refine wz_iconst C dX0_search_20 ?_
  refine wz_istore_3 C rfl dX0_search_21 ?_
  refine wz_iconst C dX0_search_22 ?_
  refine wz_istore_4 C rfl dX0_search_23 ?_
  obtain ⟨n, h⟩ := h
  exact lk_X0_search_25 G hG X hX C Q n 1 0 I3 J1 h
theorem in_X3_keep_X3 : ∀ w ∈ wsX30, w ∈ wsX3_keep := by decide +kernel
theorem f_X3_keep_22 : FLk wsX3_keep RX3 22 3 1 := flk 3 1 rfl tyX3_ok nmX3 in_X3_keep_X3 (by decide) (by decide +kernel)
theorem fp_X3_1 : FPk 3 1 .int := fun C9 T9 N9 h => by
  have h : some (RX3, TX3, 3) = some (C9, T9, N9) := h
  cases h
  exact ⟨rfl, by decide +kernel⟩
theorem f_X3_keep_18 : FLk wsX3_keep RX3 18 3 2 := flk 3 2 rfl tyX3_ok nmX3 in_X3_keep_X3 (by decide) (by decide +kernel)
def rm_X3_keep : Room := { frames := 3, cells := 0, slots := 0, locals := 102 }
set_option maxHeartbeats 4000000 in
set_option maxRecDepth 100000 in
theorem k_X3_keep (G : KG) (hG : Kok G) (k1 : Nat) (I : Ii) (J : Jj) (Q : Ii → Jj → Prop) (h : wp_X3_keep k1 I J Q) : Ctr G yX3_keep wsX3_keep rm_X3_keep [.ref (kadr G 111), .ref (kadr G k1)] (I, J) (QsV Q) := by
  unfold wp_X3_keep at h
  obtain ⟨hk1, h⟩ := h
  refine Ctr.ofZ (cc := cX3_keep) (nL := 3) (ret := none) [some (.ref (kadr G 111)), some (.ref (kadr G k1)), none] hG (by decide +kernel) rfl (Nat.le_of_ble_eq_true rfl) (Nat.le_of_ble_eq_true rfl) (by simp [lvA, lv_args, Value.category]) ?_
  intro X hX C
  refine wz_aload_n C rfl rfl dX3_keep_0 ?_
  refine wz_aload_n C rfl rfl dX3_keep_1 ?_
  refine wz_getI C rfl f_X3_keep_22 rfl dX3_keep_2 ?_
  refine wz_iconst C dX3_keep_5 ?_
  refine wz_iadd C dX3_keep_6 ?_
  refine wz_bipush C (by decide) dX3_keep_7 ?_
  obtain ⟨g1, h⟩ := h
  refine wd_irem C g1 dX3_keep_9 ?_
  refine wd_putI C f_X3_keep_22 fp_X3_1 rfl dX3_keep_10 (fun I2 e => ?_)
  replace h := h I2 e
  refine wz_aload_n C rfl rfl dX3_keep_13 ?_
  refine wz_aload_n C rfl rfl dX3_keep_14 ?_
  refine wz_getI C rfl f_X3_keep_22 rfl dX3_keep_15 ?_
  refine wm_callV C (o := 111) (As := [.int (iZ (I2 111 1))]) (st := []) (a' := 0) (b' := 0) rfl rfl (k_X3_entry G hG (I2 111 1) I2 J _ h) 1 gX3_keep_X3_entry rfl (by decide +kernel) (by rw [hX]; exact ⟨Nat.le_of_ble_eq_true rfl, Nat.le_of_ble_eq_true rfl⟩) rfl (Nat.le_of_ble_eq_true rfl) rfl rfl rfl dX3_keep_18 (kk_sR (fun v3 I3 J3 h => ?_))
  refine wd_astore_2 C rfl dX3_keep_21 ?_
  refine wd_aload_n C rfl rfl dX3_keep_22 ?_
  refine wd_ifnull C (tgt := 46) dX3_keep_23 (by decide) (fun c => ?_) (fun k4 c => ?_)
  · replace h := h.1 c
    exact wz_vret C dX3_keep_46 ⟨rfl, h⟩
  · replace h := h.2 k4 c
    obtain ⟨gk4, h⟩ := h
    subst c
    refine wz_aload_n C rfl rfl dX3_keep_26 ?_
    refine wz_aload_n C rfl rfl dX3_keep_27 ?_
    refine wm_callV C (o := k4) (As := [.ref (kadr G k1)]) (st := []) (a' := 0) (b' := 0) (spX8 (sK_of gk4)) rfl (k_X8_copyFrom G hG k4 k1 I3 J3 _ h) 1 gX3_keep_X8_copyFrom rfl (by decide +kernel) (by rw [hX]; exact ⟨Nat.le_of_ble_eq_true rfl, Nat.le_of_ble_eq_true rfl⟩) rfl (Nat.le_of_ble_eq_true rfl) rfl rfl rfl dX3_keep_28 (kk_sV (fun I5 J5 h => ?_))
    refine wz_aload_n C rfl rfl dX3_keep_31 ?_
    refine wz_aload_n C rfl rfl dX3_keep_32 ?_
    refine wz_getI C rfl f_X3_keep_18 rfl dX3_keep_33 ?_
    refine wz_iconst C dX3_keep_36 ?_
    refine wz_iadd C dX3_keep_37 ?_
    refine wz_bipush C (by decide) dX3_keep_38 ?_
    refine wd_min C (st := [.ref (kadr G 111)]) h (by decide +kernel) (by decide +kernel) (by decide +kernel) (by decide +kernel) (by rw [hX]; exact ⟨Nat.le_of_ble_eq_true rfl, Nat.le_of_ble_eq_true rfl⟩) dX3_keep_40 (fun v6 I6 J6 h => ?_)
    refine wd_putI C f_X3_keep_18 fp_X3_2 rfl dX3_keep_43 (fun I7 e => ?_)
    replace h := h I7 e
    exact wz_vret C dX3_keep_46 ⟨rfl, h⟩
theorem in_X3_takeBack_X3 : ∀ w ∈ wsX30, w ∈ wsX3_takeBack := by decide +kernel
theorem f_X3_takeBack_22 : FLk wsX3_takeBack RX3 22 3 1 := flk 3 1 rfl tyX3_ok nmX3 in_X3_takeBack_X3 (by decide) (by decide +kernel)
theorem f_X3_takeBack_18 : FLk wsX3_takeBack RX3 18 3 2 := flk 3 2 rfl tyX3_ok nmX3 in_X3_takeBack_X3 (by decide) (by decide +kernel)
def rm_X3_takeBack : Room := { frames := 3, cells := 0, slots := 0, locals := 102 }
set_option maxHeartbeats 4000000 in
set_option maxRecDepth 100000 in
theorem k_X3_takeBack (G : KG) (hG : Kok G) (k1 : Nat) (I : Ii) (J : Jj) (Q : Int → Ii → Jj → Prop) (h : wp_X3_takeBack k1 I J Q) : Ctr G yX3_takeBack wsX3_takeBack rm_X3_takeBack [.ref (kadr G 111), .ref (kadr G k1)] (I, J) (QsB Q) := by
  unfold wp_X3_takeBack at h
  obtain ⟨hk1, h⟩ := h
  refine Ctr.ofZ (cc := cX3_takeBack) (nL := 3) (ret := (some .boolean)) [some (.ref (kadr G 111)), some (.ref (kadr G k1)), none] hG (by decide +kernel) rfl (Nat.le_of_ble_eq_true rfl) (Nat.le_of_ble_eq_true rfl) (by simp [lvA, lv_args, Value.category]) ?_
  intro X hX C
  refine wz_aload_n C rfl rfl dX3_takeBack_0 ?_
  refine wz_aload_n C rfl rfl dX3_takeBack_1 ?_
  refine wz_getI C rfl f_X3_takeBack_22 rfl dX3_takeBack_2 ?_
  refine wm_callV C (o := 111) (As := [.int (iZ (I 111 1))]) (st := []) (a' := 0) (b' := 0) rfl rfl (k_X3_entry G hG (I 111 1) I J _ h) 1 gX3_takeBack_X3_entry rfl (by decide +kernel) (by rw [hX]; exact ⟨Nat.le_of_ble_eq_true rfl, Nat.le_of_ble_eq_true rfl⟩) rfl (Nat.le_of_ble_eq_true rfl) rfl rfl rfl dX3_takeBack_5 (kk_sR (fun v1 I1 J1 h => ?_))
  refine wd_astore_2 C rfl dX3_takeBack_8 ?_
  refine wz_aload_n C rfl rfl dX3_takeBack_9 ?_
  refine wz_getI C rfl f_X3_takeBack_18 rfl dX3_takeBack_10 ?_
  obtain ⟨g2, h⟩ := h
  refine wz_if_eq C (tgt := 20) g2 dX3_takeBack_13 (by decide) (fun c => ?_) (fun c => ?_)
  · replace h := h.1 c
    refine wz_iconst C dX3_takeBack_20 ?_
    exact wz_zret C (Or.inl rfl) dX3_takeBack_21 ⟨_, rfl, (Or.inl rfl), h⟩
  · replace h := h.2 c
    refine wd_aload_n C rfl rfl dX3_takeBack_16 ?_
    refine wd_ifnonnull C (tgt := 22) dX3_takeBack_17 (by decide) (fun c => ?_) (fun k3 c => ?_)
    · replace h := h.1 c
      refine wz_iconst C dX3_takeBack_20 ?_
      exact wz_zret C (Or.inl rfl) dX3_takeBack_21 ⟨_, rfl, (Or.inl rfl), h⟩
    · replace h := h.2 k3 c
      obtain ⟨gk3, h⟩ := h
      subst c
      refine wz_aload_n C rfl rfl dX3_takeBack_22 ?_
      refine wz_aload_n C rfl rfl dX3_takeBack_23 ?_
      refine wm_callV C (o := k1) (As := [.ref (kadr G k3)]) (st := []) (a' := 0) (b' := 0) (spX8 hk1) rfl (k_X8_copyFrom G hG k1 k3 I1 J1 _ h) 1 gX3_takeBack_X8_copyFrom rfl (by decide +kernel) (by rw [hX]; exact ⟨Nat.le_of_ble_eq_true rfl, Nat.le_of_ble_eq_true rfl⟩) rfl (Nat.le_of_ble_eq_true rfl) rfl rfl rfl dX3_takeBack_24 (kk_sV (fun I4 J4 h => ?_))
      refine wz_aload_n C rfl rfl dX3_takeBack_27 ?_
      refine wz_aload_n C rfl rfl dX3_takeBack_28 ?_
      refine wz_getI C rfl f_X3_takeBack_22 rfl dX3_takeBack_29 ?_
      refine wz_bipush C (by decide) dX3_takeBack_32 ?_
      refine wz_iadd C dX3_takeBack_34 ?_
      refine wz_iconst C dX3_takeBack_35 ?_
      refine wz_isub C dX3_takeBack_36 ?_
      refine wz_bipush C (by decide) dX3_takeBack_37 ?_
      obtain ⟨g5, h⟩ := h
      refine wd_irem C g5 dX3_takeBack_39 ?_
      refine wd_putI C f_X3_takeBack_22 fp_X3_1 rfl dX3_takeBack_40 (fun I6 e => ?_)
      replace h := h I6 e
      refine wz_aload_n C rfl rfl dX3_takeBack_43 ?_
      refine wz_dup C rfl dX3_takeBack_44 ?_
      refine wz_getI C rfl f_X3_takeBack_18 rfl dX3_takeBack_45 ?_
      refine wz_iconst C dX3_takeBack_48 ?_
      refine wz_isub C dX3_takeBack_49 ?_
      refine wd_putI C f_X3_takeBack_18 fp_X3_2 rfl dX3_takeBack_50 (fun I7 e => ?_)
      replace h := h I7 e
      refine wz_iconst C dX3_takeBack_53 ?_
      exact wz_zret C (Or.inr rfl) dX3_takeBack_54 ⟨_, rfl, (Or.inr rfl), h⟩
theorem in_X7_readClose_X10 : ∀ w ∈ wsX100, w ∈ wsX7_readClose := by decide +kernel
theorem in_X7_readClose_X7 : ∀ w ∈ wsX70, w ∈ wsX7_readClose := by decide +kernel
theorem f_X7_readClose_29 : FLk wsX7_readClose RX7 29 10 8 := flk 10 8 rfl tyX10_ok nmX10 in_X7_readClose_X10 (by decide) (by decide +kernel)
theorem f_X7_readClose_9 : FLk wsX7_readClose RX7 9 7 0 := flk 7 0 rfl tyX7_ok nmX7 in_X7_readClose_X7 (by decide) (by decide +kernel)
def rm_X7_readClose : Room := { frames := 4, cells := 0, slots := 0, locals := 84 }
set_option maxHeartbeats 4000000 in
set_option maxRecDepth 100000 in
theorem k_X7_readClose (G : KG) (hG : Kok G) (I : Ii) (J : Jj) (Q : Int → Ii → Jj → Prop) (h : wp_X7_readClose I J Q) : Ctr G yX7_readClose wsX7_readClose rm_X7_readClose [.ref (kadr G 104), .ref (kadr G 101), .ref (kadr G 106)] (I, J) (QsB Q) := by
  unfold wp_X7_readClose at h
  skip
  refine Ctr.ofZ (cc := cX7_readClose) (nL := 3) (ret := (some .boolean)) [some (.ref (kadr G 104)), some (.ref (kadr G 101)), some (.ref (kadr G 106))] hG (by decide +kernel) rfl (Nat.le_of_ble_eq_true rfl) (Nat.le_of_ble_eq_true rfl) (by simp [lvA, lv_args, Value.category]) ?_
  intro X hX C
  refine wz_aload_n C rfl rfl dX7_readClose_0 ?_
  refine wz_getI C rfl f_X7_readClose_29 rfl dX7_readClose_1 ?_
  obtain ⟨g1, h⟩ := h
  refine wz_if_ne C (tgt := 13) g1 dX7_readClose_4 (by decide) (fun c => ?_) (fun c => ?_)
  · replace h := h.1 c
    refine wz_aload_n C rfl rfl dX7_readClose_13 ?_
    refine wz_dup C rfl dX7_readClose_14 ?_
    refine wz_getI C rfl f_X7_readClose_29 rfl dX7_readClose_15 ?_
    refine wz_iconst C dX7_readClose_18 ?_
    refine wz_isub C dX7_readClose_19 ?_
    refine wd_putI C f_X7_readClose_29 fp_X10_8 rfl dX7_readClose_20 (fun I2 e => ?_)
    replace h := h I2 e
    refine wz_aload_n C rfl rfl dX7_readClose_23 ?_
    refine wz_aload_n C rfl rfl dX7_readClose_24 ?_
    refine wz_getR C (j := 105) f_X7_readClose_9 rfl dX7_readClose_25 ?_
    refine wz_aload_n C rfl rfl dX7_readClose_28 ?_
    refine wz_getI C rfl f_X7_readClose_29 rfl dX7_readClose_29 ?_
    refine wm_callSN C (As := [.ref (kadr G 105), .int (iZ (I2 101 8))]) (st := [.ref (kadr G 106)]) (a' := 0) (b' := 0) (host := "ShareGraph") (k_X11_at G hG 105 (I2 101 8) I2 J _ h) 2 gX7_readClose_X11_at_n44 (by decide +kernel) (by decide +kernel) (by decide +kernel) rfl (by decide +kernel) (by rw [hX]; exact ⟨Nat.le_of_ble_eq_true rfl, Nat.le_of_ble_eq_true rfl⟩) rfl (Nat.le_of_ble_eq_true rfl) rfl rfl rfl dX7_readClose_32 (kk_sI (fun v3 I3 J3 h => ?_))
    refine wm_callV C (o := 106) (As := [.int (iZ v3)]) (st := []) (a' := 0) (b' := 0) rfl rfl (k_X6_addClose G hG v3 I3 J3 _ h) 1 gX7_readClose_X6_addClose rfl (by decide +kernel) (by rw [hX]; exact ⟨Nat.le_of_ble_eq_true rfl, Nat.le_of_ble_eq_true rfl⟩) rfl (Nat.le_of_ble_eq_true rfl) rfl rfl rfl dX7_readClose_35 (kk_sV (fun I4 J4 h => ?_))
    refine wz_aload_n C rfl rfl dX7_readClose_38 ?_
    refine wz_iconst C dX7_readClose_39 ?_
    refine wm_callV C (o := 101) (As := [.int (iZ 3)]) (st := []) (a' := 0) (b' := 0) rfl rfl (k_X10_takes G hG 3 I4 J4 _ h) 1 gX7_readClose_X10_takes rfl (by decide +kernel) (by rw [hX]; exact ⟨Nat.le_of_ble_eq_true rfl, Nat.le_of_ble_eq_true rfl⟩) rfl (Nat.le_of_ble_eq_true rfl) rfl rfl rfl dX7_readClose_40 (kk_sB (fun v5 I5 J5 hb5 h => ?_))
    exact wz_zret C h.1 dX7_readClose_43 ⟨_, rfl, h.1, h.2⟩
  · replace h := h.2 c
    refine wz_aload_n C rfl rfl dX7_readClose_7 ?_
    refine wz_iconst C dX7_readClose_8 ?_
    refine wm_callV C (o := 101) (As := [.int (iZ 1)]) (st := []) (a' := 0) (b' := 0) rfl rfl (k_X10_fail G hG 1 I J _ h) 1 gX7_readClose_X10_fail rfl (by decide +kernel) (by rw [hX]; exact ⟨Nat.le_of_ble_eq_true rfl, Nat.le_of_ble_eq_true rfl⟩) rfl (Nat.le_of_ble_eq_true rfl) rfl rfl rfl dX7_readClose_9 (kk_sB (fun v6 I6 J6 hb6 h => ?_))
    exact wz_zret C h.1 dX7_readClose_12 ⟨_, rfl, h.1, h.2⟩
