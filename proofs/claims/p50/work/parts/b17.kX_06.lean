theorem in_X11_isCut_X11 : ∀ w ∈ wsX110, w ∈ wsX11_isCut := by decide +kernel
theorem in_X11_isCut_X2 : ∀ w ∈ wsX20, w ∈ wsX11_isCut := by decide +kernel
theorem in_X11_isCut_X8 : ∀ w ∈ wsX80, w ∈ wsX11_isCut := by decide +kernel
theorem f_X11_isCut_53 : FLk wsX11_isCut RX11 53 14 7 := flk 14 7 rfl tyX11_ok nmX11 in_X11_isCut_X11 (by decide) (by decide +kernel)
theorem f_X11_isCut_315 : FLk wsX11_isCut RX11 315 11 3 := flk 11 3 rfl tyX8_ok nmX8 in_X11_isCut_X8 (by decide) (by decide +kernel)
theorem f_X11_isCut_40 : FLk wsX11_isCut RX11 40 14 4 := flk 14 4 rfl tyX11_ok nmX11 in_X11_isCut_X11 (by decide) (by decide +kernel)
theorem f_X11_isCut_305 : FLk wsX11_isCut RX11 305 5 9 := flk 5 9 rfl tyX2_ok nmX2 in_X11_isCut_X2 (by decide) (by decide +kernel)
theorem f_X11_isCut_306 : FLk wsX11_isCut RX11 306 5 10 := flk 5 10 rfl tyX2_ok nmX2 in_X11_isCut_X2 (by decide) (by decide +kernel)
def rm_X11_isCut : Room := { frames := 1, cells := 0, slots := 0, locals := 21 }
set_option maxHeartbeats 4000000 in
set_option maxRecDepth 100000 in
theorem k_X11_isCut (G : KG) (hG : KokC G) (l1 : Int) (I : Ii) (J : Jj) (Q : Int → Ii → Jj → Prop) (h : wp_X11_isCut l1 I J Q) : Ctr G yX11_isCut wsX11_isCut rm_X11_isCut [.ref (kadr G 100), .int (iZ l1)] (I, J) (QsB Q) := by
  unfold wp_X11_isCut at h
  skip
  refine Ctr.ofZ (cc := cX11_isCut) (nL := 2) (ret := (some .boolean)) [some (.ref (kadr G 100)), some (.int (iZ l1))] hG.1 (by decide +kernel) rfl (Nat.le_of_ble_eq_true rfl) (Nat.le_of_ble_eq_true rfl) (by simp [lvA, lv_args, Value.category]) ?_
  intro X hX C
  have hz := hG.2
  refine wz_aload_n C rfl rfl dX11_isCut_0 ?_
  refine wz_getR C (j := 300) f_X11_isCut_53 (sOc hz rfl) (by decide) dX11_isCut_1 ?_
  refine wz_getR C (j := 301) f_X11_isCut_315 (sOc hz rfl) (by decide) dX11_isCut_4 ?_
  refine wz_aload_n C rfl rfl dX11_isCut_7 ?_
  refine wz_getR C (j := 200) f_X11_isCut_40 (sOc hz rfl) (by decide) dX11_isCut_8 ?_
  refine wz_getR C (j := 203) f_X11_isCut_305 (sOc hz rfl) (by decide) dX11_isCut_11 ?_
  refine wz_iload_n C rfl rfl dX11_isCut_14 ?_
  refine wm_callS C (As := [.ref (kadr G 203), .int (iZ l1)]) (st := [.ref (kadr G 301)]) (a' := 0) (b' := 0) (k_X11_at G hG 203 l1 I J _ h) 2 gX11_isCut_X11_at rfl (by decide +kernel) (by rw [hX]; exact ⟨Nat.le_of_ble_eq_true rfl, Nat.le_of_ble_eq_true rfl⟩) rfl (Nat.le_of_ble_eq_true rfl) rfl rfl rfl dX11_isCut_15 (kk_sI (fun v1 I1 J1 h => ?_))
  refine wm_callS C (As := [.ref (kadr G 301), .int (iZ v1)]) (st := []) (a' := 0) (b' := 0) (k_X11_at G hG 301 v1 I1 J1 _ h) 2 gX11_isCut_X11_at rfl (by decide +kernel) (by rw [hX]; exact ⟨Nat.le_of_ble_eq_true rfl, Nat.le_of_ble_eq_true rfl⟩) rfl (Nat.le_of_ble_eq_true rfl) rfl rfl rfl dX11_isCut_18 (kk_sI (fun v2 I2 J2 h => ?_))
  refine wz_aload_n C rfl rfl dX11_isCut_21 ?_
  refine wz_getR C (j := 300) f_X11_isCut_53 (sOc hz rfl) (by decide) dX11_isCut_22 ?_
  refine wz_getR C (j := 301) f_X11_isCut_315 (sOc hz rfl) (by decide) dX11_isCut_25 ?_
  refine wz_aload_n C rfl rfl dX11_isCut_28 ?_
  refine wz_getR C (j := 200) f_X11_isCut_40 (sOc hz rfl) (by decide) dX11_isCut_29 ?_
  refine wz_getR C (j := 204) f_X11_isCut_306 (sOc hz rfl) (by decide) dX11_isCut_32 ?_
  refine wz_iload_n C rfl rfl dX11_isCut_35 ?_
  refine wm_callS C (As := [.ref (kadr G 204), .int (iZ l1)]) (st := [.ref (kadr G 301), .int (iZ v2)]) (a' := 0) (b' := 0) (k_X11_at G hG 204 l1 I2 J2 _ h) 2 gX11_isCut_X11_at rfl (by decide +kernel) (by rw [hX]; exact ⟨Nat.le_of_ble_eq_true rfl, Nat.le_of_ble_eq_true rfl⟩) rfl (Nat.le_of_ble_eq_true rfl) rfl rfl rfl dX11_isCut_36 (kk_sI (fun v3 I3 J3 h => ?_))
  refine wm_callS C (As := [.ref (kadr G 301), .int (iZ v3)]) (st := [.int (iZ v2)]) (a' := 0) (b' := 0) (k_X11_at G hG 301 v3 I3 J3 _ h) 2 gX11_isCut_X11_at rfl (by decide +kernel) (by rw [hX]; exact ⟨Nat.le_of_ble_eq_true rfl, Nat.le_of_ble_eq_true rfl⟩) rfl (Nat.le_of_ble_eq_true rfl) rfl rfl rfl dX11_isCut_39 (kk_sI (fun v4 I4 J4 h => ?_))
  obtain ⟨g5, h⟩ := h
  obtain ⟨g6, h⟩ := h
  refine wz_icmp_eq C (tgt := 49) g5 g6 dX11_isCut_42 (by decide) (fun c => ?_) (fun c => ?_)
  · replace h := h.1 c
    refine wz_iconst C dX11_isCut_49 ?_
    exact wz_zret C (Or.inl rfl) dX11_isCut_50 ⟨_, rfl, (Or.inl rfl), h⟩
  · replace h := h.2 c
    refine wz_iconst C dX11_isCut_45 ?_
    refine wz_goto C dX11_isCut_46 (tgt := 50) (by decide) ?_
    exact wz_zret C (Or.inr rfl) dX11_isCut_50 ⟨_, rfl, (Or.inr rfl), h⟩
theorem in_X11_partOf_X11 : ∀ w ∈ wsX110, w ∈ wsX11_partOf := by decide +kernel
theorem in_X11_partOf_X8 : ∀ w ∈ wsX80, w ∈ wsX11_partOf := by decide +kernel
theorem f_X11_partOf_53 : FLk wsX11_partOf RX11 53 14 7 := flk 14 7 rfl tyX11_ok nmX11 in_X11_partOf_X11 (by decide) (by decide +kernel)
theorem f_X11_partOf_315 : FLk wsX11_partOf RX11 315 11 3 := flk 11 3 rfl tyX8_ok nmX8 in_X11_partOf_X8 (by decide) (by decide +kernel)
def rm_X11_partOf : Room := { frames := 2, cells := 0, slots := 0, locals := 42 }
set_option maxHeartbeats 4000000 in
set_option maxRecDepth 100000 in
theorem k_X11_partOf (G : KG) (hG : KokC G) (l1 : Int) (I : Ii) (J : Jj) (Q : Int → Ii → Jj → Prop) (h : wp_X11_partOf l1 I J Q) : Ctr G yX11_partOf wsX11_partOf rm_X11_partOf [.ref (kadr G 100), .int (iZ l1)] (I, J) (QsI Q) := by
  unfold wp_X11_partOf at h
  skip
  refine Ctr.ofZ (cc := cX11_partOf) (nL := 2) (ret := (some .int)) [some (.ref (kadr G 100)), some (.int (iZ l1))] hG.1 (by decide +kernel) rfl (Nat.le_of_ble_eq_true rfl) (Nat.le_of_ble_eq_true rfl) (by simp [lvA, lv_args, Value.category]) ?_
  intro X hX C
  have hz := hG.2
  refine wz_aload_n C rfl rfl dX11_partOf_0 ?_
  refine wz_iload_n C rfl rfl dX11_partOf_1 ?_
  refine wm_callV C (o := 100) (As := [.int (iZ l1)]) (st := []) (a' := 0) (b' := 0) (shK_c hz rfl) rfl (k_X11_requireVertex G hG l1 I J _ h) 1 gX11_partOf_X11_requireVertex rfl (by decide +kernel) (by rw [hX]; exact ⟨Nat.le_of_ble_eq_true rfl, Nat.le_of_ble_eq_true rfl⟩) rfl (Nat.le_of_ble_eq_true rfl) rfl rfl rfl dX11_partOf_2 (kk_sV (fun I1 J1 h => ?_))
  refine wz_aload_n C rfl rfl dX11_partOf_5 ?_
  refine wz_getR C (j := 300) f_X11_partOf_53 (sOc hz rfl) (by decide) dX11_partOf_6 ?_
  refine wz_getR C (j := 301) f_X11_partOf_315 (sOc hz rfl) (by decide) dX11_partOf_9 ?_
  refine wz_iload_n C rfl rfl dX11_partOf_12 ?_
  refine wm_callS C (As := [.ref (kadr G 301), .int (iZ l1)]) (st := []) (a' := 0) (b' := 0) (k_X11_at G hG 301 l1 I1 J1 _ h) 2 gX11_partOf_X11_at rfl (by decide +kernel) (by rw [hX]; exact ⟨Nat.le_of_ble_eq_true rfl, Nat.le_of_ble_eq_true rfl⟩) rfl (Nat.le_of_ble_eq_true rfl) rfl rfl rfl dX11_partOf_13 (kk_sI (fun v2 I2 J2 h => ?_))
  exact wz_iret C dX11_partOf_16 ⟨_, rfl, h⟩
theorem in_X11_cutAround_X11 : ∀ w ∈ wsX110, w ∈ wsX11_cutAround := by decide +kernel
theorem in_X11_cutAround_X2 : ∀ w ∈ wsX20, w ∈ wsX11_cutAround := by decide +kernel
theorem in_X11_cutAround_X4 : ∀ w ∈ wsX40, w ∈ wsX11_cutAround := by decide +kernel
theorem f_X11_cutAround_73 : FLk wsX11_cutAround RX11 73 14 12 := flk 14 12 rfl tyX11_ok nmX11 in_X11_cutAround_X11 (by decide) (by decide +kernel)
theorem f_X11_cutAround_343 : FLk wsX11_cutAround RX11 343 7 9 := flk 7 9 rfl tyX4_ok nmX4 in_X11_cutAround_X4 (by decide) (by decide +kernel)
theorem f_X11_cutAround_40 : FLk wsX11_cutAround RX11 40 14 4 := flk 14 4 rfl tyX11_ok nmX11 in_X11_cutAround_X11 (by decide) (by decide +kernel)
theorem f_X11_cutAround_259 : FLk wsX11_cutAround RX11 259 5 1 := flk 5 1 rfl tyX2_ok nmX2 in_X11_cutAround_X2 (by decide) (by decide +kernel)
theorem f_X11_cutAround_307 : FLk wsX11_cutAround RX11 307 5 11 := flk 5 11 rfl tyX2_ok nmX2 in_X11_cutAround_X2 (by decide) (by decide +kernel)
def rm_X11_cutAround : Room := { frames := 2, cells := 0, slots := 0, locals := 42 }
set_option maxHeartbeats 4000000 in
set_option maxRecDepth 100000 in
theorem lk_X11_cutAround_17 (G : KG) (hG : KokC G) (X : KX) (hX : KR X = rm_X11_cutAround) (C : Fr G X cX11_cutAround 5 yX11_cutAround.cls (some .int) wsX11_cutAround) (l1 : Int) (Q : Int → Ii → Jj → Prop) : ∀ (n : Nat) (l2 : Int) (l3 : Int) (l4 : Int) (I : Ii) (J : Jj), L_X11_cutAround_17 l1 Q n l2 l3 l4 I J → Wz G X 5 (QsU G X (QsI Q)) 0 0 17 [some (.ref (kadr G 100)), none, some (.int (iZ l2)), some (.int (iZ l3)), some (.int (iZ l4))] [] I J := by
  have hz := hG.2
  intro n
  induction n with
  | zero => intro l2 l3 l4 I J h; exact False.elim h
  | succ n w17 =>
    intro l2 l3 l4 I J h
    have h : Lb_X11_cutAround_17 l1 Q (L_X11_cutAround_17 l1 Q n) l2 l3 l4 I J := h
    unfold Lb_X11_cutAround_17 at h
    generalize L_X11_cutAround_17 l1 Q n = r17 at h w17
    refine wz_iload C rfl dX11_cutAround_17 ?_
    refine wz_aload_n C rfl rfl dX11_cutAround_19 ?_
    refine wz_getR C (j := 200) f_X11_cutAround_40 (sOc hz rfl) (by decide) dX11_cutAround_20 ?_
    refine wz_getI C rfl f_X11_cutAround_259 (sOc hz rfl) dX11_cutAround_23 ?_
    obtain ⟨g2, h⟩ := h
    obtain ⟨g3, h⟩ := h
    refine wz_icmp_ge C (tgt := 73) g2 g3 dX11_cutAround_26 (by decide) (fun c => ?_) (fun c => ?_)
    · replace h := h.1 c
      refine wz_iload_n C rfl rfl dX11_cutAround_73 ?_
      exact wz_iret C dX11_cutAround_74 ⟨_, rfl, h⟩
    · replace h := h.2 c
      refine wz_aload_n C rfl rfl dX11_cutAround_29 ?_
      refine wz_iload C rfl dX11_cutAround_30 ?_
      refine wm_callV C (o := 100) (As := [.int (iZ l4)]) (st := []) (a' := 0) (b' := 0) (shK_c hz rfl) rfl (k_X11_isCut G hG l4 I J _ h) 1 gX11_cutAround_X11_isCut rfl (by decide +kernel) (by rw [hX]; exact ⟨Nat.le_of_ble_eq_true rfl, Nat.le_of_ble_eq_true rfl⟩) rfl (Nat.le_of_ble_eq_true rfl) rfl rfl rfl dX11_cutAround_32 (kk_sB (fun v4 I4 J4 hb4 h => ?_))
      refine wz_if_eq C (tgt := 67) (rgB hb4) dX11_cutAround_35 (by decide) (fun c => ?_) (fun c => ?_)
      · replace h := h.1 c
        refine wz_iinc_4 C rfl dX11_cutAround_67 ?_
        refine wz_goto C dX11_cutAround_70 (tgt := 17) (by decide) ?_
        exact w17 l2 l3 (l4 + 1) I4 J4 h
      · replace h := h.2 c
        refine wz_aload_n C rfl rfl dX11_cutAround_38 ?_
        refine wz_getR C (j := 200) f_X11_cutAround_40 (sOc hz rfl) (by decide) dX11_cutAround_39 ?_
        refine wz_iload C rfl dX11_cutAround_42 ?_
        refine wm_callV C (o := 200) (As := [.int (iZ l4)]) (st := []) (a' := 0) (b' := 0) (shK_c hz rfl) rfl (k_X2_endsOf G hG 200 l4 I4 J4 _ h) 1 gX11_cutAround_X2_endsOf rfl (by decide +kernel) (by rw [hX]; exact ⟨Nat.le_of_ble_eq_true rfl, Nat.le_of_ble_eq_true rfl⟩) rfl (Nat.le_of_ble_eq_true rfl) rfl rfl rfl dX11_cutAround_44 (kk_sI (fun v5 I5 J5 h => ?_))
        refine wz_iload_n C rfl rfl dX11_cutAround_47 ?_
        refine wd_iand C dX11_cutAround_48 ?_
        refine wz_if_eq C (tgt := 67) (toInt_rg _) dX11_cutAround_49 (by decide) (fun c => ?_) (fun c => ?_)
        · replace h := h.1 c
          refine wz_iinc_4 C rfl dX11_cutAround_67 ?_
          refine wz_goto C dX11_cutAround_70 (tgt := 17) (by decide) ?_
          exact w17 l2 l3 (l4 + 1) I5 J5 h
        · replace h := h.2 c
          refine wz_iload_n C rfl rfl dX11_cutAround_52 ?_
          refine wz_aload_n C rfl rfl dX11_cutAround_53 ?_
          refine wz_getR C (j := 200) f_X11_cutAround_40 (sOc hz rfl) (by decide) dX11_cutAround_54 ?_
          refine wz_getR C (j := 205) f_X11_cutAround_307 (sOc hz rfl) (by decide) dX11_cutAround_57 ?_
          refine wz_iload C rfl dX11_cutAround_60 ?_
          refine wm_callS C (As := [.ref (kadr G 205), .int (iZ l4)]) (st := [.int (iZ l3)]) (a' := 0) (b' := 0) (k_X11_at G hG 205 l4 I5 J5 _ h) 2 gX11_cutAround_X11_at rfl (by decide +kernel) (by rw [hX]; exact ⟨Nat.le_of_ble_eq_true rfl, Nat.le_of_ble_eq_true rfl⟩) rfl (Nat.le_of_ble_eq_true rfl) rfl rfl rfl dX11_cutAround_62 (kk_sI (fun v6 I6 J6 h => ?_))
          refine wz_iadd C dX11_cutAround_65 ?_
          refine wz_istore_3 C rfl dX11_cutAround_66 ?_
          refine wz_iinc_4 C rfl dX11_cutAround_67 ?_
          refine wz_goto C dX11_cutAround_70 (tgt := 17) (by decide) ?_
          exact w17 l2 (l3 + v6) (l4 + 1) I6 J6 h
set_option maxHeartbeats 4000000 in
set_option maxRecDepth 100000 in
theorem k_X11_cutAround (G : KG) (hG : KokC G) (l1 : Int) (I : Ii) (J : Jj) (Q : Int → Ii → Jj → Prop) (h : wp_X11_cutAround l1 I J Q) : Ctr G yX11_cutAround wsX11_cutAround rm_X11_cutAround [.ref (kadr G 100), .int (iZ l1)] (I, J) (QsI Q) := by
  unfold wp_X11_cutAround at h
  skip
  refine Ctr.ofZ (cc := cX11_cutAround) (nL := 5) (ret := (some .int)) [some (.ref (kadr G 100)), some (.int (iZ l1)), none, none, none] hG.1 (by decide +kernel) rfl (Nat.le_of_ble_eq_true rfl) (Nat.le_of_ble_eq_true rfl) (by simp [lvA, lv_args, Value.category]) ?_
  intro X hX C
  have hz := hG.2
  refine wz_aload_n C rfl rfl dX11_cutAround_0 ?_
  refine wz_getR C (j := 113) f_X11_cutAround_73 (sOc hz rfl) (by decide) dX11_cutAround_1 ?_
  refine wz_getR C (j := 117) f_X11_cutAround_343 (sOc hz rfl) (by decide) dX11_cutAround_4 ?_
  refine wz_iload_n C rfl rfl dX11_cutAround_7 ?_
  refine wm_callS C (As := [.ref (kadr G 117), .int (iZ l1)]) (st := []) (a' := 0) (b' := 0) (k_X11_at G hG 117 l1 I J _ h) 2 gX11_cutAround_X11_at rfl (by decide +kernel) (by rw [hX]; exact ⟨Nat.le_of_ble_eq_true rfl, Nat.le_of_ble_eq_true rfl⟩) rfl (Nat.le_of_ble_eq_true rfl) rfl rfl rfl dX11_cutAround_8 (kk_sI (fun v1 I1 J1 h => ?_))
  refine wz_istore_2 C rfl dX11_cutAround_11 ?_
  refine wz_iconst C dX11_cutAround_12 ?_
  refine wz_istore_3 C rfl dX11_cutAround_13 ?_
  refine wz_iconst C dX11_cutAround_14 ?_
  refine wz_istore_4 C rfl dX11_cutAround_15 ?_
  obtain ⟨n, h⟩ := h
  exact Wz.drop (lk_X11_cutAround_17 G hG X hX C l1 Q n v1 0 0 I1 J1 h) (And.intro rfl (And.intro rfl (And.intro rfl (And.intro rfl trivial))))
theorem in_X11_groupOf_X11 : ∀ w ∈ wsX110, w ∈ wsX11_groupOf := by decide +kernel
theorem in_X11_groupOf_X8 : ∀ w ∈ wsX80, w ∈ wsX11_groupOf := by decide +kernel
theorem f_X11_groupOf_53 : FLk wsX11_groupOf RX11 53 14 7 := flk 14 7 rfl tyX11_ok nmX11 in_X11_groupOf_X11 (by decide) (by decide +kernel)
theorem f_X11_groupOf_386 : FLk wsX11_groupOf RX11 386 11 5 := flk 11 5 rfl tyX8_ok nmX8 in_X11_groupOf_X8 (by decide) (by decide +kernel)
def rm_X11_groupOf : Room := { frames := 2, cells := 0, slots := 0, locals := 42 }
set_option maxHeartbeats 4000000 in
set_option maxRecDepth 100000 in
theorem k_X11_groupOf (G : KG) (hG : KokC G) (l1 : Int) (I : Ii) (J : Jj) (Q : Int → Ii → Jj → Prop) (h : wp_X11_groupOf l1 I J Q) : Ctr G yX11_groupOf wsX11_groupOf rm_X11_groupOf [.ref (kadr G 100), .int (iZ l1)] (I, J) (QsI Q) := by
  unfold wp_X11_groupOf at h
  skip
  refine Ctr.ofZ (cc := cX11_groupOf) (nL := 2) (ret := (some .int)) [some (.ref (kadr G 100)), some (.int (iZ l1))] hG.1 (by decide +kernel) rfl (Nat.le_of_ble_eq_true rfl) (Nat.le_of_ble_eq_true rfl) (by simp [lvA, lv_args, Value.category]) ?_
  intro X hX C
  have hz := hG.2
  refine wz_aload_n C rfl rfl dX11_groupOf_0 ?_
  refine wz_iload_n C rfl rfl dX11_groupOf_1 ?_
  refine wm_callV C (o := 100) (As := [.int (iZ l1)]) (st := []) (a' := 0) (b' := 0) (shK_c hz rfl) rfl (k_X11_requireVertex G hG l1 I J _ h) 1 gX11_groupOf_X11_requireVertex rfl (by decide +kernel) (by rw [hX]; exact ⟨Nat.le_of_ble_eq_true rfl, Nat.le_of_ble_eq_true rfl⟩) rfl (Nat.le_of_ble_eq_true rfl) rfl rfl rfl dX11_groupOf_2 (kk_sV (fun I1 J1 h => ?_))
  refine wz_aload_n C rfl rfl dX11_groupOf_5 ?_
  refine wz_getR C (j := 300) f_X11_groupOf_53 (sOc hz rfl) (by decide) dX11_groupOf_6 ?_
  refine wz_getR C (j := 303) f_X11_groupOf_386 (sOc hz rfl) (by decide) dX11_groupOf_9 ?_
  refine wz_aload_n C rfl rfl dX11_groupOf_12 ?_
  refine wz_getR C (j := 300) f_X11_groupOf_53 (sOc hz rfl) (by decide) dX11_groupOf_13 ?_
  refine wm_callV C (o := 300) (As := []) (st := [.ref (kadr G 303)]) (a' := 0) (b' := 0) (shK_c hz rfl) rfl (k_X8_groupRow G hG 300 I1 J1 _ h) 0 gX11_groupOf_X8_groupRow rfl (by decide +kernel) (by rw [hX]; exact ⟨Nat.le_of_ble_eq_true rfl, Nat.le_of_ble_eq_true rfl⟩) rfl (Nat.le_of_ble_eq_true rfl) rfl rfl rfl dX11_groupOf_16 (kk_sI (fun v2 I2 J2 h => ?_))
  refine wz_iload_n C rfl rfl dX11_groupOf_19 ?_
  refine wz_iadd C dX11_groupOf_20 ?_
  refine wm_callS C (As := [.ref (kadr G 303), .int (iZ (v2 + l1))]) (st := []) (a' := 0) (b' := 0) (k_X11_at G hG 303 (v2 + l1) I2 J2 _ h) 2 gX11_groupOf_X11_at rfl (by decide +kernel) (by rw [hX]; exact ⟨Nat.le_of_ble_eq_true rfl, Nat.le_of_ble_eq_true rfl⟩) rfl (Nat.le_of_ble_eq_true rfl) rfl rfl rfl dX11_groupOf_21 (kk_sI (fun v3 I3 J3 h => ?_))
  exact wz_iret C dX11_groupOf_24 ⟨_, rfl, h⟩
theorem in_X11_hasFewGroups_X11 : ∀ w ∈ wsX110, w ∈ wsX11_hasFewGroups := by decide +kernel
theorem f_X11_hasFewGroups_53 : FLk wsX11_hasFewGroups RX11 53 14 7 := flk 14 7 rfl tyX11_ok nmX11 in_X11_hasFewGroups_X11 (by decide) (by decide +kernel)
def rm_X11_hasFewGroups : Room := { frames := 2, cells := 0, slots := 0, locals := 41 }
set_option maxHeartbeats 4000000 in
set_option maxRecDepth 100000 in
theorem k_X11_hasFewGroups (G : KG) (hG : KokC G) (I : Ii) (J : Jj) (Q : Int → Ii → Jj → Prop) (h : wp_X11_hasFewGroups I J Q) : Ctr G yX11_hasFewGroups wsX11_hasFewGroups rm_X11_hasFewGroups [.ref (kadr G 100)] (I, J) (QsB Q) := by
  unfold wp_X11_hasFewGroups at h
  skip
  refine Ctr.ofZ (cc := cX11_hasFewGroups) (nL := 1) (ret := (some .boolean)) [some (.ref (kadr G 100))] hG.1 (by decide +kernel) rfl (Nat.le_of_ble_eq_true rfl) (Nat.le_of_ble_eq_true rfl) (by simp [lvA, lv_args, Value.category]) ?_
  intro X hX C
  have hz := hG.2
  refine wz_aload_n C rfl rfl dX11_hasFewGroups_0 ?_
  refine wz_getR C (j := 300) f_X11_hasFewGroups_53 (sOc hz rfl) (by decide) dX11_hasFewGroups_1 ?_
  refine wm_callV C (o := 300) (As := []) (st := []) (a' := 0) (b' := 0) (shK_c hz rfl) rfl (k_X8_groupCount G hG 300 I J _ h) 0 gX11_hasFewGroups_X8_groupCount rfl (by decide +kernel) (by rw [hX]; exact ⟨Nat.le_of_ble_eq_true rfl, Nat.le_of_ble_eq_true rfl⟩) rfl (Nat.le_of_ble_eq_true rfl) rfl rfl rfl dX11_hasFewGroups_4 (kk_sI (fun v1 I1 J1 h => ?_))
  refine wz_bipush C (by decide) dX11_hasFewGroups_7 ?_
  obtain ⟨g2, h⟩ := h
  refine wz_icmp_gt C (tgt := 16) g2 (by decide) dX11_hasFewGroups_9 (by decide) (fun c => ?_) (fun c => ?_)
  · replace h := h.1 c
    refine wz_iconst C dX11_hasFewGroups_16 ?_
    exact wz_zret C (Or.inl rfl) dX11_hasFewGroups_17 ⟨_, rfl, (Or.inl rfl), h⟩
  · replace h := h.2 c
    refine wz_iconst C dX11_hasFewGroups_12 ?_
    refine wz_goto C dX11_hasFewGroups_13 (tgt := 17) (by decide) ?_
    exact wz_zret C (Or.inr rfl) dX11_hasFewGroups_17 ⟨_, rfl, (Or.inr rfl), h⟩
theorem in_X11_event_X11 : ∀ w ∈ wsX110, w ∈ wsX11_event := by decide +kernel
theorem in_X11_event_X8 : ∀ w ∈ wsX80, w ∈ wsX11_event := by decide +kernel
theorem f_X11_event_53 : FLk wsX11_event RX11 53 14 7 := flk 14 7 rfl tyX11_ok nmX11 in_X11_event_X11 (by decide) (by decide +kernel)
theorem f_X11_event_441 : FLk wsX11_event RX11 441 11 2 := flk 11 2 rfl tyX8_ok nmX8 in_X11_event_X8 (by decide) (by decide +kernel)
theorem f_X11_event_448 : FLk wsX11_event RX11 448 11 6 := flk 11 6 rfl tyX8_ok nmX8 in_X11_event_X8 (by decide) (by decide +kernel)
def rm_X11_event : Room := { frames := 1, cells := 0, slots := 0, locals := 21 }
set_option maxHeartbeats 4000000 in
set_option maxRecDepth 100000 in
theorem bk_X11_event_15 (G : KG) (hG : KokC G) (X : KX) (hX : KR X = rm_X11_event) (C : Fr G X cX11_event 3 yX11_event.cls (some .int) wsX11_event) (l1 : Int) (l2 : Int) (Q : Int → Ii → Jj → Prop)  (I : Ii) (J : Jj) (h : B_X11_event_15 l1 l2 Q  I J)   : Wz G X 3 (QsU G X (QsI Q)) 0 0 15 [none, none, none] [] I J := by
  have hz := hG.2
  unfold B_X11_event_15 at h
  exact False.elim h
set_option maxHeartbeats 4000000 in
set_option maxRecDepth 100000 in
theorem bk_X11_event_35 (G : KG) (hG : KokC G) (X : KX) (hX : KR X = rm_X11_event) (C : Fr G X cX11_event 3 yX11_event.cls (some .int) wsX11_event) (l1 : Int) (l2 : Int) (Q : Int → Ii → Jj → Prop)  (I : Ii) (J : Jj) (h : B_X11_event_35 l1 l2 Q  I J)   : Wz G X 3 (QsU G X (QsI Q)) 0 0 35 [none, none, none] [] I J := by
  have hz := hG.2
  unfold B_X11_event_35 at h
  exact False.elim h
set_option maxHeartbeats 4000000 in
set_option maxRecDepth 100000 in
theorem k_X11_event (G : KG) (hG : KokC G) (l1 : Int) (l2 : Int) (I : Ii) (J : Jj) (Q : Int → Ii → Jj → Prop) (h : wp_X11_event l1 l2 I J Q) : Ctr G yX11_event wsX11_event rm_X11_event [.ref (kadr G 100), .int (iZ l1), .int (iZ l2)] (I, J) (QsI Q) := by
  unfold wp_X11_event at h
  skip
  refine Ctr.ofZ (cc := cX11_event) (nL := 3) (ret := (some .int)) [some (.ref (kadr G 100)), some (.int (iZ l1)), some (.int (iZ l2))] hG.1 (by decide +kernel) rfl (Nat.le_of_ble_eq_true rfl) (Nat.le_of_ble_eq_true rfl) (by simp [lvA, lv_args, Value.category]) ?_
  intro X hX C
  have hz := hG.2
  refine wz_iload_n C rfl rfl dX11_event_0 ?_
  obtain ⟨g1, h⟩ := h
  refine wz_if_lt C (tgt := 15) g1 dX11_event_1 (by decide) (fun c => ?_) (fun c => ?_)
  · replace h := h.1 c
    exact Wz.drop (bk_X11_event_15 G hG X hX C l1 l2 Q I J h) trivial
  · replace h := h.2 c
    refine wz_iload_n C rfl rfl dX11_event_4 ?_
    refine wz_aload_n C rfl rfl dX11_event_5 ?_
    refine wz_getR C (j := 300) f_X11_event_53 (sOc hz rfl) (by decide) dX11_event_6 ?_
    refine wz_getI C rfl f_X11_event_441 (sOc hz rfl) dX11_event_9 ?_
    obtain ⟨g2, h⟩ := h
    refine wz_icmp_lt C (tgt := 26) g1 g2 dX11_event_12 (by decide) (fun c => ?_) (fun c => ?_)
    · replace h := h.1 c
      refine wz_iload_n C rfl rfl dX11_event_26 ?_
      obtain ⟨g3, h⟩ := h
      refine wz_if_lt C (tgt := 35) g3 dX11_event_27 (by decide) (fun c => ?_) (fun c => ?_)
      · replace h := h.1 c
        exact Wz.drop (bk_X11_event_35 G hG X hX C l1 l2 Q I J h) trivial
      · replace h := h.2 c
        refine wz_iload_n C rfl rfl dX11_event_30 ?_
        refine wz_iconst C dX11_event_31 ?_
        refine wz_icmp_lt C (tgt := 46) g3 (by decide) dX11_event_32 (by decide) (fun c => ?_) (fun c => ?_)
        · replace h := h.1 c
          refine wz_aload_n C rfl rfl dX11_event_46 ?_
          refine wz_getR C (j := 300) f_X11_event_53 (sOc hz rfl) (by decide) dX11_event_47 ?_
          refine wz_getR C (j := 304) f_X11_event_448 (sOc hz rfl) (by decide) dX11_event_50 ?_
          refine wz_iload_n C rfl rfl dX11_event_53 ?_
          refine wz_iconst C dX11_event_54 ?_
          refine wz_imul C dX11_event_55 ?_
          refine wz_iload_n C rfl rfl dX11_event_56 ?_
          refine wz_iadd C dX11_event_57 ?_
          refine wm_callS C (As := [.ref (kadr G 304), .int (iZ ((l1 * 4) + l2))]) (st := []) (a' := 0) (b' := 0) (k_X11_at G hG 304 ((l1 * 4) + l2) I J _ h) 2 gX11_event_X11_at rfl (by decide +kernel) (by rw [hX]; exact ⟨Nat.le_of_ble_eq_true rfl, Nat.le_of_ble_eq_true rfl⟩) rfl (Nat.le_of_ble_eq_true rfl) rfl rfl rfl dX11_event_58 (kk_sI (fun v4 I4 J4 h => ?_))
          exact wz_iret C dX11_event_61 ⟨_, rfl, h⟩
        · replace h := h.2 c
          exact Wz.drop (bk_X11_event_35 G hG X hX C l1 l2 Q I J h) trivial
    · replace h := h.2 c
      exact Wz.drop (bk_X11_event_15 G hG X hX C l1 l2 Q I J h) trivial
theorem in_X11_transfer_X11 : ∀ w ∈ wsX110, w ∈ wsX11_transfer := by decide +kernel
theorem in_X11_transfer_X4 : ∀ w ∈ wsX40, w ∈ wsX11_transfer := by decide +kernel
theorem f_X11_transfer_73 : FLk wsX11_transfer RX11 73 14 12 := flk 14 12 rfl tyX11_ok nmX11 in_X11_transfer_X11 (by decide) (by decide +kernel)
theorem f_X11_transfer_378 : FLk wsX11_transfer RX11 378 7 8 := flk 7 8 rfl tyX4_ok nmX4 in_X11_transfer_X4 (by decide) (by decide +kernel)
theorem f_X11_transfer_357 : FLk wsX11_transfer RX11 357 7 5 := flk 7 5 rfl tyX4_ok nmX4 in_X11_transfer_X4 (by decide) (by decide +kernel)
theorem f_X11_transfer_372 : FLk wsX11_transfer RX11 372 7 6 := flk 7 6 rfl tyX4_ok nmX4 in_X11_transfer_X4 (by decide) (by decide +kernel)
def rm_X11_transfer : Room := { frames := 2, cells := 0, slots := 0, locals := 84 }
set_option maxHeartbeats 4000000 in
set_option maxRecDepth 100000 in
theorem k_X11_transfer (G : KG) (hG : KokC G) (k1 : Nat) (l2 : Int) (l3 : Int) (I : Ii) (J : Jj) (Q : Ii → Jj → Prop) (h : wp_X11_transfer k1 l2 l3 I J Q) : Ctr G yX11_transfer wsX11_transfer rm_X11_transfer [.ref (kadr G 100), .ref (kadr G k1), .int (iZ l2), .int (iZ l3)] (I, J) (QsV Q) := by
  unfold wp_X11_transfer at h
  obtain ⟨hk1, h⟩ := h
  refine Ctr.ofZ (cc := cX11_transfer) (nL := 5) (ret := none) [some (.ref (kadr G 100)), some (.ref (kadr G k1)), some (.int (iZ l2)), some (.int (iZ l3)), none] hG.1 (by decide +kernel) rfl (Nat.le_of_ble_eq_true rfl) (Nat.le_of_ble_eq_true rfl) (by simp [lvA, lv_args, Value.category]) ?_
  intro X hX C
  have hz := hG.2
  refine wz_aload_n C rfl rfl dX11_transfer_0 ?_
  refine wz_getR C (j := 113) f_X11_transfer_73 (sOc hz rfl) (by decide) dX11_transfer_1 ?_
  refine wz_getR C (j := 116) f_X11_transfer_378 (sOc hz rfl) (by decide) dX11_transfer_4 ?_
  refine wz_iload_n C rfl rfl dX11_transfer_7 ?_
  refine wm_callS C (As := [.ref (kadr G 116), .int (iZ l2)]) (st := []) (a' := 0) (b' := 0) (k_X11_at G hG 116 l2 I J _ h) 2 gX11_transfer_X11_at rfl (by decide +kernel) (by rw [hX]; exact ⟨Nat.le_of_ble_eq_true rfl, Nat.le_of_ble_eq_true rfl⟩) rfl (Nat.le_of_ble_eq_true rfl) rfl rfl rfl dX11_transfer_8 (kk_sI (fun v1 I1 J1 h => ?_))
  refine wz_istore_4 C rfl dX11_transfer_11 ?_
  refine wz_aload_n C rfl rfl dX11_transfer_13 ?_
  refine wz_iload_n C rfl rfl dX11_transfer_14 ?_
  refine wz_iload C rfl dX11_transfer_15 ?_
  refine wz_iload_n C rfl rfl dX11_transfer_17 ?_
  refine wz_aload_n C rfl rfl dX11_transfer_18 ?_
  refine wz_getR C (j := 113) f_X11_transfer_73 (sOc hz rfl) (by decide) dX11_transfer_19 ?_
  refine wz_getI C rfl f_X11_transfer_357 (sOc hz rfl) dX11_transfer_22 ?_
  refine wz_aload_n C rfl rfl dX11_transfer_25 ?_
  refine wz_getR C (j := 113) f_X11_transfer_73 (sOc hz rfl) (by decide) dX11_transfer_26 ?_
  refine wz_iload_n C rfl rfl dX11_transfer_29 ?_
  refine wz_iload_n C rfl rfl dX11_transfer_30 ?_
  refine wm_callV C (o := 113) (As := [.int (iZ l2), .int (iZ l3)]) (st := [.int (iZ (I1 113 5)), .int (iZ l3), .int (iZ v1), .int (iZ l2), .ref (kadr G k1)]) (a' := 0) (b' := 0) (shK_c hz rfl) rfl (k_X4_gainOf G hG l2 l3 I1 J1 _ h) 2 gX11_transfer_X4_gainOf rfl (by decide +kernel) (by rw [hX]; exact ⟨Nat.le_of_ble_eq_true rfl, Nat.le_of_ble_eq_true rfl⟩) rfl (Nat.le_of_ble_eq_true rfl) rfl rfl rfl dX11_transfer_31 (kk_sI (fun v2 I2 J2 h => ?_))
  refine wz_isub C dX11_transfer_34 ?_
  refine wm_callV C (o := k1) (As := [.int (iZ l2), .int (iZ v1), .int (iZ l3), .int (iZ ((I1 113 5) - v2))]) (st := []) (a' := 0) (b' := 0) (shK_c hz (spX8 hk1)) rfl (k_X8_note G hG k1 l2 v1 l3 ((I1 113 5) - v2) I2 J2 _ h) 4 gX11_transfer_X8_note rfl (by decide +kernel) (by rw [hX]; exact ⟨Nat.le_of_ble_eq_true rfl, Nat.le_of_ble_eq_true rfl⟩) rfl (Nat.le_of_ble_eq_true rfl) rfl rfl rfl dX11_transfer_35 (kk_sV (fun I3 J3 h => ?_))
  refine wz_aload_n C rfl rfl dX11_transfer_38 ?_
  refine wz_aload_n C rfl rfl dX11_transfer_39 ?_
  refine wz_getR C (j := 113) f_X11_transfer_73 (sOc hz rfl) (by decide) dX11_transfer_40 ?_
  refine wz_getR C (j := 114) f_X11_transfer_372 (sOc hz rfl) (by decide) dX11_transfer_43 ?_
  refine wz_iload_n C rfl rfl dX11_transfer_46 ?_
  refine wm_callS C (As := [.ref (kadr G 114), .int (iZ l2)]) (st := [.ref (kadr G k1)]) (a' := 0) (b' := 0) (k_X11_at G hG 114 l2 I3 J3 _ h) 2 gX11_transfer_X11_at rfl (by decide +kernel) (by rw [hX]; exact ⟨Nat.le_of_ble_eq_true rfl, Nat.le_of_ble_eq_true rfl⟩) rfl (Nat.le_of_ble_eq_true rfl) rfl rfl rfl dX11_transfer_47 (kk_sI (fun v4 I4 J4 h => ?_))
  refine wz_iload_n C rfl rfl dX11_transfer_50 ?_
  refine wm_callV C (o := k1) (As := [.int (iZ v4), .int (iZ l3)]) (st := []) (a' := 0) (b' := 0) (shK_c hz (spX8 hk1)) rfl (k_X8_place G hG k1 v4 l3 I4 J4 _ h) 2 gX11_transfer_X8_place rfl (by decide +kernel) (by rw [hX]; exact ⟨Nat.le_of_ble_eq_true rfl, Nat.le_of_ble_eq_true rfl⟩) rfl (Nat.le_of_ble_eq_true rfl) rfl rfl rfl dX11_transfer_51 (kk_sV (fun I5 J5 h => ?_))
  exact wz_vret C dX11_transfer_54 ⟨rfl, h⟩
def rm_X11_copy : Room := { frames := 1, cells := 0, slots := 0, locals := 60 }
set_option maxHeartbeats 4000000 in
set_option maxRecDepth 100000 in
theorem k_X11_copy (G : KG) (hG : KokC G) (k0 : Nat) (k1 : Nat) (I : Ii) (J : Jj) (Q : Ii → Jj → Prop) (h : wp_X11_copy k0 k1 I J Q) : Ctr G yX11_copy wsX11_copy rm_X11_copy [.ref (kadr G k0), .ref (kadr G k1)] (I, J) (QsV Q) := by
  unfold wp_X11_copy at h
  obtain ⟨hk0, h⟩ := h
  obtain ⟨hk1, h⟩ := h
  refine Ctr.ofZ (cc := cX11_copy) (nL := 2) (ret := none) [some (.ref (kadr G k0)), some (.ref (kadr G k1))] hG.1 (by decide +kernel) rfl (Nat.le_of_ble_eq_true rfl) (Nat.le_of_ble_eq_true rfl) (by simp [lvA, lv_args, Value.category]) ?_
  intro X hX C
  have hz := hG.2
  refine wz_aload_n C rfl rfl dX11_copy_0 ?_
  refine wz_iconst C dX11_copy_1 ?_
  refine wz_aload_n C rfl rfl dX11_copy_2 ?_
  refine wz_iconst C dX11_copy_3 ?_
  refine wz_aload_n C rfl rfl dX11_copy_4 ?_
  refine wz_alen0 C (n := (rlen k0)) (sRc hz hk0) dX11_copy_5 ?_
  refine wz_aload_n C rfl rfl dX11_copy_6 ?_
  refine wz_alen0 C (n := (rlen k1)) (sRc hz hk1) dX11_copy_7 ?_
  refine wd_min C (st := [.int (iZ 0), .ref (kadr G k1), .int (iZ 0), .ref (kadr G k0)]) h (by decide +kernel) (by decide +kernel) (by decide +kernel) (by decide +kernel) (by rw [hX]; exact ⟨Nat.le_of_ble_eq_true rfl, Nat.le_of_ble_eq_true rfl⟩) dX11_copy_8 (fun v1 I1 J1 h => ?_)
  obtain ⟨g2, h⟩ := h
  refine wd_copyI C (n1 := (rlen k0)) (n2 := (rlen k1)) (sRc hz hk0) (sRc hz hk1) (by decide +kernel) (by decide +kernel) (by decide +kernel) (by decide +kernel) g2 (rlen_le _) (rlen_le _) (by rw [hX]; exact ⟨Nat.le_of_ble_eq_true rfl, Nat.le_of_ble_eq_true rfl⟩) dX11_copy_11 (fun I3 e => ?_)
  replace h := h I3 e
  exact wz_vret C dX11_copy_14 ⟨rfl, h⟩
theorem in_X0_advance_X0 : ∀ w ∈ wsX00, w ∈ wsX0_advance := by decide +kernel
theorem in_X0_advance_X4 : ∀ w ∈ wsX40, w ∈ wsX0_advance := by decide +kernel
theorem f_X0_advance_39 : FLk wsX0_advance RX0 39 7 0 := flk 7 0 rfl tyX4_ok nmX4 in_X0_advance_X4 (by decide) (by decide +kernel)
theorem f_X0_advance_67 : FLk wsX0_advance RX0 67 7 1 := flk 7 1 rfl tyX4_ok nmX4 in_X0_advance_X4 (by decide) (by decide +kernel)
theorem f_X0_advance_9 : FLk wsX0_advance RX0 9 3 0 := flk 3 0 rfl tyX0_ok nmX0 in_X0_advance_X0 (by decide) (by decide +kernel)
def rm_X0_advance : Room := { frames := 2, cells := 0, slots := 0, locals := 44 }
set_option maxHeartbeats 4000000 in
set_option maxRecDepth 100000 in
theorem lk_X0_advance_7 (G : KG) (hG : KokC G) (X : KX) (hX : KR X = rm_X0_advance) (C : Fr G X cX0_advance 4 yX0_advance.cls (some .boolean) wsX0_advance) (Q : Int → Ii → Jj → Prop) : ∀ (n : Nat) (l2 : Int) (I : Ii) (J : Jj), L_X0_advance_7 Q n l2 I J → Wz G X 4 (QsU G X (QsB Q)) 0 0 7 [some (.ref (kadr G 124)), some (.ref (kadr G 113)), some (.int (iZ l2)), none] [] I J := by
  have hz := hG.2
  intro n
  induction n with
  | zero => intro l2 I J h; exact False.elim h
  | succ n w7 =>
    intro l2 I J h
    have h : Lb_X0_advance_7 Q (L_X0_advance_7 Q n) l2 I J := h
    unfold Lb_X0_advance_7 at h
    generalize L_X0_advance_7 Q n = r7 at h w7
    refine wz_iload_n C rfl rfl dX0_advance_7 ?_
    obtain ⟨g1, h⟩ := h
    refine wz_if_le C (tgt := 66) g1 dX0_advance_8 (by decide) (fun c => ?_) (fun c => ?_)
    · replace h := h.1 c
      refine wz_iconst C dX0_advance_66 ?_
      exact wz_zret C (Or.inl rfl) dX0_advance_67 ⟨_, rfl, (Or.inl rfl), h⟩
    · replace h := h.2 c
      refine wz_aload_n C rfl rfl dX0_advance_11 ?_
      refine wz_iload_n C rfl rfl dX0_advance_12 ?_
      refine wm_callV C (o := 124) (As := [.int (iZ l2)]) (st := []) (a' := 0) (b' := 0) (shK_c hz rfl) rfl (k_X0_highestBefore G hG l2 I J _ h) 1 gX0_advance_X0_highestBefore rfl (by decide +kernel) (by rw [hX]; exact ⟨Nat.le_of_ble_eq_true rfl, Nat.le_of_ble_eq_true rfl⟩) rfl (Nat.le_of_ble_eq_true rfl) rfl rfl rfl dX0_advance_13 (kk_sI (fun v2 I2 J2 h => ?_))
      refine wz_iconst C dX0_advance_16 ?_
      refine wz_iadd C dX0_advance_17 ?_
      refine wz_aload_n C rfl rfl dX0_advance_18 ?_
      refine wz_getI C rfl f_X0_advance_67 (sOc hz rfl) dX0_advance_19 ?_
      refine wz_iconst C dX0_advance_22 ?_
      refine wz_isub C dX0_advance_23 ?_
      refine wd_min C (st := []) h (by decide +kernel) (by decide +kernel) (by decide +kernel) (by decide +kernel) (by rw [hX]; exact ⟨Nat.le_of_ble_eq_true rfl, Nat.le_of_ble_eq_true rfl⟩) dX0_advance_24 (fun v3 I3 J3 h => ?_)
      refine wz_istore_3 C rfl dX0_advance_27 ?_
      refine wz_aload_n C rfl rfl dX0_advance_28 ?_
      refine wz_getR C (j := 125) f_X0_advance_9 (sOc hz rfl) (by decide) dX0_advance_29 ?_
      refine wz_iload_n C rfl rfl dX0_advance_32 ?_
      refine wm_callSN C (As := [.ref (kadr G 125), .int (iZ l2)]) (st := []) (a' := 0) (b' := 0) (host := "ShareGraph") (k_X11_at G hG 125 l2 I3 J3 _ h) 2 gX0_advance_X11_at_n56 (by decide +kernel) (by decide +kernel) (by decide +kernel) rfl (by decide +kernel) (by rw [hX]; exact ⟨Nat.le_of_ble_eq_true rfl, Nat.le_of_ble_eq_true rfl⟩) rfl (Nat.le_of_ble_eq_true rfl) rfl rfl rfl dX0_advance_33 (kk_sI (fun v4 I4 J4 h => ?_))
      refine wz_iload_n C rfl rfl dX0_advance_36 ?_
      obtain ⟨g5, h⟩ := h
      obtain ⟨g6, h⟩ := h
      refine wz_icmp_ge C (tgt := 51) g5 g6 dX0_advance_37 (by decide) (fun c => ?_) (fun c => ?_)
      · replace h := h.1 c
        refine wz_aload_n C rfl rfl dX0_advance_51 ?_
        refine wz_getR C (j := 125) f_X0_advance_9 (sOc hz rfl) (by decide) dX0_advance_52 ?_
        refine wz_iload_n C rfl rfl dX0_advance_55 ?_
        refine wz_iconst C dX0_advance_56 ?_
        refine wm_callSN C (As := [.ref (kadr G 125), .int (iZ l2), .int (iZ 0)]) (st := []) (a' := 0) (b' := 0) (host := "ShareGraph") (k_X11_put G hG 125 l2 0 I4 J4 _ h) 3 gX0_advance_X11_put_n88 (by decide +kernel) (by decide +kernel) (by decide +kernel) rfl (by decide +kernel) (by rw [hX]; exact ⟨Nat.le_of_ble_eq_true rfl, Nat.le_of_ble_eq_true rfl⟩) rfl (Nat.le_of_ble_eq_true rfl) rfl rfl rfl dX0_advance_57 (kk_sV (fun I7 J7 h => ?_))
        refine wz_iinc_2 C rfl dX0_advance_60 ?_
        refine wz_goto C dX0_advance_63 (tgt := 7) (by decide) ?_
        exact Wz.drop (w7 (l2 + (-1)) I7 J7 h) (And.intro rfl (And.intro rfl (And.intro rfl trivial)))
      · replace h := h.2 c
        refine wz_aload_n C rfl rfl dX0_advance_40 ?_
        refine wz_getR C (j := 125) f_X0_advance_9 (sOc hz rfl) (by decide) dX0_advance_41 ?_
        refine wz_iload_n C rfl rfl dX0_advance_44 ?_
        refine wz_iconst C dX0_advance_45 ?_
        refine wm_callSN C (As := [.ref (kadr G 125), .int (iZ l2), .int (iZ 1)]) (st := []) (a' := 0) (b' := 0) (host := "ShareGraph") (k_X11_add G hG 125 l2 1 I4 J4 _ h) 3 gX0_advance_X11_add_n63 (by decide +kernel) (by decide +kernel) (by decide +kernel) rfl (by decide +kernel) (by rw [hX]; exact ⟨Nat.le_of_ble_eq_true rfl, Nat.le_of_ble_eq_true rfl⟩) rfl (Nat.le_of_ble_eq_true rfl) rfl rfl rfl dX0_advance_46 (kk_sV (fun I8 J8 h => ?_))
        refine wz_iconst C dX0_advance_49 ?_
        exact wz_zret C (Or.inr rfl) dX0_advance_50 ⟨_, rfl, (Or.inr rfl), h⟩
set_option maxHeartbeats 4000000 in
set_option maxRecDepth 100000 in
theorem k_X0_advance (G : KG) (hG : KokC G) (I : Ii) (J : Jj) (Q : Int → Ii → Jj → Prop) (h : wp_X0_advance I J Q) : Ctr G yX0_advance wsX0_advance rm_X0_advance [.ref (kadr G 124), .ref (kadr G 113)] (I, J) (QsB Q) := by
  unfold wp_X0_advance at h
  skip
  refine Ctr.ofZ (cc := cX0_advance) (nL := 4) (ret := (some .boolean)) [some (.ref (kadr G 124)), some (.ref (kadr G 113)), none, none] hG.1 (by decide +kernel) rfl (Nat.le_of_ble_eq_true rfl) (Nat.le_of_ble_eq_true rfl) (by simp [lvA, lv_args, Value.category]) ?_
  intro X hX C
  have hz := hG.2
  refine wz_aload_n C rfl rfl dX0_advance_0 ?_
  refine wz_getI C rfl f_X0_advance_39 (sOc hz rfl) dX0_advance_1 ?_
  refine wz_iconst C dX0_advance_4 ?_
  refine wz_isub C dX0_advance_5 ?_
  refine wz_istore_2 C rfl dX0_advance_6 ?_
  obtain ⟨n, h⟩ := h
  exact lk_X0_advance_7 G hG X hX C Q n ((I 113 0) - 1) I J h
theorem in_X1_run_X1 : ∀ w ∈ wsX10, w ∈ wsX1_run := by decide +kernel
theorem f_X1_run_25 : FLk wsX1_run RX1 25 4 4 := flk 4 4 rfl tyX1_ok nmX1 in_X1_run_X1 (by decide) (by decide +kernel)
theorem fp_X1_4 : FPk 4 4 .int := fun C9 T9 N9 h => by
  have h : some (RX1, TX1, 6) = some (C9, T9, N9) := h
  cases h
  exact ⟨rfl, by decide +kernel⟩
def rm_X1_run : Room := { frames := 2, cells := 0, slots := 0, locals := 48 }
set_option maxHeartbeats 4000000 in
set_option maxRecDepth 100000 in
theorem lk_X1_run_13 (G : KG) (hG : KokC G) (X : KX) (hX : KR X = rm_X1_run) (C : Fr G X cX1_run 5 yX1_run.cls none wsX1_run) (k1 : Nat) (l2 : Int) (l3 : Int) (hk1 : gK k1) (Q : Ii → Jj → Prop) : ∀ (n : Nat) (l4 : Int) (I : Ii) (J : Jj), L_X1_run_13 k1 l2 l3 Q n l4 I J → Wz G X 5 (QsU G X (QsV Q)) 0 0 13 [some (.ref (kadr G 128)), none, some (.int (iZ l2)), some (.int (iZ l3)), some (.int (iZ l4))] [] I J := by
  have hz := hG.2
  intro n
  induction n with
  | zero => intro l4 I J h; exact False.elim h
  | succ n w13 =>
    intro l4 I J h
    have h : Lb_X1_run_13 k1 l2 l3 Q (L_X1_run_13 k1 l2 l3 Q n) l4 I J := h
    unfold Lb_X1_run_13 at h
    generalize L_X1_run_13 k1 l2 l3 Q n = r13 at h w13
    refine wz_iload C rfl dX1_run_13 ?_
    refine wz_ldc C (n := 1000000) (v := 1000000) (by decide) (by decide +kernel) dX1_run_15 ?_
    obtain ⟨g3, h⟩ := h
    refine wz_icmp_ge C (tgt := 50) g3 (by decide) dX1_run_17 (by decide) (fun c => ?_) (fun c => ?_)
    · replace h := h.1 c
      exact wz_vret C dX1_run_50 ⟨rfl, h⟩
    · replace h := h.2 c
      refine wz_aload_n C rfl rfl dX1_run_20 ?_
      refine wz_iload_n C rfl rfl dX1_run_21 ?_
      refine wz_iload_n C rfl rfl dX1_run_22 ?_
      refine wm_callV C (o := 128) (As := [.int (iZ l2), .int (iZ l3)]) (st := []) (a' := 0) (b' := 0) (shK_c hz rfl) rfl (k_X1_findWay G hG l2 l3 I J _ h) 2 gX1_run_X1_findWay rfl (by decide +kernel) (by rw [hX]; exact ⟨Nat.le_of_ble_eq_true rfl, Nat.le_of_ble_eq_true rfl⟩) rfl (Nat.le_of_ble_eq_true rfl) rfl rfl rfl dX1_run_23 (kk_sB (fun v4 I4 J4 hb4 h => ?_))
      refine wz_if_eq C (tgt := 50) (rgB hb4) dX1_run_26 (by decide) (fun c => ?_) (fun c => ?_)
      · replace h := h.1 c
        exact wz_vret C dX1_run_50 ⟨rfl, h⟩
      · replace h := h.2 c
        refine wz_aload_n C rfl rfl dX1_run_29 ?_
        refine wz_dup C rfl dX1_run_30 ?_
        refine wz_getI C rfl f_X1_run_25 (sOc hz rfl) dX1_run_31 ?_
        refine wz_aload_n C rfl rfl dX1_run_34 ?_
        refine wz_iload_n C rfl rfl dX1_run_35 ?_
        refine wz_iload_n C rfl rfl dX1_run_36 ?_
        refine wm_callV C (o := 128) (As := [.int (iZ l2), .int (iZ l3)]) (st := [.int (iZ (I4 128 4)), .ref (kadr G 128)]) (a' := 0) (b' := 0) (shK_c hz rfl) rfl (k_X1_useWay G hG l2 l3 I4 J4 _ h) 2 gX1_run_X1_useWay rfl (by decide +kernel) (by rw [hX]; exact ⟨Nat.le_of_ble_eq_true rfl, Nat.le_of_ble_eq_true rfl⟩) rfl (Nat.le_of_ble_eq_true rfl) rfl rfl rfl dX1_run_37 (kk_sI (fun v5 I5 J5 h => ?_))
        refine wz_iadd C dX1_run_40 ?_
        refine wd_putI C f_X1_run_25 fp_X1_4 (sOc hz rfl) dX1_run_41 (fun I6 e => ?_)
        replace h := h I6 e
        refine wz_iinc_4 C rfl dX1_run_44 ?_
        refine wz_goto C dX1_run_47 (tgt := 13) (by decide) ?_
        exact w13 (l4 + 1) I6 J5 h
set_option maxHeartbeats 4000000 in
set_option maxRecDepth 100000 in
theorem k_X1_run (G : KG) (hG : KokC G) (k1 : Nat) (l2 : Int) (l3 : Int) (I : Ii) (J : Jj) (Q : Ii → Jj → Prop) (h : wp_X1_run k1 l2 l3 I J Q) : Ctr G yX1_run wsX1_run rm_X1_run [.ref (kadr G 128), .ref (kadr G k1), .int (iZ l2), .int (iZ l3)] (I, J) (QsV Q) := by
  unfold wp_X1_run at h
  obtain ⟨hk1, h⟩ := h
  refine Ctr.ofZ (cc := cX1_run) (nL := 5) (ret := none) [some (.ref (kadr G 128)), some (.ref (kadr G k1)), some (.int (iZ l2)), some (.int (iZ l3)), none] hG.1 (by decide +kernel) rfl (Nat.le_of_ble_eq_true rfl) (Nat.le_of_ble_eq_true rfl) (by simp [lvA, lv_args, Value.category]) ?_
  intro X hX C
  have hz := hG.2
  refine wz_aload_n C rfl rfl dX1_run_0 ?_
  refine wz_aload_n C rfl rfl dX1_run_1 ?_
  refine wm_callV C (o := 128) (As := [.ref (kadr G k1)]) (st := []) (a' := 0) (b' := 0) (shK_c hz rfl) rfl (k_X1_fillRooms G hG k1 I J _ h) 1 gX1_run_X1_fillRooms rfl (by decide +kernel) (by rw [hX]; exact ⟨Nat.le_of_ble_eq_true rfl, Nat.le_of_ble_eq_true rfl⟩) rfl (Nat.le_of_ble_eq_true rfl) rfl rfl rfl dX1_run_2 (kk_sV (fun I1 J1 h => ?_))
  refine wz_aload_n C rfl rfl dX1_run_5 ?_
  refine wz_iconst C dX1_run_6 ?_
  refine wd_putI C f_X1_run_25 fp_X1_4 (sOc hz rfl) dX1_run_7 (fun I2 e => ?_)
  replace h := h I2 e
  refine wz_iconst C dX1_run_10 ?_
  refine wz_istore_4 C rfl dX1_run_11 ?_
  obtain ⟨n, h⟩ := h
  exact Wz.drop (lk_X1_run_13 G hG X hX C k1 l2 l3 hk1 Q n 0 I2 J1 h) (And.intro rfl (And.intro rfl (And.intro rfl (And.intro rfl trivial))))
theorem in_X2_copyFrom_X2 : ∀ w ∈ wsX20, w ∈ wsX2_copyFrom := by decide +kernel
theorem f_X2_copyFrom_32 : FLk wsX2_copyFrom RX2 32 5 0 := flk 5 0 rfl tyX2_ok nmX2 in_X2_copyFrom_X2 (by decide) (by decide +kernel)
theorem f_X2_copyFrom_35 : FLk wsX2_copyFrom RX2 35 5 1 := flk 5 1 rfl tyX2_ok nmX2 in_X2_copyFrom_X2 (by decide) (by decide +kernel)
theorem f_X2_copyFrom_9 : FLk wsX2_copyFrom RX2 9 5 2 := flk 5 2 rfl tyX2_ok nmX2 in_X2_copyFrom_X2 (by decide) (by decide +kernel)
theorem f_X2_copyFrom_38 : FLk wsX2_copyFrom RX2 38 5 3 := flk 5 3 rfl tyX2_ok nmX2 in_X2_copyFrom_X2 (by decide) (by decide +kernel)
theorem f_X2_copyFrom_41 : FLk wsX2_copyFrom RX2 41 5 4 := flk 5 4 rfl tyX2_ok nmX2 in_X2_copyFrom_X2 (by decide) (by decide +kernel)
theorem f_X2_copyFrom_44 : FLk wsX2_copyFrom RX2 44 5 5 := flk 5 5 rfl tyX2_ok nmX2 in_X2_copyFrom_X2 (by decide) (by decide +kernel)
theorem f_X2_copyFrom_47 : FLk wsX2_copyFrom RX2 47 5 6 := flk 5 6 rfl tyX2_ok nmX2 in_X2_copyFrom_X2 (by decide) (by decide +kernel)
theorem f_X2_copyFrom_15 : FLk wsX2_copyFrom RX2 15 5 7 := flk 5 7 rfl tyX2_ok nmX2 in_X2_copyFrom_X2 (by decide) (by decide +kernel)
theorem f_X2_copyFrom_19 : FLk wsX2_copyFrom RX2 19 5 8 := flk 5 8 rfl tyX2_ok nmX2 in_X2_copyFrom_X2 (by decide) (by decide +kernel)
theorem f_X2_copyFrom_23 : FLk wsX2_copyFrom RX2 23 5 9 := flk 5 9 rfl tyX2_ok nmX2 in_X2_copyFrom_X2 (by decide) (by decide +kernel)
theorem f_X2_copyFrom_26 : FLk wsX2_copyFrom RX2 26 5 10 := flk 5 10 rfl tyX2_ok nmX2 in_X2_copyFrom_X2 (by decide) (by decide +kernel)
theorem f_X2_copyFrom_29 : FLk wsX2_copyFrom RX2 29 5 11 := flk 5 11 rfl tyX2_ok nmX2 in_X2_copyFrom_X2 (by decide) (by decide +kernel)
def rm_X2_copyFrom : Room := { frames := 2, cells := 0, slots := 0, locals := 81 }
set_option maxHeartbeats 4000000 in
set_option maxRecDepth 100000 in
theorem k_X2_copyFrom (G : KG) (hG : KokC G) (k0 : Nat) (k1 : Nat) (I : Ii) (J : Jj) (Q : Ii → Jj → Prop) (h : wp_X2_copyFrom k0 k1 I J Q) : Ctr G yX2_copyFrom wsX2_copyFrom rm_X2_copyFrom [.ref (kadr G k0), .ref (kadr G k1)] (I, J) (QsV Q) := by
  unfold wp_X2_copyFrom at h
  obtain ⟨hk0, h⟩ := h
  obtain ⟨hk1, h⟩ := h
  refine Ctr.ofZ (cc := cX2_copyFrom) (nL := 2) (ret := none) [some (.ref (kadr G k0)), some (.ref (kadr G k1))] hG.1 (by decide +kernel) rfl (Nat.le_of_ble_eq_true rfl) (Nat.le_of_ble_eq_true rfl) (by simp [lvA, lv_args, Value.category]) ?_
  intro X hX C
  have hz := hG.2
  refine wz_aload_n C rfl rfl dX2_copyFrom_0 ?_
  refine wz_aload_n C rfl rfl dX2_copyFrom_1 ?_
  refine wz_getI C rfl f_X2_copyFrom_32 (sOc hz (soX2_0 hk1)) dX2_copyFrom_2 ?_
  refine wd_putI C f_X2_copyFrom_32 fp_X2_0 (sOc hz (soX2_0 hk0)) dX2_copyFrom_5 (fun I1 e => ?_)
  replace h := h I1 e
  refine wz_aload_n C rfl rfl dX2_copyFrom_8 ?_
  refine wz_aload_n C rfl rfl dX2_copyFrom_9 ?_
  refine wz_getI C rfl f_X2_copyFrom_35 (sOc hz (soX2_1 hk1)) dX2_copyFrom_10 ?_
  refine wd_putI C f_X2_copyFrom_35 fp_X2_1 (sOc hz (soX2_1 hk0)) dX2_copyFrom_13 (fun I2 e => ?_)
  replace h := h I2 e
  refine wz_aload_n C rfl rfl dX2_copyFrom_16 ?_
  refine wz_aload_n C rfl rfl dX2_copyFrom_17 ?_
  refine wz_getI C rfl f_X2_copyFrom_9 (sOc hz (soX2_2 hk1)) dX2_copyFrom_18 ?_
  refine wd_putI C f_X2_copyFrom_9 fp_X2_2 (sOc hz (soX2_2 hk0)) dX2_copyFrom_21 (fun I3 e => ?_)
  replace h := h I3 e
  refine wz_aload_n C rfl rfl dX2_copyFrom_24 ?_
  refine wz_aload_n C rfl rfl dX2_copyFrom_25 ?_
  refine wz_getI C rfl f_X2_copyFrom_38 (sOc hz (soX2_3 hk1)) dX2_copyFrom_26 ?_
  refine wd_putI C f_X2_copyFrom_38 fp_X2_3 (sOc hz (soX2_3 hk0)) dX2_copyFrom_29 (fun I4 e => ?_)
  replace h := h I4 e
  refine wz_aload_n C rfl rfl dX2_copyFrom_32 ?_
  refine wz_aload_n C rfl rfl dX2_copyFrom_33 ?_
  refine wz_getI C rfl f_X2_copyFrom_41 (sOc hz (soX2_4 hk1)) dX2_copyFrom_34 ?_
  refine wd_putI C f_X2_copyFrom_41 fp_X2_4 (sOc hz (soX2_4 hk0)) dX2_copyFrom_37 (fun I5 e => ?_)
  replace h := h I5 e
  refine wz_aload_n C rfl rfl dX2_copyFrom_40 ?_
  refine wz_aload_n C rfl rfl dX2_copyFrom_41 ?_
  refine wz_getI C rfl f_X2_copyFrom_44 (sOc hz (soX2_5 hk1)) dX2_copyFrom_42 ?_
  refine wd_putI C f_X2_copyFrom_44 fp_X2_5 (sOc hz (soX2_5 hk0)) dX2_copyFrom_45 (fun I6 e => ?_)
  replace h := h I6 e
  refine wz_aload_n C rfl rfl dX2_copyFrom_48 ?_
  refine wz_aload_n C rfl rfl dX2_copyFrom_49 ?_
  refine wz_getI C rfl f_X2_copyFrom_47 (sOc hz (soX2_6 hk1)) dX2_copyFrom_50 ?_
  refine wd_putI C f_X2_copyFrom_47 fp_X2_6 (sOc hz (soX2_6 hk0)) dX2_copyFrom_53 (fun I7 e => ?_)
  replace h := h I7 e
  refine wz_aload_n C rfl rfl dX2_copyFrom_56 ?_
  refine wz_getR C (j := k1 + 1) f_X2_copyFrom_15 (sOc hz (soX2_7 hk1)) (by have := gK_ge hk1; omega) dX2_copyFrom_57 ?_
  refine wz_iconst C dX2_copyFrom_60 ?_
  refine wz_aload_n C rfl rfl dX2_copyFrom_61 ?_
  refine wz_getR C (j := k0 + 1) f_X2_copyFrom_15 (sOc hz (soX2_7 hk0)) (by have := gK_ge hk0; omega) dX2_copyFrom_62 ?_
  refine wz_iconst C dX2_copyFrom_65 ?_
  refine wz_bipush C (by decide) dX2_copyFrom_66 ?_
  obtain ⟨g8, h⟩ := h
  refine wd_copyJ C (n1 := 14) (n2 := 14) (sRc hz (srX2_1 hk1)) (sRc hz (srX2_1 hk0)) (by decide +kernel) (by decide +kernel) (by decide +kernel) (by decide +kernel) (by omega) (by decide) (by decide) (by rw [hX]; exact ⟨Nat.le_of_ble_eq_true rfl, Nat.le_of_ble_eq_true rfl⟩) dX2_copyFrom_68 (fun J9 e => ?_)
  replace h := h J9 e
  refine wz_aload_n C rfl rfl dX2_copyFrom_71 ?_
  refine wz_getR C (j := k1 + 2) f_X2_copyFrom_19 (sOc hz (soX2_8 hk1)) (by have := gK_ge hk1; omega) dX2_copyFrom_72 ?_
  refine wz_aload_n C rfl rfl dX2_copyFrom_75 ?_
  refine wz_getR C (j := k0 + 2) f_X2_copyFrom_19 (sOc hz (soX2_8 hk0)) (by have := gK_ge hk0; omega) dX2_copyFrom_76 ?_
  refine wm_callSN C (As := [.ref (kadr G (k1 + 2)), .ref (kadr G (k0 + 2))]) (st := []) (a' := 0) (b' := 0) (host := "ShareGraph") (k_X11_copy G hG (k1 + 2) (k0 + 2) I7 J9 _ h) 2 gX2_copyFrom_X11_copy_n56 (by decide +kernel) (by decide +kernel) (by decide +kernel) rfl (by decide +kernel) (by rw [hX]; exact ⟨Nat.le_of_ble_eq_true rfl, Nat.le_of_ble_eq_true rfl⟩) rfl (Nat.le_of_ble_eq_true rfl) rfl rfl rfl dX2_copyFrom_79 (kk_sV (fun I10 J10 h => ?_))
  refine wz_aload_n C rfl rfl dX2_copyFrom_82 ?_
  refine wz_getR C (j := k1 + 3) f_X2_copyFrom_23 (sOc hz (soX2_9 hk1)) (by have := gK_ge hk1; omega) dX2_copyFrom_83 ?_
  refine wz_aload_n C rfl rfl dX2_copyFrom_86 ?_
  refine wz_getR C (j := k0 + 3) f_X2_copyFrom_23 (sOc hz (soX2_9 hk0)) (by have := gK_ge hk0; omega) dX2_copyFrom_87 ?_
  refine wm_callSN C (As := [.ref (kadr G (k1 + 3)), .ref (kadr G (k0 + 3))]) (st := []) (a' := 0) (b' := 0) (host := "ShareGraph") (k_X11_copy G hG (k1 + 3) (k0 + 3) I10 J10 _ h) 2 gX2_copyFrom_X11_copy_n56 (by decide +kernel) (by decide +kernel) (by decide +kernel) rfl (by decide +kernel) (by rw [hX]; exact ⟨Nat.le_of_ble_eq_true rfl, Nat.le_of_ble_eq_true rfl⟩) rfl (Nat.le_of_ble_eq_true rfl) rfl rfl rfl dX2_copyFrom_90 (kk_sV (fun I11 J11 h => ?_))
  refine wz_aload_n C rfl rfl dX2_copyFrom_93 ?_
  refine wz_getR C (j := k1 + 4) f_X2_copyFrom_26 (sOc hz (soX2_10 hk1)) (by have := gK_ge hk1; omega) dX2_copyFrom_94 ?_
  refine wz_aload_n C rfl rfl dX2_copyFrom_97 ?_
  refine wz_getR C (j := k0 + 4) f_X2_copyFrom_26 (sOc hz (soX2_10 hk0)) (by have := gK_ge hk0; omega) dX2_copyFrom_98 ?_
  refine wm_callSN C (As := [.ref (kadr G (k1 + 4)), .ref (kadr G (k0 + 4))]) (st := []) (a' := 0) (b' := 0) (host := "ShareGraph") (k_X11_copy G hG (k1 + 4) (k0 + 4) I11 J11 _ h) 2 gX2_copyFrom_X11_copy_n56 (by decide +kernel) (by decide +kernel) (by decide +kernel) rfl (by decide +kernel) (by rw [hX]; exact ⟨Nat.le_of_ble_eq_true rfl, Nat.le_of_ble_eq_true rfl⟩) rfl (Nat.le_of_ble_eq_true rfl) rfl rfl rfl dX2_copyFrom_101 (kk_sV (fun I12 J12 h => ?_))
  refine wz_aload_n C rfl rfl dX2_copyFrom_104 ?_
  refine wz_getR C (j := k1 + 5) f_X2_copyFrom_29 (sOc hz (soX2_11 hk1)) (by have := gK_ge hk1; omega) dX2_copyFrom_105 ?_
  refine wz_aload_n C rfl rfl dX2_copyFrom_108 ?_
  refine wz_getR C (j := k0 + 5) f_X2_copyFrom_29 (sOc hz (soX2_11 hk0)) (by have := gK_ge hk0; omega) dX2_copyFrom_109 ?_
  refine wm_callSN C (As := [.ref (kadr G (k1 + 5)), .ref (kadr G (k0 + 5))]) (st := []) (a' := 0) (b' := 0) (host := "ShareGraph") (k_X11_copy G hG (k1 + 5) (k0 + 5) I12 J12 _ h) 2 gX2_copyFrom_X11_copy_n56 (by decide +kernel) (by decide +kernel) (by decide +kernel) rfl (by decide +kernel) (by rw [hX]; exact ⟨Nat.le_of_ble_eq_true rfl, Nat.le_of_ble_eq_true rfl⟩) rfl (Nat.le_of_ble_eq_true rfl) rfl rfl rfl dX2_copyFrom_112 (kk_sV (fun I13 J13 h => ?_))
  exact wz_vret C dX2_copyFrom_115 ⟨rfl, h⟩
theorem in_X2_edgeOf_X2 : ∀ w ∈ wsX20, w ∈ wsX2_edgeOf := by decide +kernel
theorem f_X2_edgeOf_35 : FLk wsX2_edgeOf RX2 35 5 1 := flk 5 1 rfl tyX2_ok nmX2 in_X2_edgeOf_X2 (by decide) (by decide +kernel)
def rm_X2_edgeOf : Room := { frames := 2, cells := 0, slots := 0, locals := 42 }
set_option maxHeartbeats 4000000 in
set_option maxRecDepth 100000 in
theorem lk_X2_edgeOf_18 (G : KG) (hG : KokC G) (X : KX) (hX : KR X = rm_X2_edgeOf) (C : Fr G X cX2_edgeOf 5 yX2_edgeOf.cls (some .int) wsX2_edgeOf) (k0 : Nat) (l1 : Int) (l2 : Int) (hk0 : gK k0) (Q : Int → Ii → Jj → Prop) : ∀ (n : Nat) (l3 : Int) (l4 : Int) (I : Ii) (J : Jj), L_X2_edgeOf_18 k0 l1 l2 Q n l3 l4 I J → Wz G X 5 (QsU G X (QsI Q)) 0 0 18 [some (.ref (kadr G k0)), none, none, some (.int (iZ l3)), some (.int (iZ l4))] [] I J := by
  have hz := hG.2
  intro n
  induction n with
  | zero => intro l3 l4 I J h; exact False.elim h
  | succ n w18 =>
    intro l3 l4 I J h
    have h : Lb_X2_edgeOf_18 k0 l1 l2 Q (L_X2_edgeOf_18 k0 l1 l2 Q n) l3 l4 I J := h
    unfold Lb_X2_edgeOf_18 at h
    generalize L_X2_edgeOf_18 k0 l1 l2 Q n = r18 at h w18
    refine wz_iload C rfl dX2_edgeOf_18 ?_
    refine wz_aload_n C rfl rfl dX2_edgeOf_20 ?_
    refine wz_getI C rfl f_X2_edgeOf_35 (sOc hz (soX2_1 hk0)) dX2_edgeOf_21 ?_
    obtain ⟨g3, h⟩ := h
    obtain ⟨g4, h⟩ := h
    refine wz_icmp_ge C (tgt := 46) g3 g4 dX2_edgeOf_24 (by decide) (fun c => ?_) (fun c => ?_)
    · replace h := h.1 c
      refine wz_iconst C dX2_edgeOf_46 ?_
      exact wz_iret C dX2_edgeOf_47 ⟨_, rfl, h⟩
    · replace h := h.2 c
      refine wz_aload_n C rfl rfl dX2_edgeOf_27 ?_
      refine wz_iload C rfl dX2_edgeOf_28 ?_
      refine wm_callV C (o := k0) (As := [.int (iZ l4)]) (st := []) (a' := 0) (b' := 0) (shK_c hz (spX2 hk0)) rfl (k_X2_endsOf G hG k0 l4 I J _ h) 1 gX2_edgeOf_X2_endsOf rfl (by decide +kernel) (by rw [hX]; exact ⟨Nat.le_of_ble_eq_true rfl, Nat.le_of_ble_eq_true rfl⟩) rfl (Nat.le_of_ble_eq_true rfl) rfl rfl rfl dX2_edgeOf_30 (kk_sI (fun v5 I5 J5 h => ?_))
      refine wz_iload_n C rfl rfl dX2_edgeOf_33 ?_
      obtain ⟨g6, h⟩ := h
      obtain ⟨g7, h⟩ := h
      refine wz_icmp_ne C (tgt := 40) g6 g7 dX2_edgeOf_34 (by decide) (fun c => ?_) (fun c => ?_)
      · replace h := h.1 c
        refine wz_iinc_4 C rfl dX2_edgeOf_40 ?_
        refine wz_goto C dX2_edgeOf_43 (tgt := 18) (by decide) ?_
        exact w18 l3 (l4 + 1) I5 J5 h
      · replace h := h.2 c
        refine wz_iload C rfl dX2_edgeOf_37 ?_
        exact wz_iret C dX2_edgeOf_39 ⟨_, rfl, h⟩
set_option maxHeartbeats 4000000 in
set_option maxRecDepth 100000 in
theorem k_X2_edgeOf (G : KG) (hG : KokC G) (k0 : Nat) (l1 : Int) (l2 : Int) (I : Ii) (J : Jj) (Q : Int → Ii → Jj → Prop) (h : wp_X2_edgeOf k0 l1 l2 I J Q) : Ctr G yX2_edgeOf wsX2_edgeOf rm_X2_edgeOf [.ref (kadr G k0), .int (iZ l1), .int (iZ l2)] (I, J) (QsI Q) := by
  unfold wp_X2_edgeOf at h
  obtain ⟨hk0, h⟩ := h
  refine Ctr.ofZ (cc := cX2_edgeOf) (nL := 5) (ret := (some .int)) [some (.ref (kadr G k0)), some (.int (iZ l1)), some (.int (iZ l2)), none, none] hG.1 (by decide +kernel) rfl (Nat.le_of_ble_eq_true rfl) (Nat.le_of_ble_eq_true rfl) (by simp [lvA, lv_args, Value.category]) ?_
  intro X hX C
  have hz := hG.2
  refine wz_iload_n C rfl rfl dX2_edgeOf_0 ?_
  refine wz_iload_n C rfl rfl dX2_edgeOf_1 ?_
  obtain ⟨g1, h⟩ := h
  obtain ⟨g2, h⟩ := h
  refine wz_icmp_ne C (tgt := 7) g1 g2 dX2_edgeOf_2 (by decide) (fun c => ?_) (fun c => ?_)
  · replace h := h.1 c
    refine wz_iconst C dX2_edgeOf_7 ?_
    refine wz_iload_n C rfl rfl dX2_edgeOf_8 ?_
    refine wd_ishl C dX2_edgeOf_9 ?_
    refine wz_iconst C dX2_edgeOf_10 ?_
    refine wz_iload_n C rfl rfl dX2_edgeOf_11 ?_
    refine wd_ishl C dX2_edgeOf_12 ?_
    refine wd_ior C dX2_edgeOf_13 ?_
    refine wz_istore_3 C rfl dX2_edgeOf_14 ?_
    refine wz_iconst C dX2_edgeOf_15 ?_
    refine wz_istore_4 C rfl dX2_edgeOf_16 ?_
    obtain ⟨n, h⟩ := h
    exact Wz.drop (lk_X2_edgeOf_18 G hG X hX C k0 l1 l2 hk0 Q n (orZ (shlZ 1 l1) (shlZ 1 l2)) 0 I J h) (And.intro rfl (And.intro rfl (And.intro rfl trivial)))
  · replace h := h.2 c
    refine wz_iconst C dX2_edgeOf_5 ?_
    exact wz_iret C dX2_edgeOf_6 ⟨_, rfl, h⟩
