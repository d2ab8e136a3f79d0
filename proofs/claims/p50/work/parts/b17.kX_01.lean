def rm_X11_requireVertex : Room := { frames := 1, cells := 0, slots := 0, locals := 21 }
set_option maxHeartbeats 4000000 in
set_option maxRecDepth 100000 in
theorem k_X11_requireVertex (G : KG) (hG : KokC G) (l1 : Int) (I : Ii) (J : Jj) (Q : Ii → Jj → Prop) (h : wp_X11_requireVertex l1 I J Q) : Ctr G yX11_requireVertex wsX11_requireVertex rm_X11_requireVertex [.ref (kadr G 100), .int (iZ l1)] (I, J) (QsV Q) := by
  unfold wp_X11_requireVertex at h
  skip
  refine Ctr.ofZ (cc := cX11_requireVertex) (nL := 2) (ret := none) [some (.ref (kadr G 100)), some (.int (iZ l1))] hG.1 (by decide +kernel) rfl (Nat.le_of_ble_eq_true rfl) (Nat.le_of_ble_eq_true rfl) (by simp [lvA, lv_args, Value.category]) ?_
  intro X hX C
  have hz := hG.2
  refine wz_aload_n C rfl rfl dX11_requireVertex_0 ?_
  refine wz_iload_n C rfl rfl dX11_requireVertex_1 ?_
  refine wm_callV C (o := 100) (As := [.int (iZ l1)]) (st := []) (a' := 0) (b' := 0) (shK_c hz rfl) rfl (k_X11_hasVertex G hG l1 I J _ h) 1 gX11_requireVertex_X11_hasVertex rfl (by decide +kernel) (by rw [hX]; exact ⟨Nat.le_of_ble_eq_true rfl, Nat.le_of_ble_eq_true rfl⟩) rfl (Nat.le_of_ble_eq_true rfl) rfl rfl rfl dX11_requireVertex_2 (kk_sB (fun v1 I1 J1 hb1 h => ?_))
  refine wz_if_ne C (tgt := 19) (rgB hb1) dX11_requireVertex_5 (by decide) (fun c => ?_) (fun c => ?_)
  · replace h := h.1 c
    exact wz_vret C dX11_requireVertex_19 ⟨rfl, h⟩
  · replace h := h.2 c
    exact False.elim h
def rm_X11_requirePart : Room := { frames := 1, cells := 0, slots := 0, locals := 21 }
set_option maxHeartbeats 4000000 in
set_option maxRecDepth 100000 in
theorem k_X11_requirePart (G : KG) (hG : KokC G) (l1 : Int) (I : Ii) (J : Jj) (Q : Ii → Jj → Prop) (h : wp_X11_requirePart l1 I J Q) : Ctr G yX11_requirePart wsX11_requirePart rm_X11_requirePart [.ref (kadr G 100), .int (iZ l1)] (I, J) (QsV Q) := by
  unfold wp_X11_requirePart at h
  skip
  refine Ctr.ofZ (cc := cX11_requirePart) (nL := 2) (ret := none) [some (.ref (kadr G 100)), some (.int (iZ l1))] hG.1 (by decide +kernel) rfl (Nat.le_of_ble_eq_true rfl) (Nat.le_of_ble_eq_true rfl) (by simp [lvA, lv_args, Value.category]) ?_
  intro X hX C
  have hz := hG.2
  refine wz_aload_n C rfl rfl dX11_requirePart_0 ?_
  refine wz_iload_n C rfl rfl dX11_requirePart_1 ?_
  refine wm_callV C (o := 100) (As := [.int (iZ l1)]) (st := []) (a' := 0) (b' := 0) (shK_c hz rfl) rfl (k_X11_hasPart G hG l1 I J _ h) 1 gX11_requirePart_X11_hasPart rfl (by decide +kernel) (by rw [hX]; exact ⟨Nat.le_of_ble_eq_true rfl, Nat.le_of_ble_eq_true rfl⟩) rfl (Nat.le_of_ble_eq_true rfl) rfl rfl rfl dX11_requirePart_2 (kk_sB (fun v1 I1 J1 hb1 h => ?_))
  refine wz_if_ne C (tgt := 19) (rgB hb1) dX11_requirePart_5 (by decide) (fun c => ?_) (fun c => ?_)
  · replace h := h.1 c
    exact wz_vret C dX11_requirePart_19 ⟨rfl, h⟩
  · replace h := h.2 c
    exact False.elim h
def rm_X11_requireTriedSteps : Room := { frames := 0, cells := 0, slots := 0, locals := 0 }
set_option maxHeartbeats 4000000 in
set_option maxRecDepth 100000 in
theorem bk_X11_requireTriedSteps_11 (G : KG) (hG : KokC G) (X : KX) (hX : KR X = rm_X11_requireTriedSteps) (C : Fr G X cX11_requireTriedSteps 2 yX11_requireTriedSteps.cls none wsX11_requireTriedSteps) (l1 : Int) (Q : Ii → Jj → Prop)  (I : Ii) (J : Jj) (h : B_X11_requireTriedSteps_11 l1 Q  I J)   : Wz G X 2 (QsU G X (QsV Q)) 0 0 11 [none, none] [] I J := by
  have hz := hG.2
  unfold B_X11_requireTriedSteps_11 at h
  exact False.elim h
set_option maxHeartbeats 4000000 in
set_option maxRecDepth 100000 in
theorem k_X11_requireTriedSteps (G : KG) (hG : KokC G) (l1 : Int) (I : Ii) (J : Jj) (Q : Ii → Jj → Prop) (h : wp_X11_requireTriedSteps l1 I J Q) : Ctr G yX11_requireTriedSteps wsX11_requireTriedSteps rm_X11_requireTriedSteps [.ref (kadr G 100), .int (iZ l1)] (I, J) (QsV Q) := by
  unfold wp_X11_requireTriedSteps at h
  skip
  refine Ctr.ofZ (cc := cX11_requireTriedSteps) (nL := 2) (ret := none) [some (.ref (kadr G 100)), some (.int (iZ l1))] hG.1 (by decide +kernel) rfl (Nat.le_of_ble_eq_true rfl) (Nat.le_of_ble_eq_true rfl) (by simp [lvA, lv_args, Value.category]) ?_
  intro X hX C
  have hz := hG.2
  refine wz_iload_n C rfl rfl dX11_requireTriedSteps_0 ?_
  obtain ⟨g1, h⟩ := h
  refine wz_if_lt C (tgt := 11) g1 dX11_requireTriedSteps_1 (by decide) (fun c => ?_) (fun c => ?_)
  · replace h := h.1 c
    exact Wz.drop (bk_X11_requireTriedSteps_11 G hG X hX C l1 Q I J h) trivial
  · replace h := h.2 c
    refine wz_iload_n C rfl rfl dX11_requireTriedSteps_4 ?_
    refine wz_sipush C (by decide) dX11_requireTriedSteps_5 ?_
    refine wz_icmp_le C (tgt := 22) g1 (by decide) dX11_requireTriedSteps_8 (by decide) (fun c => ?_) (fun c => ?_)
    · replace h := h.1 c
      exact wz_vret C dX11_requireTriedSteps_22 ⟨rfl, h⟩
    · replace h := h.2 c
      exact Wz.drop (bk_X11_requireTriedSteps_11 G hG X hX C l1 Q I J h) trivial
theorem in_X11_events_X11 : ∀ w ∈ wsX110, w ∈ wsX11_events := by decide +kernel
theorem in_X11_events_X8 : ∀ w ∈ wsX80, w ∈ wsX11_events := by decide +kernel
theorem f_X11_events_53 : FLk wsX11_events RX11 53 14 7 := flk 14 7 rfl tyX11_ok nmX11 in_X11_events_X11 (by decide) (by decide +kernel)
theorem f_X11_events_441 : FLk wsX11_events RX11 441 11 2 := flk 11 2 rfl tyX8_ok nmX8 in_X11_events_X8 (by decide) (by decide +kernel)
def rm_X11_events : Room := { frames := 0, cells := 0, slots := 0, locals := 0 }
set_option maxHeartbeats 4000000 in
set_option maxRecDepth 100000 in
theorem k_X11_events (G : KG) (hG : KokC G) (I : Ii) (J : Jj) (Q : Int → Ii → Jj → Prop) (h : wp_X11_events I J Q) : Ctr G yX11_events wsX11_events rm_X11_events [.ref (kadr G 100)] (I, J) (QsI Q) := by
  unfold wp_X11_events at h
  skip
  refine Ctr.ofZ (cc := cX11_events) (nL := 1) (ret := (some .int)) [some (.ref (kadr G 100))] hG.1 (by decide +kernel) rfl (Nat.le_of_ble_eq_true rfl) (Nat.le_of_ble_eq_true rfl) (by simp [lvA, lv_args, Value.category]) ?_
  intro X hX C
  have hz := hG.2
  refine wz_aload_n C rfl rfl dX11_events_0 ?_
  refine wz_getR C (j := 300) f_X11_events_53 (sOc hz rfl) (by decide) dX11_events_1 ?_
  refine wz_getI C rfl f_X11_events_441 (sOc hz rfl) dX11_events_4 ?_
  exact wz_iret C dX11_events_7 ⟨_, rfl, h⟩
def rm_X11_isStepCount : Room := { frames := 0, cells := 0, slots := 0, locals := 0 }
set_option maxHeartbeats 4000000 in
set_option maxRecDepth 100000 in
theorem k_X11_isStepCount (G : KG) (hG : KokC G) (l1 : Int) (I : Ii) (J : Jj) (Q : Int → Ii → Jj → Prop) (h : wp_X11_isStepCount l1 I J Q) : Ctr G yX11_isStepCount wsX11_isStepCount rm_X11_isStepCount [.ref (kadr G 100), .int (iZ l1)] (I, J) (QsB Q) := by
  unfold wp_X11_isStepCount at h
  skip
  refine Ctr.ofZ (cc := cX11_isStepCount) (nL := 2) (ret := (some .boolean)) [some (.ref (kadr G 100)), some (.int (iZ l1))] hG.1 (by decide +kernel) rfl (Nat.le_of_ble_eq_true rfl) (Nat.le_of_ble_eq_true rfl) (by simp [lvA, lv_args, Value.category]) ?_
  intro X hX C
  have hz := hG.2
  refine wz_iload_n C rfl rfl dX11_isStepCount_0 ?_
  refine wz_iconst C dX11_isStepCount_1 ?_
  obtain ⟨g1, h⟩ := h
  refine wz_icmp_lt C (tgt := 15) g1 (by decide) dX11_isStepCount_2 (by decide) (fun c => ?_) (fun c => ?_)
  · replace h := h.1 c
    refine wz_iconst C dX11_isStepCount_15 ?_
    exact wz_zret C (Or.inl rfl) dX11_isStepCount_16 ⟨_, rfl, (Or.inl rfl), h⟩
  · replace h := h.2 c
    refine wz_iload_n C rfl rfl dX11_isStepCount_5 ?_
    refine wz_bipush C (by decide) dX11_isStepCount_6 ?_
    refine wz_icmp_gt C (tgt := 15) g1 (by decide) dX11_isStepCount_8 (by decide) (fun c => ?_) (fun c => ?_)
    · replace h := h.1 c
      refine wz_iconst C dX11_isStepCount_15 ?_
      exact wz_zret C (Or.inl rfl) dX11_isStepCount_16 ⟨_, rfl, (Or.inl rfl), h⟩
    · replace h := h.2 c
      refine wz_iconst C dX11_isStepCount_11 ?_
      refine wz_goto C dX11_isStepCount_12 (tgt := 16) (by decide) ?_
      exact wz_zret C (Or.inr rfl) dX11_isStepCount_16 ⟨_, rfl, (Or.inr rfl), h⟩
theorem in_X11_canTakeApart_X11 : ∀ w ∈ wsX110, w ∈ wsX11_canTakeApart := by decide +kernel
theorem in_X11_canTakeApart_X2 : ∀ w ∈ wsX20, w ∈ wsX11_canTakeApart := by decide +kernel
theorem in_X11_canTakeApart_X8 : ∀ w ∈ wsX80, w ∈ wsX11_canTakeApart := by decide +kernel
theorem f_X11_canTakeApart_40 : FLk wsX11_canTakeApart RX11 40 14 4 := flk 14 4 rfl tyX11_ok nmX11 in_X11_canTakeApart_X11 (by decide) (by decide +kernel)
theorem f_X11_canTakeApart_262 : FLk wsX11_canTakeApart RX11 262 5 2 := flk 5 2 rfl tyX2_ok nmX2 in_X11_canTakeApart_X2 (by decide) (by decide +kernel)
theorem f_X11_canTakeApart_53 : FLk wsX11_canTakeApart RX11 53 14 7 := flk 14 7 rfl tyX11_ok nmX11 in_X11_canTakeApart_X11 (by decide) (by decide +kernel)
theorem f_X11_canTakeApart_192 : FLk wsX11_canTakeApart RX11 192 11 0 := flk 11 0 rfl tyX8_ok nmX8 in_X11_canTakeApart_X8 (by decide) (by decide +kernel)
def rm_X11_canTakeApart : Room := { frames := 0, cells := 0, slots := 0, locals := 0 }
set_option maxHeartbeats 4000000 in
set_option maxRecDepth 100000 in
theorem k_X11_canTakeApart (G : KG) (hG : KokC G) (I : Ii) (J : Jj) (Q : Int → Ii → Jj → Prop) (h : wp_X11_canTakeApart I J Q) : Ctr G yX11_canTakeApart wsX11_canTakeApart rm_X11_canTakeApart [.ref (kadr G 100)] (I, J) (QsB Q) := by
  unfold wp_X11_canTakeApart at h
  skip
  refine Ctr.ofZ (cc := cX11_canTakeApart) (nL := 1) (ret := (some .boolean)) [some (.ref (kadr G 100))] hG.1 (by decide +kernel) rfl (Nat.le_of_ble_eq_true rfl) (Nat.le_of_ble_eq_true rfl) (by simp [lvA, lv_args, Value.category]) ?_
  intro X hX C
  have hz := hG.2
  refine wz_aload_n C rfl rfl dX11_canTakeApart_0 ?_
  refine wz_getR C (j := 200) f_X11_canTakeApart_40 (sOc hz rfl) (by decide) dX11_canTakeApart_1 ?_
  refine wz_getI C rfl f_X11_canTakeApart_262 (sOc hz rfl) dX11_canTakeApart_4 ?_
  refine wz_iconst C dX11_canTakeApart_7 ?_
  obtain ⟨g1, h⟩ := h
  refine wz_icmp_ne C (tgt := 25) g1 (by decide) dX11_canTakeApart_8 (by decide) (fun c => ?_) (fun c => ?_)
  · replace h := h.1 c
    refine wz_iconst C dX11_canTakeApart_25 ?_
    exact wz_zret C (Or.inl rfl) dX11_canTakeApart_26 ⟨_, rfl, (Or.inl rfl), h⟩
  · replace h := h.2 c
    refine wz_aload_n C rfl rfl dX11_canTakeApart_11 ?_
    refine wz_getR C (j := 300) f_X11_canTakeApart_53 (sOc hz rfl) (by decide) dX11_canTakeApart_12 ?_
    refine wz_getI C rfl f_X11_canTakeApart_192 (sOc hz rfl) dX11_canTakeApart_15 ?_
    obtain ⟨g2, h⟩ := h
    refine wz_if_ne C (tgt := 25) g2 dX11_canTakeApart_18 (by decide) (fun c => ?_) (fun c => ?_)
    · replace h := h.1 c
      refine wz_iconst C dX11_canTakeApart_25 ?_
      exact wz_zret C (Or.inl rfl) dX11_canTakeApart_26 ⟨_, rfl, (Or.inl rfl), h⟩
    · replace h := h.2 c
      refine wz_iconst C dX11_canTakeApart_21 ?_
      refine wz_goto C dX11_canTakeApart_22 (tgt := 26) (by decide) ?_
      exact wz_zret C (Or.inr rfl) dX11_canTakeApart_26 ⟨_, rfl, (Or.inr rfl), h⟩
def rm_X11_isAllowance : Room := { frames := 0, cells := 0, slots := 0, locals := 0 }
set_option maxHeartbeats 4000000 in
set_option maxRecDepth 100000 in
theorem k_X11_isAllowance (G : KG) (hG : KokC G) (l1 : Int) (I : Ii) (J : Jj) (Q : Int → Ii → Jj → Prop) (h : wp_X11_isAllowance l1 I J Q) : Ctr G yX11_isAllowance wsX11_isAllowance rm_X11_isAllowance [.ref (kadr G 100), .int (iZ l1)] (I, J) (QsB Q) := by
  unfold wp_X11_isAllowance at h
  skip
  refine Ctr.ofZ (cc := cX11_isAllowance) (nL := 2) (ret := (some .boolean)) [some (.ref (kadr G 100)), some (.int (iZ l1))] hG.1 (by decide +kernel) rfl (Nat.le_of_ble_eq_true rfl) (Nat.le_of_ble_eq_true rfl) (by simp [lvA, lv_args, Value.category]) ?_
  intro X hX C
  have hz := hG.2
  refine wz_iload_n C rfl rfl dX11_isAllowance_0 ?_
  obtain ⟨g1, h⟩ := h
  refine wz_if_lt C (tgt := 14) g1 dX11_isAllowance_1 (by decide) (fun c => ?_) (fun c => ?_)
  · replace h := h.1 c
    refine wz_iconst C dX11_isAllowance_14 ?_
    exact wz_zret C (Or.inl rfl) dX11_isAllowance_15 ⟨_, rfl, (Or.inl rfl), h⟩
  · replace h := h.2 c
    refine wz_iload_n C rfl rfl dX11_isAllowance_4 ?_
    refine wz_bipush C (by decide) dX11_isAllowance_5 ?_
    refine wz_icmp_gt C (tgt := 14) g1 (by decide) dX11_isAllowance_7 (by decide) (fun c => ?_) (fun c => ?_)
    · replace h := h.1 c
      refine wz_iconst C dX11_isAllowance_14 ?_
      exact wz_zret C (Or.inl rfl) dX11_isAllowance_15 ⟨_, rfl, (Or.inl rfl), h⟩
    · replace h := h.2 c
      refine wz_iconst C dX11_isAllowance_10 ?_
      refine wz_goto C dX11_isAllowance_11 (tgt := 15) (by decide) ?_
      exact wz_zret C (Or.inr rfl) dX11_isAllowance_15 ⟨_, rfl, (Or.inr rfl), h⟩
def rm_X11_at : Room := { frames := 0, cells := 0, slots := 0, locals := 0 }
set_option maxHeartbeats 4000000 in
set_option maxRecDepth 100000 in
theorem k_X11_at (G : KG) (hG : KokC G) (k0 : Nat) (l1 : Int) (I : Ii) (J : Jj) (Q : Int → Ii → Jj → Prop) (h : wp_X11_at k0 l1 I J Q) : Ctr G yX11_at wsX11_at rm_X11_at [.ref (kadr G k0), .int (iZ l1)] (I, J) (QsI Q) := by
  unfold wp_X11_at at h
  obtain ⟨hk0, h⟩ := h
  refine Ctr.ofZ (cc := cX11_at) (nL := 2) (ret := (some .int)) [some (.ref (kadr G k0)), some (.int (iZ l1))] hG.1 (by decide +kernel) rfl (Nat.le_of_ble_eq_true rfl) (Nat.le_of_ble_eq_true rfl) (by simp [lvA, lv_args, Value.category]) ?_
  intro X hX C
  have hz := hG.2
  refine wz_iload_n C rfl rfl dX11_at_0 ?_
  obtain ⟨g1, h⟩ := h
  refine wz_if_lt C (tgt := 16) g1 dX11_at_1 (by decide) (fun c => ?_) (fun c => ?_)
  · replace h := h.1 c
    refine wz_iconst C dX11_at_16 ?_
    exact wz_iret C dX11_at_17 ⟨_, rfl, h⟩
  · replace h := h.2 c
    refine wz_iload_n C rfl rfl dX11_at_4 ?_
    refine wz_aload_n C rfl rfl dX11_at_5 ?_
    refine wz_alen0 C (n := (rlen k0)) (sRc hz hk0) dX11_at_6 ?_
    refine wz_icmp_ge C (tgt := 16) g1 (rlen_rg _) dX11_at_7 (by decide) (fun c => ?_) (fun c => ?_)
    · replace h := h.1 c
      refine wz_iconst C dX11_at_16 ?_
      exact wz_iret C dX11_at_17 ⟨_, rfl, h⟩
    · replace h := h.2 c
      refine wz_aload_n C rfl rfl dX11_at_10 ?_
      refine wz_iload_n C rfl rfl dX11_at_11 ?_
      obtain ⟨g2, h⟩ := h
      refine wz_iaload C l1.toNat (n := (rlen k0)) (sRc hz hk0) (zN g2) (zL g2) (rlen_le _) rfl dX11_at_12 ?_
      refine wz_goto C dX11_at_13 (tgt := 17) (by decide) ?_
      exact wz_iret C dX11_at_17 ⟨_, rfl, h⟩
def rm_X11_put : Room := { frames := 0, cells := 0, slots := 0, locals := 0 }
set_option maxHeartbeats 4000000 in
set_option maxRecDepth 100000 in
theorem k_X11_put (G : KG) (hG : KokC G) (k0 : Nat) (l1 : Int) (l2 : Int) (I : Ii) (J : Jj) (Q : Ii → Jj → Prop) (h : wp_X11_put k0 l1 l2 I J Q) : Ctr G yX11_put wsX11_put rm_X11_put [.ref (kadr G k0), .int (iZ l1), .int (iZ l2)] (I, J) (QsV Q) := by
  unfold wp_X11_put at h
  obtain ⟨hk0, h⟩ := h
  refine Ctr.ofZ (cc := cX11_put) (nL := 3) (ret := none) [some (.ref (kadr G k0)), some (.int (iZ l1)), some (.int (iZ l2))] hG.1 (by decide +kernel) rfl (Nat.le_of_ble_eq_true rfl) (Nat.le_of_ble_eq_true rfl) (by simp [lvA, lv_args, Value.category]) ?_
  intro X hX C
  have hz := hG.2
  refine wz_iload_n C rfl rfl dX11_put_0 ?_
  obtain ⟨g1, h⟩ := h
  refine wz_if_lt C (tgt := 14) g1 dX11_put_1 (by decide) (fun c => ?_) (fun c => ?_)
  · replace h := h.1 c
    exact wz_vret C dX11_put_14 ⟨rfl, h⟩
  · replace h := h.2 c
    refine wz_iload_n C rfl rfl dX11_put_4 ?_
    refine wz_aload_n C rfl rfl dX11_put_5 ?_
    refine wz_alen0 C (n := (rlen k0)) (sRc hz hk0) dX11_put_6 ?_
    refine wz_icmp_ge C (tgt := 14) g1 (rlen_rg _) dX11_put_7 (by decide) (fun c => ?_) (fun c => ?_)
    · replace h := h.1 c
      exact wz_vret C dX11_put_14 ⟨rfl, h⟩
    · replace h := h.2 c
      refine wz_aload_n C rfl rfl dX11_put_10 ?_
      refine wz_iload_n C rfl rfl dX11_put_11 ?_
      refine wz_iload_n C rfl rfl dX11_put_12 ?_
      obtain ⟨g2, h⟩ := h
      refine wd_iastore C l1.toNat (n := (rlen k0)) (sRc hz hk0) (zN g2) (zL g2) (rlen_le _) dX11_put_13 (fun I3 e => ?_)
      replace h := h I3 e
      exact wz_vret C dX11_put_14 ⟨rfl, h⟩
def rm_X11_add : Room := { frames := 0, cells := 0, slots := 0, locals := 0 }
set_option maxHeartbeats 4000000 in
set_option maxRecDepth 100000 in
theorem k_X11_add (G : KG) (hG : KokC G) (k0 : Nat) (l1 : Int) (l2 : Int) (I : Ii) (J : Jj) (Q : Ii → Jj → Prop) (h : wp_X11_add k0 l1 l2 I J Q) : Ctr G yX11_add wsX11_add rm_X11_add [.ref (kadr G k0), .int (iZ l1), .int (iZ l2)] (I, J) (QsV Q) := by
  unfold wp_X11_add at h
  obtain ⟨hk0, h⟩ := h
  refine Ctr.ofZ (cc := cX11_add) (nL := 3) (ret := none) [some (.ref (kadr G k0)), some (.int (iZ l1)), some (.int (iZ l2))] hG.1 (by decide +kernel) rfl (Nat.le_of_ble_eq_true rfl) (Nat.le_of_ble_eq_true rfl) (by simp [lvA, lv_args, Value.category]) ?_
  intro X hX C
  have hz := hG.2
  refine wz_iload_n C rfl rfl dX11_add_0 ?_
  obtain ⟨g1, h⟩ := h
  refine wz_if_lt C (tgt := 17) g1 dX11_add_1 (by decide) (fun c => ?_) (fun c => ?_)
  · replace h := h.1 c
    exact wz_vret C dX11_add_17 ⟨rfl, h⟩
  · replace h := h.2 c
    refine wz_iload_n C rfl rfl dX11_add_4 ?_
    refine wz_aload_n C rfl rfl dX11_add_5 ?_
    refine wz_alen0 C (n := (rlen k0)) (sRc hz hk0) dX11_add_6 ?_
    refine wz_icmp_ge C (tgt := 17) g1 (rlen_rg _) dX11_add_7 (by decide) (fun c => ?_) (fun c => ?_)
    · replace h := h.1 c
      exact wz_vret C dX11_add_17 ⟨rfl, h⟩
    · replace h := h.2 c
      refine wz_aload_n C rfl rfl dX11_add_10 ?_
      refine wz_iload_n C rfl rfl dX11_add_11 ?_
      refine wz_dup2 C rfl rfl dX11_add_12 ?_
      obtain ⟨g2, h⟩ := h
      refine wz_iaload C l1.toNat (n := (rlen k0)) (sRc hz hk0) (zN g2) (zL g2) (rlen_le _) rfl dX11_add_13 ?_
      refine wz_iload_n C rfl rfl dX11_add_14 ?_
      refine wz_iadd C dX11_add_15 ?_
      obtain ⟨g3, h⟩ := h
      refine wd_iastore C l1.toNat (n := (rlen k0)) (sRc hz hk0) (zN g3) (zL g3) (rlen_le _) dX11_add_16 (fun I4 e => ?_)
      replace h := h I4 e
      exact wz_vret C dX11_add_17 ⟨rfl, h⟩
def rm_X11_isIn : Room := { frames := 0, cells := 0, slots := 0, locals := 0 }
set_option maxHeartbeats 4000000 in
set_option maxRecDepth 100000 in
theorem k_X11_isIn (G : KG) (hG : KokC G) (l0 : Int) (l1 : Int) (I : Ii) (J : Jj) (Q : Int → Ii → Jj → Prop) (h : wp_X11_isIn l0 l1 I J Q) : Ctr G yX11_isIn wsX11_isIn rm_X11_isIn [.int (iZ l0), .int (iZ l1)] (I, J) (QsB Q) := by
  unfold wp_X11_isIn at h
  skip
  refine Ctr.ofZ (cc := cX11_isIn) (nL := 2) (ret := (some .boolean)) [some (.int (iZ l0)), some (.int (iZ l1))] hG.1 (by decide +kernel) rfl (Nat.le_of_ble_eq_true rfl) (Nat.le_of_ble_eq_true rfl) (by simp [lvA, lv_args, Value.category]) ?_
  intro X hX C
  have hz := hG.2
  refine wz_iload_n C rfl rfl dX11_isIn_0 ?_
  refine wz_iload_n C rfl rfl dX11_isIn_1 ?_
  refine wd_iushr C dX11_isIn_2 ?_
  refine wz_iconst C dX11_isIn_3 ?_
  refine wd_iand C dX11_isIn_4 ?_
  refine wz_if_eq C (tgt := 12) (toInt_rg _) dX11_isIn_5 (by decide) (fun c => ?_) (fun c => ?_)
  · replace h := h.1 c
    refine wz_iconst C dX11_isIn_12 ?_
    exact wz_zret C (Or.inl rfl) dX11_isIn_13 ⟨_, rfl, (Or.inl rfl), h⟩
  · replace h := h.2 c
    refine wz_iconst C dX11_isIn_8 ?_
    refine wz_goto C dX11_isIn_9 (tgt := 13) (by decide) ?_
    exact wz_zret C (Or.inr rfl) dX11_isIn_13 ⟨_, rfl, (Or.inr rfl), h⟩
def rm_J6_bitCount_0f7a4 : Room := { frames := 0, cells := 0, slots := 0, locals := 0 }
set_option maxHeartbeats 4000000 in
set_option maxRecDepth 100000 in
theorem k_J6_bitCount_0f7a4 (G : KG) (hG : KokC G) (l0 : Int) (I : Ii) (J : Jj) (Q : Int → Ii → Jj → Prop) (h : wp_J6_bitCount_0f7a4 l0 I J Q) : Ctr G yJ6_bitCount_0f7a4 wsJ6_bitCount_0f7a4 rm_J6_bitCount_0f7a4 [.int (iZ l0)] (I, J) (QsI Q) := by
  unfold wp_J6_bitCount_0f7a4 at h
  skip
  refine Ctr.ofZ (cc := cJ6_bitCount_0f7a4) (nL := 1) (ret := (some .int)) [some (.int (iZ l0))] hG.1 (by decide +kernel) rfl (Nat.le_of_ble_eq_true rfl) (Nat.le_of_ble_eq_true rfl) (by simp [lvA, lv_args, Value.category]) ?_
  intro X hX C
  have hz := hG.2
  refine wz_iload_n C rfl rfl dJ6_bitCount_0f7a4_0 ?_
  refine wz_iload_n C rfl rfl dJ6_bitCount_0f7a4_1 ?_
  refine wz_iconst C dJ6_bitCount_0f7a4_2 ?_
  refine wd_iushr C dJ6_bitCount_0f7a4_3 ?_
  refine wz_ldc_w C (n := 1431655765) (v := 1431655765) (by decide) (by decide +kernel) dJ6_bitCount_0f7a4_4 ?_
  refine wd_iand C dJ6_bitCount_0f7a4_7 ?_
  refine wz_isub C dJ6_bitCount_0f7a4_8 ?_
  refine wz_istore_0 C rfl dJ6_bitCount_0f7a4_9 ?_
  refine wz_iload_n C rfl rfl dJ6_bitCount_0f7a4_10 ?_
  refine wz_ldc_w C (n := 858993459) (v := 858993459) (by decide) (by decide +kernel) dJ6_bitCount_0f7a4_11 ?_
  refine wd_iand C dJ6_bitCount_0f7a4_14 ?_
  refine wz_iload_n C rfl rfl dJ6_bitCount_0f7a4_15 ?_
  refine wz_iconst C dJ6_bitCount_0f7a4_16 ?_
  refine wd_iushr C dJ6_bitCount_0f7a4_17 ?_
  refine wz_ldc_w C (n := 858993459) (v := 858993459) (by decide) (by decide +kernel) dJ6_bitCount_0f7a4_18 ?_
  refine wd_iand C dJ6_bitCount_0f7a4_21 ?_
  refine wz_iadd C dJ6_bitCount_0f7a4_22 ?_
  refine wz_istore_0 C rfl dJ6_bitCount_0f7a4_23 ?_
  refine wz_iload_n C rfl rfl dJ6_bitCount_0f7a4_24 ?_
  refine wz_iload_n C rfl rfl dJ6_bitCount_0f7a4_25 ?_
  refine wz_iconst C dJ6_bitCount_0f7a4_26 ?_
  refine wd_iushr C dJ6_bitCount_0f7a4_27 ?_
  refine wz_iadd C dJ6_bitCount_0f7a4_28 ?_
  refine wz_ldc_w C (n := 252645135) (v := 252645135) (by decide) (by decide +kernel) dJ6_bitCount_0f7a4_29 ?_
  refine wd_iand C dJ6_bitCount_0f7a4_32 ?_
  refine wz_istore_0 C rfl dJ6_bitCount_0f7a4_33 ?_
  refine wz_iload_n C rfl rfl dJ6_bitCount_0f7a4_34 ?_
  refine wz_iload_n C rfl rfl dJ6_bitCount_0f7a4_35 ?_
  refine wz_bipush C (by decide) dJ6_bitCount_0f7a4_36 ?_
  refine wd_iushr C dJ6_bitCount_0f7a4_38 ?_
  refine wz_iadd C dJ6_bitCount_0f7a4_39 ?_
  refine wz_istore_0 C rfl dJ6_bitCount_0f7a4_40 ?_
  refine wz_iload_n C rfl rfl dJ6_bitCount_0f7a4_41 ?_
  refine wz_iload_n C rfl rfl dJ6_bitCount_0f7a4_42 ?_
  refine wz_bipush C (by decide) dJ6_bitCount_0f7a4_43 ?_
  refine wd_iushr C dJ6_bitCount_0f7a4_45 ?_
  refine wz_iadd C dJ6_bitCount_0f7a4_46 ?_
  refine wz_istore_0 C rfl dJ6_bitCount_0f7a4_47 ?_
  refine wz_iload_n C rfl rfl dJ6_bitCount_0f7a4_48 ?_
  refine wz_bipush C (by decide) dJ6_bitCount_0f7a4_49 ?_
  refine wd_iand C dJ6_bitCount_0f7a4_51 ?_
  exact wz_iret C dJ6_bitCount_0f7a4_52 ⟨_, rfl, h⟩
def rm_J7_fill_53178 : Room := { frames := 0, cells := 0, slots := 0, locals := 0 }
set_option maxHeartbeats 4000000 in
set_option maxRecDepth 100000 in
theorem lk_J7_fill_53178_5 (G : KG) (hG : KokC G) (X : KX) (hX : KR X = rm_J7_fill_53178) (C : Fr G X cJ7_fill_53178 4 yJ7_fill_53178.cls none wsJ7_fill_53178) (k0 : Nat) (l1 : Int) (hk0 : isRow k0) (Q : Ii → Jj → Prop) : ∀ (n : Nat) (l2 : Int) (l3 : Int) (I : Ii) (J : Jj), L_J7_fill_53178_5 k0 l1 Q n l2 l3 I J → Wz G X 4 (QsU G X (QsV Q)) 0 0 5 [some (.ref (kadr G k0)), some (.int (iZ l1)), some (.int (iZ l2)), some (.int (iZ l3))] [] I J := by
  have hz := hG.2
  intro n
  induction n with
  | zero => intro l2 l3 I J h; exact False.elim h
  | succ n w5 =>
    intro l2 l3 I J h
    have h : Lb_J7_fill_53178_5 k0 l1 Q (L_J7_fill_53178_5 k0 l1 Q n) l2 l3 I J := h
    unfold Lb_J7_fill_53178_5 at h
    generalize L_J7_fill_53178_5 k0 l1 Q n = r5 at h w5
    refine wz_iload_n C rfl rfl dJ7_fill_53178_5 ?_
    refine wz_iload_n C rfl rfl dJ7_fill_53178_6 ?_
    obtain ⟨g1, h⟩ := h
    obtain ⟨g2, h⟩ := h
    refine wz_icmp_ge C (tgt := 20) g1 g2 dJ7_fill_53178_7 (by decide) (fun c => ?_) (fun c => ?_)
    · replace h := h.1 c
      exact wz_vret C dJ7_fill_53178_20 ⟨rfl, h⟩
    · replace h := h.2 c
      refine wz_aload_n C rfl rfl dJ7_fill_53178_10 ?_
      refine wz_iload_n C rfl rfl dJ7_fill_53178_11 ?_
      refine wz_iload_n C rfl rfl dJ7_fill_53178_12 ?_
      obtain ⟨g3, h⟩ := h
      refine wd_iastore C l2.toNat (n := (rlen k0)) (sRc hz hk0) (zN g3) (zL g3) (rlen_le _) dJ7_fill_53178_13 (fun I4 e => ?_)
      replace h := h I4 e
      refine wz_iinc_2 C rfl dJ7_fill_53178_14 ?_
      refine wz_goto C dJ7_fill_53178_17 (tgt := 5) (by decide) ?_
      exact w5 (l2 + 1) l3 I4 J h
set_option maxHeartbeats 4000000 in
set_option maxRecDepth 100000 in
theorem k_J7_fill_53178 (G : KG) (hG : KokC G) (k0 : Nat) (l1 : Int) (I : Ii) (J : Jj) (Q : Ii → Jj → Prop) (h : wp_J7_fill_53178 k0 l1 I J Q) : Ctr G yJ7_fill_53178 wsJ7_fill_53178 rm_J7_fill_53178 [.ref (kadr G k0), .int (iZ l1)] (I, J) (QsV Q) := by
  unfold wp_J7_fill_53178 at h
  obtain ⟨hk0, h⟩ := h
  refine Ctr.ofZ (cc := cJ7_fill_53178) (nL := 4) (ret := none) [some (.ref (kadr G k0)), some (.int (iZ l1)), none, none] hG.1 (by decide +kernel) rfl (Nat.le_of_ble_eq_true rfl) (Nat.le_of_ble_eq_true rfl) (by simp [lvA, lv_args, Value.category]) ?_
  intro X hX C
  have hz := hG.2
  refine wz_iconst C dJ7_fill_53178_0 ?_
  refine wz_istore_2 C rfl dJ7_fill_53178_1 ?_
  refine wz_aload_n C rfl rfl dJ7_fill_53178_2 ?_
  refine wz_alen0 C (n := (rlen k0)) (sRc hz hk0) dJ7_fill_53178_3 ?_
  refine wz_istore_3 C rfl dJ7_fill_53178_4 ?_
  obtain ⟨n, h⟩ := h
  exact lk_J7_fill_53178_5 G hG X hX C k0 l1 hk0 Q n 0 (((rlen k0) : Nat) : Int) I J h
theorem in_X0_triedDebts_X0 : ∀ w ∈ wsX00, w ∈ wsX0_triedDebts := by decide +kernel
theorem in_X0_triedDebts_X4 : ∀ w ∈ wsX40, w ∈ wsX0_triedDebts := by decide +kernel
theorem f_X0_triedDebts_18 : FLk wsX0_triedDebts RX0 18 3 2 := flk 3 2 rfl tyX0_ok nmX0 in_X0_triedDebts_X0 (by decide) (by decide +kernel)
theorem f_X0_triedDebts_39 : FLk wsX0_triedDebts RX0 39 7 0 := flk 7 0 rfl tyX4_ok nmX4 in_X0_triedDebts_X4 (by decide) (by decide +kernel)
theorem f_X0_triedDebts_9 : FLk wsX0_triedDebts RX0 9 3 0 := flk 3 0 rfl tyX0_ok nmX0 in_X0_triedDebts_X0 (by decide) (by decide +kernel)
theorem f_X0_triedDebts_60 : FLk wsX0_triedDebts RX0 60 7 7 := flk 7 7 rfl tyX4_ok nmX4 in_X0_triedDebts_X4 (by decide) (by decide +kernel)
theorem f_X0_triedDebts_67 : FLk wsX0_triedDebts RX0 67 7 1 := flk 7 1 rfl tyX4_ok nmX4 in_X0_triedDebts_X4 (by decide) (by decide +kernel)
def rm_X0_triedDebts : Room := { frames := 1, cells := 0, slots := 0, locals := 23 }
set_option maxHeartbeats 4000000 in
set_option maxRecDepth 100000 in
theorem lk_X0_triedDebts_51 (G : KG) (hG : KokC G) (X : KX) (hX : KR X = rm_X0_triedDebts) (C : Fr G X cX0_triedDebts 4 yX0_triedDebts.cls (some .int) wsX0_triedDebts) (Q : Int → Ii → Jj → Prop) : ∀ (n : Nat) (l2 : Int) (l3 : Int) (I : Ii) (J : Jj), L_X0_triedDebts_51 Q n l2 l3 I J → Wz G X 4 (QsU G X (QsI Q)) 0 0 51 [some (.ref (kadr G 124)), some (.ref (kadr G 113)), some (.int (iZ l2)), some (.int (iZ l3))] [] I J := by
  have hz := hG.2
  intro n
  induction n with
  | zero => intro l2 l3 I J h; exact False.elim h
  | succ n w51 =>
    intro l2 l3 I J h
    have h : Lb_X0_triedDebts_51 Q (L_X0_triedDebts_51 Q n) l2 l3 I J := h
    unfold Lb_X0_triedDebts_51 at h
    generalize L_X0_triedDebts_51 Q n = r51 at h w51
    refine wz_iload_n C rfl rfl dX0_triedDebts_51 ?_
    refine wz_aload_n C rfl rfl dX0_triedDebts_52 ?_
    refine wz_getI C rfl f_X0_triedDebts_67 (sOc hz rfl) dX0_triedDebts_53 ?_
    obtain ⟨g7, h⟩ := h
    obtain ⟨g8, h⟩ := h
    refine wz_icmp_ge C (tgt := 80) g7 g8 dX0_triedDebts_56 (by decide) (fun c => ?_) (fun c => ?_)
    · replace h := h.1 c
      refine wz_iload_n C rfl rfl dX0_triedDebts_80 ?_
      exact wz_iret C dX0_triedDebts_81 ⟨_, rfl, h⟩
    · replace h := h.2 c
      refine wz_iload_n C rfl rfl dX0_triedDebts_59 ?_
      refine wz_aload_n C rfl rfl dX0_triedDebts_60 ?_
      refine wz_aload_n C rfl rfl dX0_triedDebts_61 ?_
      refine wz_getR C (j := 127) f_X0_triedDebts_18 (sOc hz rfl) (by decide) dX0_triedDebts_62 ?_
      refine wz_iload_n C rfl rfl dX0_triedDebts_65 ?_
      refine wm_callSN C (As := [.ref (kadr G 127), .int (iZ l3)]) (st := [.ref (kadr G 113), .int (iZ l2)]) (a' := 0) (b' := 0) (host := "ShareGraph") (k_X11_at G hG 127 l3 I J _ h) 2 gX0_triedDebts_X11_at_n56 (by decide +kernel) (by decide +kernel) (by decide +kernel) rfl (by decide +kernel) (by rw [hX]; exact ⟨Nat.le_of_ble_eq_true rfl, Nat.le_of_ble_eq_true rfl⟩) rfl (Nat.le_of_ble_eq_true rfl) rfl rfl rfl dX0_triedDebts_66 (kk_sI (fun v9 I9 J9 h => ?_))
      refine wm_callV C (o := 113) (As := [.int (iZ v9)]) (st := [.int (iZ l2)]) (a' := 0) (b' := 0) (shK_c hz rfl) rfl (k_X4_debtAt G hG v9 I9 J9 _ h) 1 gX0_triedDebts_X4_debtAt rfl (by decide +kernel) (by rw [hX]; exact ⟨Nat.le_of_ble_eq_true rfl, Nat.le_of_ble_eq_true rfl⟩) rfl (Nat.le_of_ble_eq_true rfl) rfl rfl rfl dX0_triedDebts_69 (kk_sI (fun v10 I10 J10 h => ?_))
      refine wz_iadd C dX0_triedDebts_72 ?_
      refine wz_istore_2 C rfl dX0_triedDebts_73 ?_
      refine wz_iinc_3 C rfl dX0_triedDebts_74 ?_
      refine wz_goto C dX0_triedDebts_77 (tgt := 51) (by decide) ?_
      exact w51 (l2 + v10) (l3 + 1) I10 J10 h
set_option maxHeartbeats 4000000 in
set_option maxRecDepth 100000 in
theorem lk_X0_triedDebts_10 (G : KG) (hG : KokC G) (X : KX) (hX : KR X = rm_X0_triedDebts) (C : Fr G X cX0_triedDebts 4 yX0_triedDebts.cls (some .int) wsX0_triedDebts) (Q : Int → Ii → Jj → Prop) : ∀ (n : Nat) (l2 : Int) (I : Ii) (J : Jj), L_X0_triedDebts_10 Q n l2 I J → Wz G X 4 (QsU G X (QsI Q)) 0 0 10 [some (.ref (kadr G 124)), some (.ref (kadr G 113)), some (.int (iZ l2)), none] [] I J := by
  have hz := hG.2
  intro n
  induction n with
  | zero => intro l2 I J h; exact False.elim h
  | succ n w10 =>
    intro l2 I J h
    have h : Lb_X0_triedDebts_10 Q (L_X0_triedDebts_10 Q n) l2 I J := h
    unfold Lb_X0_triedDebts_10 at h
    generalize L_X0_triedDebts_10 Q n = r10 at h w10
    refine wz_iload_n C rfl rfl dX0_triedDebts_10 ?_
    refine wz_aload_n C rfl rfl dX0_triedDebts_11 ?_
    refine wz_getI C rfl f_X0_triedDebts_39 (sOc hz rfl) dX0_triedDebts_12 ?_
    obtain ⟨g2, h⟩ := h
    obtain ⟨g3, h⟩ := h
    refine wz_icmp_ge C (tgt := 47) g2 g3 dX0_triedDebts_15 (by decide) (fun c => ?_) (fun c => ?_)
    · replace h := h.1 c
      refine wz_iconst C dX0_triedDebts_47 ?_
      refine wz_istore_2 C rfl dX0_triedDebts_48 ?_
      refine wz_iconst C dX0_triedDebts_49 ?_
      refine wz_istore_3 C rfl dX0_triedDebts_50 ?_
      obtain ⟨n, h⟩ := h
      exact lk_X0_triedDebts_51 G hG X hX C Q n 0 0 I J h
    · replace h := h.2 c
      refine wz_aload_n C rfl rfl dX0_triedDebts_18 ?_
      refine wz_getR C (j := 127) f_X0_triedDebts_18 (sOc hz rfl) (by decide) dX0_triedDebts_19 ?_
      refine wz_aload_n C rfl rfl dX0_triedDebts_22 ?_
      refine wz_getR C (j := 125) f_X0_triedDebts_9 (sOc hz rfl) (by decide) dX0_triedDebts_23 ?_
      refine wz_iload_n C rfl rfl dX0_triedDebts_26 ?_
      refine wm_callSN C (As := [.ref (kadr G 125), .int (iZ l2)]) (st := [.ref (kadr G 127)]) (a' := 0) (b' := 0) (host := "ShareGraph") (k_X11_at G hG 125 l2 I J _ h) 2 gX0_triedDebts_X11_at_n56 (by decide +kernel) (by decide +kernel) (by decide +kernel) rfl (by decide +kernel) (by rw [hX]; exact ⟨Nat.le_of_ble_eq_true rfl, Nat.le_of_ble_eq_true rfl⟩) rfl (Nat.le_of_ble_eq_true rfl) rfl rfl rfl dX0_triedDebts_27 (kk_sI (fun v4 I4 J4 h => ?_))
      refine wz_aload_n C rfl rfl dX0_triedDebts_30 ?_
      refine wz_getR C (j := 115) f_X0_triedDebts_60 (sOc hz rfl) (by decide) dX0_triedDebts_31 ?_
      refine wz_iload_n C rfl rfl dX0_triedDebts_34 ?_
      refine wm_callSN C (As := [.ref (kadr G 115), .int (iZ l2)]) (st := [.int (iZ v4), .ref (kadr G 127)]) (a' := 0) (b' := 0) (host := "ShareGraph") (k_X11_at G hG 115 l2 I4 J4 _ h) 2 gX0_triedDebts_X11_at_n56 (by decide +kernel) (by decide +kernel) (by decide +kernel) rfl (by decide +kernel) (by rw [hX]; exact ⟨Nat.le_of_ble_eq_true rfl, Nat.le_of_ble_eq_true rfl⟩) rfl (Nat.le_of_ble_eq_true rfl) rfl rfl rfl dX0_triedDebts_35 (kk_sI (fun v5 I5 J5 h => ?_))
      refine wm_callSN C (As := [.ref (kadr G 127), .int (iZ v4), .int (iZ v5)]) (st := []) (a' := 0) (b' := 0) (host := "ShareGraph") (k_X11_add G hG 127 v4 v5 I5 J5 _ h) 3 gX0_triedDebts_X11_add_n63 (by decide +kernel) (by decide +kernel) (by decide +kernel) rfl (by decide +kernel) (by rw [hX]; exact ⟨Nat.le_of_ble_eq_true rfl, Nat.le_of_ble_eq_true rfl⟩) rfl (Nat.le_of_ble_eq_true rfl) rfl rfl rfl dX0_triedDebts_38 (kk_sV (fun I6 J6 h => ?_))
      refine wz_iinc_2 C rfl dX0_triedDebts_41 ?_
      refine wz_goto C dX0_triedDebts_44 (tgt := 10) (by decide) ?_
      exact w10 (l2 + 1) I6 J6 h
set_option maxHeartbeats 4000000 in
set_option maxRecDepth 100000 in
theorem k_X0_triedDebts (G : KG) (hG : KokC G) (I : Ii) (J : Jj) (Q : Int → Ii → Jj → Prop) (h : wp_X0_triedDebts I J Q) : Ctr G yX0_triedDebts wsX0_triedDebts rm_X0_triedDebts [.ref (kadr G 124), .ref (kadr G 113)] (I, J) (QsI Q) := by
  unfold wp_X0_triedDebts at h
  skip
  refine Ctr.ofZ (cc := cX0_triedDebts) (nL := 4) (ret := (some .int)) [some (.ref (kadr G 124)), some (.ref (kadr G 113)), none, none] hG.1 (by decide +kernel) rfl (Nat.le_of_ble_eq_true rfl) (Nat.le_of_ble_eq_true rfl) (by simp [lvA, lv_args, Value.category]) ?_
  intro X hX C
  have hz := hG.2
  refine wz_aload_n C rfl rfl dX0_triedDebts_0 ?_
  refine wz_getR C (j := 127) f_X0_triedDebts_18 (sOc hz rfl) (by decide) dX0_triedDebts_1 ?_
  refine wz_iconst C dX0_triedDebts_4 ?_
  refine wm_callSo C (As := [.ref (kadr G 127), .int (iZ 0)]) (st := []) (a' := 0) (b' := 0) (k_J7_fill_53178 G hG 127 0 I J _ h) 2 (goodIn_wsS gX0_triedDebts_J7_fill_53178) (by decide +kernel) (by decide +kernel) (by decide +kernel) rfl (by decide +kernel) (by rw [hX]; exact ⟨Nat.le_of_ble_eq_true rfl, Nat.le_of_ble_eq_true rfl⟩) rfl (Nat.le_of_ble_eq_true rfl) rfl rfl rfl dX0_triedDebts_5 (kk_sV (fun I1 J1 h => ?_))
  refine wz_iconst C dX0_triedDebts_8 ?_
  refine wz_istore_2 C rfl dX0_triedDebts_9 ?_
  obtain ⟨n, h⟩ := h
  exact lk_X0_triedDebts_10 G hG X hX C Q n 0 I1 J1 h
theorem in_X0_triedCut_X0 : ∀ w ∈ wsX00, w ∈ wsX0_triedCut := by decide +kernel
theorem in_X0_triedCut_X5 : ∀ w ∈ wsX50, w ∈ wsX0_triedCut := by decide +kernel
theorem f_X0_triedCut_9 : FLk wsX0_triedCut RX0 9 3 0 := flk 3 0 rfl tyX0_ok nmX0 in_X0_triedCut_X0 (by decide) (by decide +kernel)
theorem f_X0_triedCut_74 : FLk wsX0_triedCut RX0 74 8 0 := flk 8 0 rfl tyX5_ok nmX5 in_X0_triedCut_X5 (by decide) (by decide +kernel)
def rm_X0_triedCut : Room := { frames := 1, cells := 0, slots := 0, locals := 21 }
set_option maxHeartbeats 4000000 in
set_option maxRecDepth 100000 in
theorem lk_X0_triedCut_17 (G : KG) (hG : KokC G) (X : KX) (hX : KR X = rm_X0_triedCut) (C : Fr G X cX0_triedCut 6 yX0_triedCut.cls (some .int) wsX0_triedCut) (l1 : Int) (Q : Int → Ii → Jj → Prop) (r5 : Int → Int → Ii → Jj → Prop) (w5 : ∀ (l3 : Int) (l4 : Int) (I : Ii) (J : Jj), r5 l3 l4 I J → Wz G X 6 (QsU G X (QsI Q)) 0 0 5 [some (.ref (kadr G 124)), some (.int (iZ l1)), some (.ref (kadr G 120)), some (.int (iZ l3)), some (.int (iZ l4)), none] [] I J) : ∀ (n : Nat) (l3 : Int) (l4 : Int) (l5 : Int) (I : Ii) (J : Jj), L_X0_triedCut_17 l1 Q r5 n l3 l4 l5 I J → Wz G X 6 (QsU G X (QsI Q)) 0 0 17 [some (.ref (kadr G 124)), some (.int (iZ l1)), some (.ref (kadr G 120)), some (.int (iZ l3)), some (.int (iZ l4)), some (.int (iZ l5))] [] I J := by
  have hz := hG.2
  intro n
  induction n with
  | zero => intro l3 l4 l5 I J h; exact False.elim h
  | succ n w17 =>
    intro l3 l4 l5 I J h
    have h : Lb_X0_triedCut_17 l1 Q r5 (L_X0_triedCut_17 l1 Q r5 n) l3 l4 l5 I J := h
    unfold Lb_X0_triedCut_17 at h
    generalize L_X0_triedCut_17 l1 Q r5 n = r17 at h w17
    refine wz_iload C rfl dX0_triedCut_17 ?_
    refine wz_iload_n C rfl rfl dX0_triedCut_19 ?_
    obtain ⟨g3, h⟩ := h
    obtain ⟨g4, h⟩ := h
    refine wz_icmp_ge C (tgt := 68) g3 g4 dX0_triedCut_20 (by decide) (fun c => ?_) (fun c => ?_)
    · replace h := h.1 c
      refine wz_iinc_4 C rfl dX0_triedCut_68 ?_
      refine wz_goto C dX0_triedCut_71 (tgt := 5) (by decide) ?_
      exact Wz.drop (w5 l3 (l4 + 1) I J h) (And.intro rfl (And.intro rfl (And.intro rfl (And.intro rfl (And.intro rfl trivial)))))
    · replace h := h.2 c
      refine wz_aload_n C rfl rfl dX0_triedCut_23 ?_
      refine wz_getR C (j := 125) f_X0_triedCut_9 (sOc hz rfl) (by decide) dX0_triedCut_24 ?_
      refine wz_iload C rfl dX0_triedCut_27 ?_
      refine wm_callSN C (As := [.ref (kadr G 125), .int (iZ l4)]) (st := []) (a' := 0) (b' := 0) (host := "ShareGraph") (k_X11_at G hG 125 l4 I J _ h) 2 gX0_triedCut_X11_at_n56 (by decide +kernel) (by decide +kernel) (by decide +kernel) rfl (by decide +kernel) (by rw [hX]; exact ⟨Nat.le_of_ble_eq_true rfl, Nat.le_of_ble_eq_true rfl⟩) rfl (Nat.le_of_ble_eq_true rfl) rfl rfl rfl dX0_triedCut_29 (kk_sI (fun v5 I5 J5 h => ?_))
      refine wz_aload_n C rfl rfl dX0_triedCut_32 ?_
      refine wz_getR C (j := 125) f_X0_triedCut_9 (sOc hz rfl) (by decide) dX0_triedCut_33 ?_
      refine wz_iload C rfl dX0_triedCut_36 ?_
      refine wm_callSN C (As := [.ref (kadr G 125), .int (iZ l5)]) (st := [.int (iZ v5)]) (a' := 0) (b' := 0) (host := "ShareGraph") (k_X11_at G hG 125 l5 I5 J5 _ h) 2 gX0_triedCut_X11_at_n56 (by decide +kernel) (by decide +kernel) (by decide +kernel) rfl (by decide +kernel) (by rw [hX]; exact ⟨Nat.le_of_ble_eq_true rfl, Nat.le_of_ble_eq_true rfl⟩) rfl (Nat.le_of_ble_eq_true rfl) rfl rfl rfl dX0_triedCut_38 (kk_sI (fun v6 I6 J6 h => ?_))
      obtain ⟨g7, h⟩ := h
      obtain ⟨g8, h⟩ := h
      refine wz_icmp_eq C (tgt := 62) g7 g8 dX0_triedCut_41 (by decide) (fun c => ?_) (fun c => ?_)
      · replace h := h.1 c
        refine wz_iinc_5 C rfl dX0_triedCut_62 ?_
        refine wz_goto C dX0_triedCut_65 (tgt := 17) (by decide) ?_
        exact w17 l3 l4 (l5 + 1) I6 J6 h
      · replace h := h.2 c
        refine wz_iload_n C rfl rfl dX0_triedCut_44 ?_
        refine wz_aload_n C rfl rfl dX0_triedCut_45 ?_
        refine wz_getR C (j := 121) f_X0_triedCut_74 (sOc hz rfl) (by decide) dX0_triedCut_46 ?_
        refine wz_iload C rfl dX0_triedCut_49 ?_
        refine wz_bipush C (by decide) dX0_triedCut_51 ?_
        refine wz_imul C dX0_triedCut_53 ?_
        refine wz_iload C rfl dX0_triedCut_54 ?_
        refine wz_iadd C dX0_triedCut_56 ?_
        refine wm_callSN C (As := [.ref (kadr G 121), .int (iZ ((l4 * 14) + l5))]) (st := [.int (iZ l3)]) (a' := 0) (b' := 0) (host := "ShareGraph") (k_X11_at G hG 121 ((l4 * 14) + l5) I6 J6 _ h) 2 gX0_triedCut_X11_at_n56 (by decide +kernel) (by decide +kernel) (by decide +kernel) rfl (by decide +kernel) (by rw [hX]; exact ⟨Nat.le_of_ble_eq_true rfl, Nat.le_of_ble_eq_true rfl⟩) rfl (Nat.le_of_ble_eq_true rfl) rfl rfl rfl dX0_triedCut_57 (kk_sI (fun v9 I9 J9 h => ?_))
        refine wz_iadd C dX0_triedCut_60 ?_
        refine wz_istore_3 C rfl dX0_triedCut_61 ?_
        refine wz_iinc_5 C rfl dX0_triedCut_62 ?_
        refine wz_goto C dX0_triedCut_65 (tgt := 17) (by decide) ?_
        exact w17 (l3 + v9) l4 (l5 + 1) I9 J9 h
set_option maxHeartbeats 4000000 in
set_option maxRecDepth 100000 in
theorem lk_X0_triedCut_5 (G : KG) (hG : KokC G) (X : KX) (hX : KR X = rm_X0_triedCut) (C : Fr G X cX0_triedCut 6 yX0_triedCut.cls (some .int) wsX0_triedCut) (l1 : Int) (Q : Int → Ii → Jj → Prop) : ∀ (n : Nat) (l3 : Int) (l4 : Int) (I : Ii) (J : Jj), L_X0_triedCut_5 l1 Q n l3 l4 I J → Wz G X 6 (QsU G X (QsI Q)) 0 0 5 [some (.ref (kadr G 124)), some (.int (iZ l1)), some (.ref (kadr G 120)), some (.int (iZ l3)), some (.int (iZ l4)), none] [] I J := by
  have hz := hG.2
  intro n
  induction n with
  | zero => intro l3 l4 I J h; exact False.elim h
  | succ n w5 =>
    intro l3 l4 I J h
    have h : Lb_X0_triedCut_5 l1 Q (L_X0_triedCut_5 l1 Q n) l3 l4 I J := h
    unfold Lb_X0_triedCut_5 at h
    generalize L_X0_triedCut_5 l1 Q n = r5 at h w5
    refine wz_iload C rfl dX0_triedCut_5 ?_
    refine wz_iload_n C rfl rfl dX0_triedCut_7 ?_
    obtain ⟨g1, h⟩ := h
    obtain ⟨g2, h⟩ := h
    refine wz_icmp_ge C (tgt := 74) g1 g2 dX0_triedCut_8 (by decide) (fun c => ?_) (fun c => ?_)
    · replace h := h.1 c
      refine wz_iload_n C rfl rfl dX0_triedCut_74 ?_
      exact wz_iret C dX0_triedCut_75 ⟨_, rfl, h⟩
    · replace h := h.2 c
      refine wz_iload C rfl dX0_triedCut_11 ?_
      refine wz_iconst C dX0_triedCut_13 ?_
      refine wz_iadd C dX0_triedCut_14 ?_
      refine wz_istore_5 C rfl dX0_triedCut_15 ?_
      obtain ⟨n, h⟩ := h
      exact lk_X0_triedCut_17 G hG X hX C l1 Q r5 w5 n l3 l4 (l4 + 1) I J h
set_option maxHeartbeats 4000000 in
set_option maxRecDepth 100000 in
theorem k_X0_triedCut (G : KG) (hG : KokC G) (l1 : Int) (I : Ii) (J : Jj) (Q : Int → Ii → Jj → Prop) (h : wp_X0_triedCut l1 I J Q) : Ctr G yX0_triedCut wsX0_triedCut rm_X0_triedCut [.ref (kadr G 124), .int (iZ l1), .ref (kadr G 120)] (I, J) (QsI Q) := by
  unfold wp_X0_triedCut at h
  skip
  refine Ctr.ofZ (cc := cX0_triedCut) (nL := 6) (ret := (some .int)) [some (.ref (kadr G 124)), some (.int (iZ l1)), some (.ref (kadr G 120)), none, none, none] hG.1 (by decide +kernel) rfl (Nat.le_of_ble_eq_true rfl) (Nat.le_of_ble_eq_true rfl) (by simp [lvA, lv_args, Value.category]) ?_
  intro X hX C
  have hz := hG.2
  refine wz_iconst C dX0_triedCut_0 ?_
  refine wz_istore_3 C rfl dX0_triedCut_1 ?_
  refine wz_iconst C dX0_triedCut_2 ?_
  refine wz_istore_4 C rfl dX0_triedCut_3 ?_
  obtain ⟨n, h⟩ := h
  exact lk_X0_triedCut_5 G hG X hX C l1 Q n 0 0 I J h
theorem in_X0_highestBefore_X0 : ∀ w ∈ wsX00, w ∈ wsX0_highestBefore := by decide +kernel
theorem f_X0_highestBefore_9 : FLk wsX0_highestBefore RX0 9 3 0 := flk 3 0 rfl tyX0_ok nmX0 in_X0_highestBefore_X0 (by decide) (by decide +kernel)
def rm_X0_highestBefore : Room := { frames := 1, cells := 0, slots := 0, locals := 21 }
set_option maxHeartbeats 4000000 in
set_option maxRecDepth 100000 in
theorem lk_X0_highestBefore_4 (G : KG) (hG : KokC G) (X : KX) (hX : KR X = rm_X0_highestBefore) (C : Fr G X cX0_highestBefore 4 yX0_highestBefore.cls (some .int) wsX0_highestBefore) (l1 : Int) (Q : Int → Ii → Jj → Prop) : ∀ (n : Nat) (l2 : Int) (l3 : Int) (I : Ii) (J : Jj), L_X0_highestBefore_4 l1 Q n l2 l3 I J → Wz G X 4 (QsU G X (QsI Q)) 0 0 4 [some (.ref (kadr G 124)), some (.int (iZ l1)), some (.int (iZ l2)), some (.int (iZ l3))] [] I J := by
  have hz := hG.2
  intro n
  induction n with
  | zero => intro l2 l3 I J h; exact False.elim h
  | succ n w4 =>
    intro l2 l3 I J h
    have h : Lb_X0_highestBefore_4 l1 Q (L_X0_highestBefore_4 l1 Q n) l2 l3 I J := h
    unfold Lb_X0_highestBefore_4 at h
    generalize L_X0_highestBefore_4 l1 Q n = r4 at h w4
    refine wz_iload_n C rfl rfl dX0_highestBefore_4 ?_
    refine wz_iload_n C rfl rfl dX0_highestBefore_5 ?_
    obtain ⟨g1, h⟩ := h
    obtain ⟨g2, h⟩ := h
    refine wz_icmp_ge C (tgt := 28) g1 g2 dX0_highestBefore_6 (by decide) (fun c => ?_) (fun c => ?_)
    · replace h := h.1 c
      refine wz_iload_n C rfl rfl dX0_highestBefore_28 ?_
      exact wz_iret C dX0_highestBefore_29 ⟨_, rfl, h⟩
    · replace h := h.2 c
      refine wz_iload_n C rfl rfl dX0_highestBefore_9 ?_
      refine wz_aload_n C rfl rfl dX0_highestBefore_10 ?_
      refine wz_getR C (j := 125) f_X0_highestBefore_9 (sOc hz rfl) (by decide) dX0_highestBefore_11 ?_
      refine wz_iload_n C rfl rfl dX0_highestBefore_14 ?_
      refine wm_callSN C (As := [.ref (kadr G 125), .int (iZ l3)]) (st := [.int (iZ l2)]) (a' := 0) (b' := 0) (host := "ShareGraph") (k_X11_at G hG 125 l3 I J _ h) 2 gX0_highestBefore_X11_at_n56 (by decide +kernel) (by decide +kernel) (by decide +kernel) rfl (by decide +kernel) (by rw [hX]; exact ⟨Nat.le_of_ble_eq_true rfl, Nat.le_of_ble_eq_true rfl⟩) rfl (Nat.le_of_ble_eq_true rfl) rfl rfl rfl dX0_highestBefore_15 (kk_sI (fun v3 I3 J3 h => ?_))
      refine wd_max C (st := []) h (by decide +kernel) (by decide +kernel) (by decide +kernel) (by decide +kernel) (by rw [hX]; exact ⟨Nat.le_of_ble_eq_true rfl, Nat.le_of_ble_eq_true rfl⟩) dX0_highestBefore_18 (fun v4 I4 J4 h => ?_)
      refine wz_istore_2 C rfl dX0_highestBefore_21 ?_
      refine wz_iinc_3 C rfl dX0_highestBefore_22 ?_
      refine wz_goto C dX0_highestBefore_25 (tgt := 4) (by decide) ?_
      exact w4 v4 (l3 + 1) I4 J4 h
set_option maxHeartbeats 4000000 in
set_option maxRecDepth 100000 in
theorem k_X0_highestBefore (G : KG) (hG : KokC G) (l1 : Int) (I : Ii) (J : Jj) (Q : Int → Ii → Jj → Prop) (h : wp_X0_highestBefore l1 I J Q) : Ctr G yX0_highestBefore wsX0_highestBefore rm_X0_highestBefore [.ref (kadr G 124), .int (iZ l1)] (I, J) (QsI Q) := by
  unfold wp_X0_highestBefore at h
  skip
  refine Ctr.ofZ (cc := cX0_highestBefore) (nL := 4) (ret := (some .int)) [some (.ref (kadr G 124)), some (.int (iZ l1)), none, none] hG.1 (by decide +kernel) rfl (Nat.le_of_ble_eq_true rfl) (Nat.le_of_ble_eq_true rfl) (by simp [lvA, lv_args, Value.category]) ?_
  intro X hX C
  have hz := hG.2
  refine wz_iconst C dX0_highestBefore_0 ?_
  refine wz_istore_2 C rfl dX0_highestBefore_1 ?_
  refine wz_iconst C dX0_highestBefore_2 ?_
  refine wz_istore_3 C rfl dX0_highestBefore_3 ?_
  obtain ⟨n, h⟩ := h
  exact lk_X0_highestBefore_4 G hG X hX C l1 Q n 0 0 I J h
