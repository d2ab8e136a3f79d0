def rmx_X11_requireVertex : Room := { frames := 6, cells := 1, slots := 6, locals := 90 }
set_option maxHeartbeats 4000000 in
set_option maxRecDepth 100000 in
theorem kx_X11_requireVertex (G : KG) (hG : Kok G) (hZ : KZx G) (l1 : Int) (I : Ii) (J : Jj) (Q : Nat → Ii → Jj → Prop) (h : xp_X11_requireVertex l1 I J Q) : CtrX G yX11_requireVertex wsX11_requireVertex rmx_X11_requireVertex [.ref (kadr G 100), .int (iZ l1)] (I, J) (QxE Q) := by
  unfold xp_X11_requireVertex at h
  skip
  refine CtrX.ofZ (cc := cX11_requireVertex) (nL := 2) (ret := none) [some (.ref (kadr G 100)), some (.int (iZ l1))] hG (by decide +kernel) rfl (Nat.le_of_ble_eq_true rfl) (Nat.le_of_ble_eq_true rfl) (by simp [lvA, lv_args, Value.category]) ?_
  intro X hX C hT
  refine wz_aload_n C rfl rfl dX11_requireVertex_0 ?_
  refine wz_iload_n C rfl rfl dX11_requireVertex_1 ?_
  refine wm_callV C (o := 100) (As := [.int (iZ l1)]) (st := []) (a' := 1) (b' := 6) rfl rfl (k_X11_hasVertex G hG l1 I J _ h) 1 gX11_requireVertex_X11_hasVertex rfl (by decide +kernel) (by rw [hX]; exact ⟨Nat.le_of_ble_eq_true rfl, Nat.le_of_ble_eq_true rfl⟩) rfl (Nat.le_of_ble_eq_true rfl) rfl rfl rfl dX11_requireVertex_2 (kk_sB (fun v1 I1 J1 hb1 h => ?_))
  refine wz_if_ne C (tgt := 19) (rgB hb1) dX11_requireVertex_5 (by decide) (fun c => ?_) (fun c => ?_)
  · replace h := h.1 c
    exact False.elim h
  · replace h := h.2 c
    exact wx_throwSW (st := []) C hT hZ 1 (is := 290) (text := "no such vertex") (by decide) (by decide) (by decide +kernel) (by decide +kernel) (by decide +kernel) dX11_requireVertex_8 dX11_requireVertex_11 dX11_requireVertex_12 dX11_requireVertex_15 dX11_requireVertex_18 (by rw [hX]; exact ⟨Nat.le_of_ble_eq_true rfl, Nat.le_of_ble_eq_true rfl⟩) h
def rmx_X11_requirePart : Room := { frames := 6, cells := 1, slots := 6, locals := 90 }
set_option maxHeartbeats 4000000 in
set_option maxRecDepth 100000 in
theorem kx_X11_requirePart (G : KG) (hG : Kok G) (hZ : KZx G) (l1 : Int) (I : Ii) (J : Jj) (Q : Nat → Ii → Jj → Prop) (h : xp_X11_requirePart l1 I J Q) : CtrX G yX11_requirePart wsX11_requirePart rmx_X11_requirePart [.ref (kadr G 100), .int (iZ l1)] (I, J) (QxE Q) := by
  unfold xp_X11_requirePart at h
  skip
  refine CtrX.ofZ (cc := cX11_requirePart) (nL := 2) (ret := none) [some (.ref (kadr G 100)), some (.int (iZ l1))] hG (by decide +kernel) rfl (Nat.le_of_ble_eq_true rfl) (Nat.le_of_ble_eq_true rfl) (by simp [lvA, lv_args, Value.category]) ?_
  intro X hX C hT
  refine wz_aload_n C rfl rfl dX11_requirePart_0 ?_
  refine wz_iload_n C rfl rfl dX11_requirePart_1 ?_
  refine wm_callV C (o := 100) (As := [.int (iZ l1)]) (st := []) (a' := 1) (b' := 6) rfl rfl (k_X11_hasPart G hG l1 I J _ h) 1 gX11_requirePart_X11_hasPart rfl (by decide +kernel) (by rw [hX]; exact ⟨Nat.le_of_ble_eq_true rfl, Nat.le_of_ble_eq_true rfl⟩) rfl (Nat.le_of_ble_eq_true rfl) rfl rfl rfl dX11_requirePart_2 (kk_sB (fun v1 I1 J1 hb1 h => ?_))
  refine wz_if_ne C (tgt := 19) (rgB hb1) dX11_requirePart_5 (by decide) (fun c => ?_) (fun c => ?_)
  · replace h := h.1 c
    exact False.elim h
  · replace h := h.2 c
    exact wx_throwSW (st := []) C hT hZ 1 (is := 293) (text := "no such part") (by decide) (by decide) (by decide +kernel) (by decide +kernel) (by decide +kernel) dX11_requirePart_8 dX11_requirePart_11 dX11_requirePart_12 dX11_requirePart_15 dX11_requirePart_18 (by rw [hX]; exact ⟨Nat.le_of_ble_eq_true rfl, Nat.le_of_ble_eq_true rfl⟩) h
def rmx_X11_requireGroup : Room := { frames := 6, cells := 1, slots := 6, locals := 90 }
set_option maxHeartbeats 4000000 in
set_option maxRecDepth 100000 in
theorem kx_X11_requireGroup (G : KG) (hG : Kok G) (hZ : KZx G) (l1 : Int) (I : Ii) (J : Jj) (Q : Nat → Ii → Jj → Prop) (h : xp_X11_requireGroup l1 I J Q) : CtrX G yX11_requireGroup wsX11_requireGroup rmx_X11_requireGroup [.ref (kadr G 100), .int (iZ l1)] (I, J) (QxE Q) := by
  unfold xp_X11_requireGroup at h
  skip
  refine CtrX.ofZ (cc := cX11_requireGroup) (nL := 2) (ret := none) [some (.ref (kadr G 100)), some (.int (iZ l1))] hG (by decide +kernel) rfl (Nat.le_of_ble_eq_true rfl) (Nat.le_of_ble_eq_true rfl) (by simp [lvA, lv_args, Value.category]) ?_
  intro X hX C hT
  refine wz_aload_n C rfl rfl dX11_requireGroup_0 ?_
  refine wz_iload_n C rfl rfl dX11_requireGroup_1 ?_
  refine wm_callV C (o := 100) (As := [.int (iZ l1)]) (st := []) (a' := 1) (b' := 6) rfl rfl (k_X11_hasGroup G hG l1 I J _ h) 1 gX11_requireGroup_X11_hasGroup rfl (by decide +kernel) (by rw [hX]; exact ⟨Nat.le_of_ble_eq_true rfl, Nat.le_of_ble_eq_true rfl⟩) rfl (Nat.le_of_ble_eq_true rfl) rfl rfl rfl dX11_requireGroup_2 (kk_sB (fun v1 I1 J1 hb1 h => ?_))
  refine wz_if_ne C (tgt := 19) (rgB hb1) dX11_requireGroup_5 (by decide) (fun c => ?_) (fun c => ?_)
  · replace h := h.1 c
    exact False.elim h
  · replace h := h.2 c
    exact wx_throwSW (st := []) C hT hZ 1 (is := 295) (text := "no such group") (by decide) (by decide) (by decide +kernel) (by decide +kernel) (by decide +kernel) dX11_requireGroup_8 dX11_requireGroup_11 dX11_requireGroup_12 dX11_requireGroup_15 dX11_requireGroup_18 (by rw [hX]; exact ⟨Nat.le_of_ble_eq_true rfl, Nat.le_of_ble_eq_true rfl⟩) h
def rmx_X11_requireTriedSteps : Room := { frames := 6, cells := 1, slots := 6, locals := 90 }
set_option maxHeartbeats 4000000 in
set_option maxRecDepth 100000 in
theorem bkx_X11_requireTriedSteps_11 (G : KG) (hG : Kok G) (hZ : KZx G) (X : KX) (hX : KR X = rmx_X11_requireTriedSteps) (C : Fr G X cX11_requireTriedSteps 2 yX11_requireTriedSteps.cls none wsX11_requireTriedSteps) (hT : noTab X) (l1 : Int) (Q : Nat → Ii → Jj → Prop)  (I : Ii) (J : Jj) (h : BX_X11_requireTriedSteps_11 l1 Q  I J) : Wz G X 2 (QsX G X (QxE Q)) 1 6 11 [none, none] [] I J := by
  unfold BX_X11_requireTriedSteps_11 at h
  exact wx_throwSW (st := []) C hT hZ 0 (is := 437) (text := "0 to 200 steps can be tried") (by decide) (by decide) (by decide +kernel) (by decide +kernel) (by decide +kernel) dX11_requireTriedSteps_11 dX11_requireTriedSteps_14 dX11_requireTriedSteps_15 dX11_requireTriedSteps_18 dX11_requireTriedSteps_21 (by rw [hX]; exact ⟨Nat.le_of_ble_eq_true rfl, Nat.le_of_ble_eq_true rfl⟩) h
set_option maxHeartbeats 4000000 in
set_option maxRecDepth 100000 in
theorem kx_X11_requireTriedSteps (G : KG) (hG : Kok G) (hZ : KZx G) (l1 : Int) (I : Ii) (J : Jj) (Q : Nat → Ii → Jj → Prop) (h : xp_X11_requireTriedSteps l1 I J Q) : CtrX G yX11_requireTriedSteps wsX11_requireTriedSteps rmx_X11_requireTriedSteps [.ref (kadr G 100), .int (iZ l1)] (I, J) (QxE Q) := by
  unfold xp_X11_requireTriedSteps at h
  skip
  refine CtrX.ofZ (cc := cX11_requireTriedSteps) (nL := 2) (ret := none) [some (.ref (kadr G 100)), some (.int (iZ l1))] hG (by decide +kernel) rfl (Nat.le_of_ble_eq_true rfl) (Nat.le_of_ble_eq_true rfl) (by simp [lvA, lv_args, Value.category]) ?_
  intro X hX C hT
  refine wz_iload_n C rfl rfl dX11_requireTriedSteps_0 ?_
  obtain ⟨g1, h⟩ := h
  refine wz_if_lt C (tgt := 11) g1 dX11_requireTriedSteps_1 (by decide) (fun c => ?_) (fun c => ?_)
  · replace h := h.1 c
    exact Wz.drop (bkx_X11_requireTriedSteps_11 G hG hZ X hX C hT l1 Q I J h) trivial
  · replace h := h.2 c
    refine wz_iload_n C rfl rfl dX11_requireTriedSteps_4 ?_
    refine wz_sipush C (by decide) dX11_requireTriedSteps_5 ?_
    refine wz_icmp_le C (tgt := 22) g1 (by decide) dX11_requireTriedSteps_8 (by decide) (fun c => ?_) (fun c => ?_)
    · replace h := h.1 c
      exact False.elim h
    · replace h := h.2 c
      exact Wz.drop (bkx_X11_requireTriedSteps_11 G hG hZ X hX C hT l1 Q I J h) trivial
def rmx_X11_feed : Room := { frames := 6, cells := 1, slots := 6, locals := 90 }
set_option maxHeartbeats 4000000 in
set_option maxRecDepth 100000 in
theorem kx_X11_feed (G : KG) (hG : Kok G) (hZ : KZx G) (l1 : Int) (l2 : Int) (l3 : Int) (l4 : Int) (l5 : Int) (I : Ii) (J : Jj) (Q : Nat → Ii → Jj → Prop) (h : xp_X11_feed l1 l2 l3 l4 l5 I J Q) : CtrX G yX11_feed wsX11_feed rmx_X11_feed [.ref (kadr G 100), .int (iZ l1), .int (iZ l2), .int (iZ l3), .int (iZ l4), .int (iZ l5)] (I, J) (QxE Q) := by
  unfold xp_X11_feed at h
  skip
  refine CtrX.ofZ (cc := cX11_feed) (nL := 6) (ret := (some .int)) [some (.ref (kadr G 100)), some (.int (iZ l1)), some (.int (iZ l2)), some (.int (iZ l3)), some (.int (iZ l4)), some (.int (iZ l5))] hG (by decide +kernel) rfl (Nat.le_of_ble_eq_true rfl) (Nat.le_of_ble_eq_true rfl) (by simp [lvA, lv_args, Value.category]) ?_
  intro X hX C hT
  refine wz_aload_n C rfl rfl dX11_feed_0 ?_
  refine wz_getR C (j := 101) f_X11_feed_12 rfl dX11_feed_1 ?_
  refine wz_getI C rfl f_X11_feed_102 rfl dX11_feed_4 ?_
  refine wz_sipush C (by decide) dX11_feed_7 ?_
  obtain ⟨g1, h⟩ := h
  refine wz_icmp_le C (tgt := 23) g1 (by decide) dX11_feed_10 (by decide) (fun c => ?_) (fun c => ?_)
  · replace h := h.1 c
    refine wz_aload_n C rfl rfl dX11_feed_23 ?_
    refine wz_getR C (j := 101) f_X11_feed_12 rfl dX11_feed_24 ?_
    refine wz_iload_n C rfl rfl dX11_feed_27 ?_
    refine wm_callV C (o := 101) (As := [.int (iZ l1)]) (st := []) (a' := 1) (b' := 6) rfl rfl (k_X10_append G hG l1 I J _ h) 1 gX11_feed_X10_append rfl (by decide +kernel) (by rw [hX]; exact ⟨Nat.le_of_ble_eq_true rfl, Nat.le_of_ble_eq_true rfl⟩) rfl (Nat.le_of_ble_eq_true rfl) rfl rfl rfl dX11_feed_28 (kk_sV (fun I2 J2 h => ?_))
    refine wz_aload_n C rfl rfl dX11_feed_31 ?_
    refine wz_getR C (j := 101) f_X11_feed_12 rfl dX11_feed_32 ?_
    refine wz_iload_n C rfl rfl dX11_feed_35 ?_
    refine wm_callV C (o := 101) (As := [.int (iZ l2)]) (st := []) (a' := 1) (b' := 6) rfl rfl (k_X10_append G hG l2 I2 J2 _ h) 1 gX11_feed_X10_append rfl (by decide +kernel) (by rw [hX]; exact ⟨Nat.le_of_ble_eq_true rfl, Nat.le_of_ble_eq_true rfl⟩) rfl (Nat.le_of_ble_eq_true rfl) rfl rfl rfl dX11_feed_36 (kk_sV (fun I3 J3 h => ?_))
    refine wz_aload_n C rfl rfl dX11_feed_39 ?_
    refine wz_getR C (j := 101) f_X11_feed_12 rfl dX11_feed_40 ?_
    refine wz_iload_n C rfl rfl dX11_feed_43 ?_
    refine wm_callV C (o := 101) (As := [.int (iZ l3)]) (st := []) (a' := 1) (b' := 6) rfl rfl (k_X10_append G hG l3 I3 J3 _ h) 1 gX11_feed_X10_append rfl (by decide +kernel) (by rw [hX]; exact ⟨Nat.le_of_ble_eq_true rfl, Nat.le_of_ble_eq_true rfl⟩) rfl (Nat.le_of_ble_eq_true rfl) rfl rfl rfl dX11_feed_44 (kk_sV (fun I4 J4 h => ?_))
    refine wz_aload_n C rfl rfl dX11_feed_47 ?_
    refine wz_getR C (j := 101) f_X11_feed_12 rfl dX11_feed_48 ?_
    refine wz_iload C rfl dX11_feed_51 ?_
    refine wm_callV C (o := 101) (As := [.int (iZ l4)]) (st := []) (a' := 1) (b' := 6) rfl rfl (k_X10_append G hG l4 I4 J4 _ h) 1 gX11_feed_X10_append rfl (by decide +kernel) (by rw [hX]; exact ⟨Nat.le_of_ble_eq_true rfl, Nat.le_of_ble_eq_true rfl⟩) rfl (Nat.le_of_ble_eq_true rfl) rfl rfl rfl dX11_feed_53 (kk_sV (fun I5 J5 h => ?_))
    refine wz_aload_n C rfl rfl dX11_feed_56 ?_
    refine wz_getR C (j := 101) f_X11_feed_12 rfl dX11_feed_57 ?_
    refine wz_iload C rfl dX11_feed_60 ?_
    refine wm_callV C (o := 101) (As := [.int (iZ l5)]) (st := []) (a' := 1) (b' := 6) rfl rfl (k_X10_append G hG l5 I5 J5 _ h) 1 gX11_feed_X10_append rfl (by decide +kernel) (by rw [hX]; exact ⟨Nat.le_of_ble_eq_true rfl, Nat.le_of_ble_eq_true rfl⟩) rfl (Nat.le_of_ble_eq_true rfl) rfl rfl rfl dX11_feed_62 (kk_sV (fun I6 J6 h => ?_))
    refine wz_aload_n C rfl rfl dX11_feed_65 ?_
    refine wz_getR C (j := 101) f_X11_feed_12 rfl dX11_feed_66 ?_
    refine wz_getI C rfl f_X11_feed_102 rfl dX11_feed_69 ?_
    exact False.elim h
  · replace h := h.2 c
    exact wx_throwS (st := []) C hT hZ 2 (is := 108) (text := "the buffer would exceed 800 bytes") (by decide) (by decide) (by decide +kernel) (by decide +kernel) (by decide +kernel) dX11_feed_13 dX11_feed_16 dX11_feed_17 dX11_feed_19 dX11_feed_22 (by rw [hX]; exact ⟨Nat.le_of_ble_eq_true rfl, Nat.le_of_ble_eq_true rfl⟩) h
def rmx_X11_truncate : Room := { frames := 6, cells := 1, slots := 6, locals := 90 }
set_option maxHeartbeats 4000000 in
set_option maxRecDepth 100000 in
theorem bkx_X11_truncate_15 (G : KG) (hG : Kok G) (hZ : KZx G) (X : KX) (hX : KR X = rmx_X11_truncate) (C : Fr G X cX11_truncate 2 yX11_truncate.cls (some .int) wsX11_truncate) (hT : noTab X) (l1 : Int) (Q : Nat → Ii → Jj → Prop)  (I : Ii) (J : Jj) (h : BX_X11_truncate_15 l1 Q  I J) : Wz G X 2 (QsX G X (QxE Q)) 1 6 15 [none, none] [] I J := by
  unfold BX_X11_truncate_15 at h
  exact wx_throwS (st := []) C hT hZ 0 (is := 119) (text := "the buffer cannot have this length") (by decide) (by decide) (by decide +kernel) (by decide +kernel) (by decide +kernel) dX11_truncate_15 dX11_truncate_18 dX11_truncate_19 dX11_truncate_21 dX11_truncate_24 (by rw [hX]; exact ⟨Nat.le_of_ble_eq_true rfl, Nat.le_of_ble_eq_true rfl⟩) h
set_option maxHeartbeats 4000000 in
set_option maxRecDepth 100000 in
theorem kx_X11_truncate (G : KG) (hG : Kok G) (hZ : KZx G) (l1 : Int) (I : Ii) (J : Jj) (Q : Nat → Ii → Jj → Prop) (h : xp_X11_truncate l1 I J Q) : CtrX G yX11_truncate wsX11_truncate rmx_X11_truncate [.ref (kadr G 100), .int (iZ l1)] (I, J) (QxE Q) := by
  unfold xp_X11_truncate at h
  skip
  refine CtrX.ofZ (cc := cX11_truncate) (nL := 2) (ret := (some .int)) [some (.ref (kadr G 100)), some (.int (iZ l1))] hG (by decide +kernel) rfl (Nat.le_of_ble_eq_true rfl) (Nat.le_of_ble_eq_true rfl) (by simp [lvA, lv_args, Value.category]) ?_
  intro X hX C hT
  refine wz_iload_n C rfl rfl dX11_truncate_0 ?_
  obtain ⟨g1, h⟩ := h
  refine wz_if_lt C (tgt := 15) g1 dX11_truncate_1 (by decide) (fun c => ?_) (fun c => ?_)
  · replace h := h.1 c
    exact Wz.drop (bkx_X11_truncate_15 G hG hZ X hX C hT l1 Q I J h) trivial
  · replace h := h.2 c
    refine wz_iload_n C rfl rfl dX11_truncate_4 ?_
    refine wz_aload_n C rfl rfl dX11_truncate_5 ?_
    refine wz_getR C (j := 101) f_X11_truncate_12 rfl dX11_truncate_6 ?_
    refine wz_getI C rfl f_X11_truncate_102 rfl dX11_truncate_9 ?_
    obtain ⟨g2, h⟩ := h
    refine wz_icmp_le C (tgt := 25) g1 g2 dX11_truncate_12 (by decide) (fun c => ?_) (fun c => ?_)
    · replace h := h.1 c
      refine wz_aload_n C rfl rfl dX11_truncate_25 ?_
      refine wz_getR C (j := 101) f_X11_truncate_12 rfl dX11_truncate_26 ?_
      refine wz_iload_n C rfl rfl dX11_truncate_29 ?_
      refine wd_putI C f_X11_truncate_102 fp_X10_1 rfl dX11_truncate_30 (fun I3 e => ?_)
      replace h := h I3 e
      refine wz_iload_n C rfl rfl dX11_truncate_33 ?_
      exact False.elim h
    · replace h := h.2 c
      exact Wz.drop (bkx_X11_truncate_15 G hG hZ X hX C hT l1 Q I J h) trivial
def rmx_X11_error : Room := { frames := 6, cells := 1, slots := 6, locals := 90 }
set_option maxHeartbeats 4000000 in
set_option maxRecDepth 100000 in
theorem kx_X11_error (G : KG) (hG : Kok G) (hZ : KZx G) (l1 : Int) (I : Ii) (J : Jj) (Q : Nat → Ii → Jj → Prop) (h : xp_X11_error l1 I J Q) : CtrX G yX11_error wsX11_error rmx_X11_error [.ref (kadr G 100), .int (iZ l1)] (I, J) (QxE Q) := by
  unfold xp_X11_error at h
  skip
  refine CtrX.ofZ (cc := cX11_error) (nL := 2) (ret := (some .int)) [some (.ref (kadr G 100)), some (.int (iZ l1))] hG (by decide +kernel) rfl (Nat.le_of_ble_eq_true rfl) (Nat.le_of_ble_eq_true rfl) (by simp [lvA, lv_args, Value.category]) ?_
  intro X hX C hT
  refine wz_iload_n C rfl rfl dX11_error_0 ?_
  obtain ⟨g1, h⟩ := h
  have c : (l1 < 0 ∨ 2 < l1) ∨ l1 = 0 ∨ l1 = 1 ∨ l1 = 2 := by omega
  rcases c with c | c | c | c
  · replace h := h.1 c
    refine wz_tableOut C (tgt := 52) g1 dX11_error_1 c (by decide) ?_
    exact wx_throwSW (st := []) C hT hZ 0 (is := 257) (text := "an error has the numbers 0 to 2") (by decide) (by decide) (by decide +kernel) (by decide +kernel) (by decide +kernel) dX11_error_52 dX11_error_55 dX11_error_56 dX11_error_59 dX11_error_62 (by rw [hX]; exact ⟨Nat.le_of_ble_eq_true rfl, Nat.le_of_ble_eq_true rfl⟩) h
  · replace h := h.2.1 c
    refine wz_tableIn C (v := 0) (tgt := 28) c dX11_error_1 (by decide) rfl (by decide) ?_
    refine wz_aload_n C rfl rfl dX11_error_28 ?_
    refine wz_getR C (j := 101) f_X11_error_12 rfl dX11_error_29 ?_
    refine wz_getI C rfl f_X11_error_248 rfl dX11_error_32 ?_
    exact False.elim h
  · replace h := h.2.2.1 c
    refine wz_tableIn C (v := 1) (tgt := 36) c dX11_error_1 (by decide) rfl (by decide) ?_
    refine wz_aload_n C rfl rfl dX11_error_36 ?_
    refine wz_getR C (j := 101) f_X11_error_12 rfl dX11_error_37 ?_
    refine wz_getI C rfl f_X11_error_251 rfl dX11_error_40 ?_
    exact False.elim h
  · replace h := h.2.2.2 c
    refine wz_tableIn C (v := 2) (tgt := 44) c dX11_error_1 (by decide) rfl (by decide) ?_
    refine wz_aload_n C rfl rfl dX11_error_44 ?_
    refine wz_getR C (j := 101) f_X11_error_12 rfl dX11_error_45 ?_
    refine wz_getI C rfl f_X11_error_254 rfl dX11_error_48 ?_
    exact False.elim h
def rmx_X11_setting : Room := { frames := 6, cells := 1, slots := 6, locals := 92 }
set_option maxHeartbeats 4000000 in
set_option maxRecDepth 100000 in
theorem kx_X11_setting (G : KG) (hG : Kok G) (hZ : KZx G) (l1 : Int) (I : Ii) (J : Jj) (Q : Nat → Ii → Jj → Prop) (h : xp_X11_setting l1 I J Q) : CtrX G yX11_setting wsX11_setting rmx_X11_setting [.ref (kadr G 100), .int (iZ l1)] (I, J) (QxE Q) := by
  unfold xp_X11_setting at h
  skip
  refine CtrX.ofZ (cc := cX11_setting) (nL := 2) (ret := (some .int)) [some (.ref (kadr G 100)), some (.int (iZ l1))] hG (by decide +kernel) rfl (Nat.le_of_ble_eq_true rfl) (Nat.le_of_ble_eq_true rfl) (by simp [lvA, lv_args, Value.category]) ?_
  intro X hX C hT
  refine wz_iload_n C rfl rfl dX11_setting_0 ?_
  obtain ⟨g1, h⟩ := h
  have c : (l1 < 0 ∨ 11 < l1) ∨ l1 = 0 ∨ l1 = 1 ∨ l1 = 2 ∨ l1 = 3 ∨ l1 = 4 ∨ l1 = 5 ∨ l1 = 6 ∨ l1 = 7 ∨ l1 = 8 ∨ l1 = 9 ∨ l1 = 10 ∨ l1 = 11 := by omega
  rcases c with c | c | c | c | c | c | c | c | c | c | c | c | c
  · replace h := h.1 c
    refine wz_tableOut C (tgt := 160) g1 dX11_setting_1 c (by decide) ?_
    exact wx_throwSW (st := []) C hT hZ 0 (is := 286) (text := "the settings are 0 to 11") (by decide) (by decide) (by decide +kernel) (by decide +kernel) (by decide +kernel) dX11_setting_160 dX11_setting_163 dX11_setting_164 dX11_setting_167 dX11_setting_170 (by rw [hX]; exact ⟨Nat.le_of_ble_eq_true rfl, Nat.le_of_ble_eq_true rfl⟩) h
  · replace h := h.2.1 c
    refine wz_tableIn C (v := 0) (tgt := 64) c dX11_setting_1 (by decide) rfl (by decide) ?_
    refine wz_aload_n C rfl rfl dX11_setting_64 ?_
    refine wz_getR C (j := 200) f_X11_setting_40 rfl dX11_setting_65 ?_
    refine wz_getI C rfl f_X11_setting_141 rfl dX11_setting_68 ?_
    exact False.elim h
  · replace h := h.2.2.1 c
    refine wz_tableIn C (v := 1) (tgt := 72) c dX11_setting_1 (by decide) rfl (by decide) ?_
    refine wz_aload_n C rfl rfl dX11_setting_72 ?_
    refine wz_getR C (j := 200) f_X11_setting_40 rfl dX11_setting_73 ?_
    refine wz_getI C rfl f_X11_setting_259 rfl dX11_setting_76 ?_
    exact False.elim h
  · replace h := h.2.2.2.1 c
    refine wz_tableIn C (v := 2) (tgt := 80) c dX11_setting_1 (by decide) rfl (by decide) ?_
    refine wz_aload_n C rfl rfl dX11_setting_80 ?_
    refine wz_getR C (j := 200) f_X11_setting_40 rfl dX11_setting_81 ?_
    refine wz_getI C rfl f_X11_setting_262 rfl dX11_setting_84 ?_
    exact False.elim h
  · replace h := h.2.2.2.2.1 c
    refine wz_tableIn C (v := 3) (tgt := 88) c dX11_setting_1 (by decide) rfl (by decide) ?_
    refine wz_aload_n C rfl rfl dX11_setting_88 ?_
    refine wz_getR C (j := 200) f_X11_setting_40 rfl dX11_setting_89 ?_
    refine wz_getI C rfl f_X11_setting_265 rfl dX11_setting_92 ?_
    exact False.elim h
  · replace h := h.2.2.2.2.2.1 c
    refine wz_tableIn C (v := 4) (tgt := 96) c dX11_setting_1 (by decide) rfl (by decide) ?_
    refine wz_aload_n C rfl rfl dX11_setting_96 ?_
    refine wz_getR C (j := 300) f_X11_setting_53 rfl dX11_setting_97 ?_
    refine wz_getI C rfl f_X11_setting_245 rfl dX11_setting_100 ?_
    exact False.elim h
  · replace h := h.2.2.2.2.2.2.1 c
    refine wz_tableIn C (v := 5) (tgt := 104) c dX11_setting_1 (by decide) rfl (by decide) ?_
    refine wz_aload_n C rfl rfl dX11_setting_104 ?_
    refine wz_getR C (j := 200) f_X11_setting_40 rfl dX11_setting_105 ?_
    refine wm_callV C (o := 200) (As := []) (st := []) (a' := 1) (b' := 6) rfl rfl (k_X2_limit G hG 200 I J _ h) 0 gX11_setting_X2_limit rfl (by decide +kernel) (by rw [hX]; exact ⟨Nat.le_of_ble_eq_true rfl, Nat.le_of_ble_eq_true rfl⟩) rfl (Nat.le_of_ble_eq_true rfl) rfl rfl rfl dX11_setting_108 (kk_sI (fun v2 I2 J2 h => ?_))
    exact False.elim h
  · replace h := h.2.2.2.2.2.2.2.1 c
    refine wz_tableIn C (v := 6) (tgt := 112) c dX11_setting_1 (by decide) rfl (by decide) ?_
    refine wz_aload_n C rfl rfl dX11_setting_112 ?_
    refine wz_getR C (j := 200) f_X11_setting_40 rfl dX11_setting_113 ?_
    refine wz_getI C rfl f_X11_setting_271 rfl dX11_setting_116 ?_
    exact False.elim h
  · replace h := h.2.2.2.2.2.2.2.2.1 c
    refine wz_tableIn C (v := 7) (tgt := 120) c dX11_setting_1 (by decide) rfl (by decide) ?_
    refine wz_aload_n C rfl rfl dX11_setting_120 ?_
    refine wz_getR C (j := 200) f_X11_setting_40 rfl dX11_setting_121 ?_
    refine wz_getI C rfl f_X11_setting_274 rfl dX11_setting_124 ?_
    exact False.elim h
  · replace h := h.2.2.2.2.2.2.2.2.2.1 c
    refine wz_tableIn C (v := 8) (tgt := 128) c dX11_setting_1 (by decide) rfl (by decide) ?_
    refine wz_aload_n C rfl rfl dX11_setting_128 ?_
    refine wz_getR C (j := 300) f_X11_setting_53 rfl dX11_setting_129 ?_
    refine wz_getI C rfl f_X11_setting_192 rfl dX11_setting_132 ?_
    exact False.elim h
  · replace h := h.2.2.2.2.2.2.2.2.2.2.1 c
    refine wz_tableIn C (v := 9) (tgt := 136) c dX11_setting_1 (by decide) rfl (by decide) ?_
    refine wz_aload_n C rfl rfl dX11_setting_136 ?_
    refine wz_getR C (j := 300) f_X11_setting_53 rfl dX11_setting_137 ?_
    refine wm_callV C (o := 300) (As := []) (st := []) (a' := 1) (b' := 6) rfl rfl (k_X8_groupCount G hG 300 I J _ h) 0 gX11_setting_X8_groupCount rfl (by decide +kernel) (by rw [hX]; exact ⟨Nat.le_of_ble_eq_true rfl, Nat.le_of_ble_eq_true rfl⟩) rfl (Nat.le_of_ble_eq_true rfl) rfl rfl rfl dX11_setting_140 (kk_sI (fun v3 I3 J3 h => ?_))
    exact False.elim h
  · replace h := h.2.2.2.2.2.2.2.2.2.2.2.1 c
    refine wz_tableIn C (v := 10) (tgt := 144) c dX11_setting_1 (by decide) rfl (by decide) ?_
    refine wz_aload_n C rfl rfl dX11_setting_144 ?_
    refine wz_getR C (j := 111) f_X11_setting_66 rfl dX11_setting_145 ?_
    refine wz_getI C rfl f_X11_setting_280 rfl dX11_setting_148 ?_
    exact False.elim h
  · replace h := h.2.2.2.2.2.2.2.2.2.2.2.2 c
    refine wz_tableIn C (v := 11) (tgt := 152) c dX11_setting_1 (by decide) rfl (by decide) ?_
    refine wz_aload_n C rfl rfl dX11_setting_152 ?_
    refine wz_getR C (j := 200) f_X11_setting_40 rfl dX11_setting_153 ?_
    refine wm_callV C (o := 200) (As := []) (st := []) (a' := 1) (b' := 6) rfl rfl (k_X2_largestPiece G hG 200 I J _ h) 0 gX11_setting_X2_largestPiece rfl (by decide +kernel) (by rw [hX]; exact ⟨Nat.le_of_ble_eq_true rfl, Nat.le_of_ble_eq_true rfl⟩) rfl (Nat.le_of_ble_eq_true rfl) rfl rfl rfl dX11_setting_156 (kk_sI (fun v4 I4 J4 h => ?_))
    exact False.elim h
def rmx_X11_weight : Room := { frames := 7, cells := 1, slots := 6, locals := 111 }
set_option maxHeartbeats 4000000 in
set_option maxRecDepth 100000 in
theorem kx_X11_weight (G : KG) (hG : Kok G) (hZ : KZx G) (l1 : Int) (I : Ii) (J : Jj) (Q : Nat → Ii → Jj → Prop) (h : xp_X11_weight l1 I J Q) : CtrX G yX11_weight wsX11_weight rmx_X11_weight [.ref (kadr G 100), .int (iZ l1)] (I, J) (QxE Q) := by
  unfold xp_X11_weight at h
  skip
  refine CtrX.ofZ (cc := cX11_weight) (nL := 2) (ret := (some .int)) [some (.ref (kadr G 100)), some (.int (iZ l1))] hG (by decide +kernel) rfl (Nat.le_of_ble_eq_true rfl) (Nat.le_of_ble_eq_true rfl) (by simp [lvA, lv_args, Value.category]) ?_
  intro X hX C hT
  refine wz_aload_n C rfl rfl dX11_weight_0 ?_
  refine wz_iload_n C rfl rfl dX11_weight_1 ?_
  rcases h with h | h
  · exact wx_callV C hT (o := 100) (As := [.int (iZ l1)]) (st := []) rfl rfl (kx_X11_requireVertex G hG hZ l1 I J _ h) 1 gX11_weight_X11_requireVertex rfl (by decide +kernel) (by rw [hX]; exact ⟨Nat.le_of_ble_eq_true rfl, Nat.le_of_ble_eq_true rfl⟩) rfl (Nat.le_of_ble_eq_true rfl) (Nat.le_of_ble_eq_true rfl) (Nat.le_of_ble_eq_true rfl) rfl dX11_weight_2
  refine wm_callV C (o := 100) (As := [.int (iZ l1)]) (st := []) (a' := 1) (b' := 6) rfl rfl (k_X11_requireVertex G hG l1 I J _ h) 1 gX11_weight_X11_requireVertex rfl (by decide +kernel) (by rw [hX]; exact ⟨Nat.le_of_ble_eq_true rfl, Nat.le_of_ble_eq_true rfl⟩) rfl (Nat.le_of_ble_eq_true rfl) rfl rfl rfl dX11_weight_2 (kk_sV (fun I1 J1 h => ?_))
  refine wz_aload_n C rfl rfl dX11_weight_5 ?_
  refine wz_getR C (j := 200) f_X11_weight_40 rfl dX11_weight_6 ?_
  refine wz_getR C (j := 202) f_X11_weight_300 rfl dX11_weight_9 ?_
  refine wz_iload_n C rfl rfl dX11_weight_12 ?_
  refine wm_callS C (As := [.ref (kadr G 202), .int (iZ l1)]) (st := []) (a' := 1) (b' := 6) (k_X11_at G hG 202 l1 I1 J1 _ h) 2 gX11_weight_X11_at rfl (by decide +kernel) (by rw [hX]; exact ⟨Nat.le_of_ble_eq_true rfl, Nat.le_of_ble_eq_true rfl⟩) rfl (Nat.le_of_ble_eq_true rfl) rfl rfl rfl dX11_weight_13 (kk_sI (fun v2 I2 J2 h => ?_))
  exact False.elim h
def rmx_X11_edge : Room := { frames := 6, cells := 1, slots := 6, locals := 90 }
set_option maxHeartbeats 4000000 in
set_option maxRecDepth 100000 in
theorem bkx_X11_edge_15 (G : KG) (hG : Kok G) (hZ : KZx G) (X : KX) (hX : KR X = rmx_X11_edge) (C : Fr G X cX11_edge 3 yX11_edge.cls (some .int) wsX11_edge) (hT : noTab X) (l1 : Int) (l2 : Int) (Q : Nat → Ii → Jj → Prop)  (I : Ii) (J : Jj) (h : BX_X11_edge_15 l1 l2 Q  I J) : Wz G X 3 (QsX G X (QxE Q)) 1 6 15 [none, none, none] [] I J := by
  unfold BX_X11_edge_15 at h
  exact wx_throwSW (st := []) C hT hZ 1 (is := 303) (text := "no such edge") (by decide) (by decide) (by decide +kernel) (by decide +kernel) (by decide +kernel) dX11_edge_15 dX11_edge_18 dX11_edge_19 dX11_edge_22 dX11_edge_25 (by rw [hX]; exact ⟨Nat.le_of_ble_eq_true rfl, Nat.le_of_ble_eq_true rfl⟩) h
set_option maxHeartbeats 4000000 in
set_option maxRecDepth 100000 in
theorem kx_X11_edge (G : KG) (hG : Kok G) (hZ : KZx G) (l1 : Int) (l2 : Int) (I : Ii) (J : Jj) (Q : Nat → Ii → Jj → Prop) (h : xp_X11_edge l1 l2 I J Q) : CtrX G yX11_edge wsX11_edge rmx_X11_edge [.ref (kadr G 100), .int (iZ l1), .int (iZ l2)] (I, J) (QxE Q) := by
  unfold xp_X11_edge at h
  skip
  refine CtrX.ofZ (cc := cX11_edge) (nL := 3) (ret := (some .int)) [some (.ref (kadr G 100)), some (.int (iZ l1)), some (.int (iZ l2))] hG (by decide +kernel) rfl (Nat.le_of_ble_eq_true rfl) (Nat.le_of_ble_eq_true rfl) (by simp [lvA, lv_args, Value.category]) ?_
  intro X hX C hT
  refine wz_iload_n C rfl rfl dX11_edge_0 ?_
  obtain ⟨g1, h⟩ := h
  refine wz_if_lt C (tgt := 15) g1 dX11_edge_1 (by decide) (fun c => ?_) (fun c => ?_)
  · replace h := h.1 c
    exact Wz.drop (bkx_X11_edge_15 G hG hZ X hX C hT l1 l2 Q I J h) trivial
  · replace h := h.2 c
    refine wz_iload_n C rfl rfl dX11_edge_4 ?_
    refine wz_aload_n C rfl rfl dX11_edge_5 ?_
    refine wz_getR C (j := 200) f_X11_edge_40 rfl dX11_edge_6 ?_
    refine wz_getI C rfl f_X11_edge_259 rfl dX11_edge_9 ?_
    obtain ⟨g2, h⟩ := h
    refine wz_icmp_lt C (tgt := 26) g1 g2 dX11_edge_12 (by decide) (fun c => ?_) (fun c => ?_)
    · replace h := h.1 c
      refine wz_iload_n C rfl rfl dX11_edge_26 ?_
      obtain ⟨g3, h⟩ := h
      have c : (l2 < 0 ∨ 3 < l2) ∨ l2 = 0 ∨ l2 = 1 ∨ l2 = 2 ∨ l2 = 3 := by omega
      rcases c with c | c | c | c | c
      · replace h := h.1 c
        refine wz_tableOut C (tgt := 106) g3 dX11_edge_27 c (by decide) ?_
        exact wx_throwSW (st := []) C hT hZ 0 (is := 313) (text := "an edge has the numbers 0 to 3") (by decide) (by decide) (by decide +kernel) (by decide +kernel) (by decide +kernel) dX11_edge_106 dX11_edge_109 dX11_edge_110 dX11_edge_113 dX11_edge_116 (by rw [hX]; exact ⟨Nat.le_of_ble_eq_true rfl, Nat.le_of_ble_eq_true rfl⟩) h
      · replace h := h.2.1 c
        refine wz_tableIn C (v := 0) (tgt := 56) c dX11_edge_27 (by decide) rfl (by decide) ?_
        refine wz_aload_n C rfl rfl dX11_edge_56 ?_
        refine wz_getR C (j := 200) f_X11_edge_40 rfl dX11_edge_57 ?_
        refine wz_getR C (j := 203) f_X11_edge_305 rfl dX11_edge_60 ?_
        refine wz_iload_n C rfl rfl dX11_edge_63 ?_
        refine wm_callS C (As := [.ref (kadr G 203), .int (iZ l1)]) (st := []) (a' := 1) (b' := 6) (k_X11_at G hG 203 l1 I J _ h) 2 gX11_edge_X11_at rfl (by decide +kernel) (by rw [hX]; exact ⟨Nat.le_of_ble_eq_true rfl, Nat.le_of_ble_eq_true rfl⟩) rfl (Nat.le_of_ble_eq_true rfl) rfl rfl rfl dX11_edge_64 (kk_sI (fun v4 I4 J4 h => ?_))
        exact False.elim h
      · replace h := h.2.2.1 c
        refine wz_tableIn C (v := 1) (tgt := 68) c dX11_edge_27 (by decide) rfl (by decide) ?_
        refine wz_aload_n C rfl rfl dX11_edge_68 ?_
        refine wz_getR C (j := 200) f_X11_edge_40 rfl dX11_edge_69 ?_
        refine wz_getR C (j := 204) f_X11_edge_306 rfl dX11_edge_72 ?_
        refine wz_iload_n C rfl rfl dX11_edge_75 ?_
        refine wm_callS C (As := [.ref (kadr G 204), .int (iZ l1)]) (st := []) (a' := 1) (b' := 6) (k_X11_at G hG 204 l1 I J _ h) 2 gX11_edge_X11_at rfl (by decide +kernel) (by rw [hX]; exact ⟨Nat.le_of_ble_eq_true rfl, Nat.le_of_ble_eq_true rfl⟩) rfl (Nat.le_of_ble_eq_true rfl) rfl rfl rfl dX11_edge_76 (kk_sI (fun v5 I5 J5 h => ?_))
        exact False.elim h
      · replace h := h.2.2.2.1 c
        refine wz_tableIn C (v := 2) (tgt := 80) c dX11_edge_27 (by decide) rfl (by decide) ?_
        refine wz_aload_n C rfl rfl dX11_edge_80 ?_
        refine wz_getR C (j := 200) f_X11_edge_40 rfl dX11_edge_81 ?_
        refine wz_getR C (j := 205) f_X11_edge_307 rfl dX11_edge_84 ?_
        refine wz_iload_n C rfl rfl dX11_edge_87 ?_
        refine wm_callS C (As := [.ref (kadr G 205), .int (iZ l1)]) (st := []) (a' := 1) (b' := 6) (k_X11_at G hG 205 l1 I J _ h) 2 gX11_edge_X11_at rfl (by decide +kernel) (by rw [hX]; exact ⟨Nat.le_of_ble_eq_true rfl, Nat.le_of_ble_eq_true rfl⟩) rfl (Nat.le_of_ble_eq_true rfl) rfl rfl rfl dX11_edge_88 (kk_sI (fun v6 I6 J6 h => ?_))
        exact False.elim h
      · replace h := h.2.2.2.2 c
        refine wz_tableIn C (v := 3) (tgt := 92) c dX11_edge_27 (by decide) rfl (by decide) ?_
        refine wz_aload_n C rfl rfl dX11_edge_92 ?_
        refine wz_iload_n C rfl rfl dX11_edge_93 ?_
        refine wm_callV C (o := 100) (As := [.int (iZ l1)]) (st := []) (a' := 1) (b' := 6) rfl rfl (k_X11_isCut G hG l1 I J _ h) 1 gX11_edge_X11_isCut rfl (by decide +kernel) (by rw [hX]; exact ⟨Nat.le_of_ble_eq_true rfl, Nat.le_of_ble_eq_true rfl⟩) rfl (Nat.le_of_ble_eq_true rfl) rfl rfl rfl dX11_edge_94 (kk_sB (fun v7 I7 J7 hb7 h => ?_))
        refine wz_if_eq C (tgt := 104) (rgB hb7) dX11_edge_97 (by decide) (fun c => ?_) (fun c => ?_)
        · replace h := h.1 c
          refine wz_iconst C dX11_edge_104 ?_
          exact False.elim h
        · replace h := h.2 c
          refine wz_iconst C dX11_edge_100 ?_
          refine wz_goto C dX11_edge_101 (tgt := 105) (by decide) ?_
          exact False.elim h
    · replace h := h.2 c
      exact Wz.drop (bkx_X11_edge_15 G hG hZ X hX C hT l1 l2 Q I J h) trivial
def rmx_X11_between : Room := { frames := 7, cells := 1, slots := 6, locals := 111 }
set_option maxHeartbeats 4000000 in
set_option maxRecDepth 100000 in
theorem kx_X11_between (G : KG) (hG : Kok G) (hZ : KZx G) (l1 : Int) (l2 : Int) (I : Ii) (J : Jj) (Q : Nat → Ii → Jj → Prop) (h : xp_X11_between l1 l2 I J Q) : CtrX G yX11_between wsX11_between rmx_X11_between [.ref (kadr G 100), .int (iZ l1), .int (iZ l2)] (I, J) (QxE Q) := by
  unfold xp_X11_between at h
  skip
  refine CtrX.ofZ (cc := cX11_between) (nL := 4) (ret := (some .int)) [some (.ref (kadr G 100)), some (.int (iZ l1)), some (.int (iZ l2)), none] hG (by decide +kernel) rfl (Nat.le_of_ble_eq_true rfl) (Nat.le_of_ble_eq_true rfl) (by simp [lvA, lv_args, Value.category]) ?_
  intro X hX C hT
  refine wz_aload_n C rfl rfl dX11_between_0 ?_
  refine wz_iload_n C rfl rfl dX11_between_1 ?_
  rcases h with h | h
  · exact wx_callV C hT (o := 100) (As := [.int (iZ l1)]) (st := []) rfl rfl (kx_X11_requireVertex G hG hZ l1 I J _ h) 1 gX11_between_X11_requireVertex rfl (by decide +kernel) (by rw [hX]; exact ⟨Nat.le_of_ble_eq_true rfl, Nat.le_of_ble_eq_true rfl⟩) rfl (Nat.le_of_ble_eq_true rfl) (Nat.le_of_ble_eq_true rfl) (Nat.le_of_ble_eq_true rfl) rfl dX11_between_2
  refine wm_callV C (o := 100) (As := [.int (iZ l1)]) (st := []) (a' := 1) (b' := 6) rfl rfl (k_X11_requireVertex G hG l1 I J _ h) 1 gX11_between_X11_requireVertex rfl (by decide +kernel) (by rw [hX]; exact ⟨Nat.le_of_ble_eq_true rfl, Nat.le_of_ble_eq_true rfl⟩) rfl (Nat.le_of_ble_eq_true rfl) rfl rfl rfl dX11_between_2 (kk_sV (fun I1 J1 h => ?_))
  refine wz_aload_n C rfl rfl dX11_between_5 ?_
  refine wz_iload_n C rfl rfl dX11_between_6 ?_
  rcases h with h | h
  · exact wx_callV C hT (o := 100) (As := [.int (iZ l2)]) (st := []) rfl rfl (kx_X11_requireVertex G hG hZ l2 I1 J1 _ h) 1 gX11_between_X11_requireVertex rfl (by decide +kernel) (by rw [hX]; exact ⟨Nat.le_of_ble_eq_true rfl, Nat.le_of_ble_eq_true rfl⟩) rfl (Nat.le_of_ble_eq_true rfl) (Nat.le_of_ble_eq_true rfl) (Nat.le_of_ble_eq_true rfl) rfl dX11_between_7
  refine wm_callV C (o := 100) (As := [.int (iZ l2)]) (st := []) (a' := 1) (b' := 6) rfl rfl (k_X11_requireVertex G hG l2 I1 J1 _ h) 1 gX11_between_X11_requireVertex rfl (by decide +kernel) (by rw [hX]; exact ⟨Nat.le_of_ble_eq_true rfl, Nat.le_of_ble_eq_true rfl⟩) rfl (Nat.le_of_ble_eq_true rfl) rfl rfl rfl dX11_between_7 (kk_sV (fun I2 J2 h => ?_))
  refine wz_aload_n C rfl rfl dX11_between_10 ?_
  refine wz_getR C (j := 200) f_X11_between_40 rfl dX11_between_11 ?_
  refine wz_iload_n C rfl rfl dX11_between_14 ?_
  refine wz_iload_n C rfl rfl dX11_between_15 ?_
  refine wm_callV C (o := 200) (As := [.int (iZ l1), .int (iZ l2)]) (st := []) (a' := 1) (b' := 6) rfl rfl (k_X2_edgeOf G hG 200 l1 l2 I2 J2 _ h) 2 gX11_between_X2_edgeOf rfl (by decide +kernel) (by rw [hX]; exact ⟨Nat.le_of_ble_eq_true rfl, Nat.le_of_ble_eq_true rfl⟩) rfl (Nat.le_of_ble_eq_true rfl) rfl rfl rfl dX11_between_16 (kk_sI (fun v3 I3 J3 h => ?_))
  refine wz_istore_3 C rfl dX11_between_19 ?_
  refine wz_iload_n C rfl rfl dX11_between_20 ?_
  refine wz_iconst C dX11_between_21 ?_
  obtain ⟨g4, h⟩ := h
  refine wz_icmp_ne C (tgt := 29) g4 (by decide) dX11_between_22 (by decide) (fun c => ?_) (fun c => ?_)
  · replace h := h.1 c
    refine wz_aload_n C rfl rfl dX11_between_29 ?_
    refine wz_getR C (j := 200) f_X11_between_40 rfl dX11_between_30 ?_
    refine wz_getR C (j := 205) f_X11_between_307 rfl dX11_between_33 ?_
    refine wz_iload_n C rfl rfl dX11_between_36 ?_
    refine wm_callS C (As := [.ref (kadr G 205), .int (iZ v3)]) (st := []) (a' := 1) (b' := 6) (k_X11_at G hG 205 v3 I3 J3 _ h) 2 gX11_between_X11_at rfl (by decide +kernel) (by rw [hX]; exact ⟨Nat.le_of_ble_eq_true rfl, Nat.le_of_ble_eq_true rfl⟩) rfl (Nat.le_of_ble_eq_true rfl) rfl rfl rfl dX11_between_37 (kk_sI (fun v5 I5 J5 h => ?_))
    exact False.elim h
  · replace h := h.2 c
    refine wz_iconst C dX11_between_25 ?_
    refine wz_goto C dX11_between_26 (tgt := 40) (by decide) ?_
    exact False.elim h
def rmx_X11_flow : Room := { frames := 7, cells := 1, slots := 6, locals := 111 }
set_option maxHeartbeats 4000000 in
set_option maxRecDepth 100000 in
theorem kx_X11_flow (G : KG) (hG : Kok G) (hZ : KZx G) (l1 : Int) (l2 : Int) (I : Ii) (J : Jj) (Q : Nat → Ii → Jj → Prop) (h : xp_X11_flow l1 l2 I J Q) : CtrX G yX11_flow wsX11_flow rmx_X11_flow [.ref (kadr G 100), .int (iZ l1), .int (iZ l2)] (I, J) (QxE Q) := by
  unfold xp_X11_flow at h
  skip
  refine CtrX.ofZ (cc := cX11_flow) (nL := 3) (ret := (some .int)) [some (.ref (kadr G 100)), some (.int (iZ l1)), some (.int (iZ l2))] hG (by decide +kernel) rfl (Nat.le_of_ble_eq_true rfl) (Nat.le_of_ble_eq_true rfl) (by simp [lvA, lv_args, Value.category]) ?_
  intro X hX C hT
  refine wz_aload_n C rfl rfl dX11_flow_0 ?_
  refine wz_iload_n C rfl rfl dX11_flow_1 ?_
  rcases h with h | h
  · exact wx_callV C hT (o := 100) (As := [.int (iZ l1)]) (st := []) rfl rfl (kx_X11_requireVertex G hG hZ l1 I J _ h) 1 gX11_flow_X11_requireVertex rfl (by decide +kernel) (by rw [hX]; exact ⟨Nat.le_of_ble_eq_true rfl, Nat.le_of_ble_eq_true rfl⟩) rfl (Nat.le_of_ble_eq_true rfl) (Nat.le_of_ble_eq_true rfl) (Nat.le_of_ble_eq_true rfl) rfl dX11_flow_2
  refine wm_callV C (o := 100) (As := [.int (iZ l1)]) (st := []) (a' := 1) (b' := 6) rfl rfl (k_X11_requireVertex G hG l1 I J _ h) 1 gX11_flow_X11_requireVertex rfl (by decide +kernel) (by rw [hX]; exact ⟨Nat.le_of_ble_eq_true rfl, Nat.le_of_ble_eq_true rfl⟩) rfl (Nat.le_of_ble_eq_true rfl) rfl rfl rfl dX11_flow_2 (kk_sV (fun I1 J1 h => ?_))
  refine wz_aload_n C rfl rfl dX11_flow_5 ?_
  refine wz_iload_n C rfl rfl dX11_flow_6 ?_
  rcases h with h | h
  · exact wx_callV C hT (o := 100) (As := [.int (iZ l2)]) (st := []) rfl rfl (kx_X11_requireVertex G hG hZ l2 I1 J1 _ h) 1 gX11_flow_X11_requireVertex rfl (by decide +kernel) (by rw [hX]; exact ⟨Nat.le_of_ble_eq_true rfl, Nat.le_of_ble_eq_true rfl⟩) rfl (Nat.le_of_ble_eq_true rfl) (Nat.le_of_ble_eq_true rfl) (Nat.le_of_ble_eq_true rfl) rfl dX11_flow_7
  refine wm_callV C (o := 100) (As := [.int (iZ l2)]) (st := []) (a' := 1) (b' := 6) rfl rfl (k_X11_requireVertex G hG l2 I1 J1 _ h) 1 gX11_flow_X11_requireVertex rfl (by decide +kernel) (by rw [hX]; exact ⟨Nat.le_of_ble_eq_true rfl, Nat.le_of_ble_eq_true rfl⟩) rfl (Nat.le_of_ble_eq_true rfl) rfl rfl rfl dX11_flow_7 (kk_sV (fun I2 J2 h => ?_))
  refine wz_iload_n C rfl rfl dX11_flow_10 ?_
  refine wz_iload_n C rfl rfl dX11_flow_11 ?_
  obtain ⟨g3, h⟩ := h
  obtain ⟨g4, h⟩ := h
  refine wz_icmp_ne C (tgt := 17) g3 g4 dX11_flow_12 (by decide) (fun c => ?_) (fun c => ?_)
  · replace h := h.1 c
    refine wz_aload_n C rfl rfl dX11_flow_17 ?_
    refine wz_getR C (j := 128) f_X11_flow_94 rfl dX11_flow_18 ?_
    refine wz_aload_n C rfl rfl dX11_flow_21 ?_
    refine wz_getR C (j := 200) f_X11_flow_40 rfl dX11_flow_22 ?_
    refine wz_iload_n C rfl rfl dX11_flow_25 ?_
    refine wz_iload_n C rfl rfl dX11_flow_26 ?_
    refine wm_callV C (o := 128) (As := [.ref (kadr G 200), .int (iZ l1), .int (iZ l2)]) (st := []) (a' := 1) (b' := 6) rfl rfl (k_X1_run G hG 200 l1 l2 I2 J2 _ h) 3 gX11_flow_X1_run rfl (by decide +kernel) (by rw [hX]; exact ⟨Nat.le_of_ble_eq_true rfl, Nat.le_of_ble_eq_true rfl⟩) rfl (Nat.le_of_ble_eq_true rfl) rfl rfl rfl dX11_flow_27 (kk_sV (fun I5 J5 h => ?_))
    refine wz_aload_n C rfl rfl dX11_flow_30 ?_
    refine wz_getR C (j := 128) f_X11_flow_94 rfl dX11_flow_31 ?_
    refine wz_getI C rfl f_X11_flow_324 rfl dX11_flow_34 ?_
    exact False.elim h
  · replace h := h.2 c
    refine wz_iconst C dX11_flow_15 ?_
    exact False.elim h
def rmx_X11_side : Room := { frames := 7, cells := 1, slots := 6, locals := 111 }
set_option maxHeartbeats 4000000 in
set_option maxRecDepth 100000 in
theorem kx_X11_side (G : KG) (hG : Kok G) (hZ : KZx G) (l1 : Int) (l2 : Int) (I : Ii) (J : Jj) (Q : Nat → Ii → Jj → Prop) (h : xp_X11_side l1 l2 I J Q) : CtrX G yX11_side wsX11_side rmx_X11_side [.ref (kadr G 100), .int (iZ l1), .int (iZ l2)] (I, J) (QxE Q) := by
  unfold xp_X11_side at h
  skip
  refine CtrX.ofZ (cc := cX11_side) (nL := 3) (ret := (some .int)) [some (.ref (kadr G 100)), some (.int (iZ l1)), some (.int (iZ l2))] hG (by decide +kernel) rfl (Nat.le_of_ble_eq_true rfl) (Nat.le_of_ble_eq_true rfl) (by simp [lvA, lv_args, Value.category]) ?_
  intro X hX C hT
  refine wz_aload_n C rfl rfl dX11_side_0 ?_
  refine wz_iload_n C rfl rfl dX11_side_1 ?_
  rcases h with h | h
  · exact wx_callV C hT (o := 100) (As := [.int (iZ l1)]) (st := []) rfl rfl (kx_X11_requireVertex G hG hZ l1 I J _ h) 1 gX11_side_X11_requireVertex rfl (by decide +kernel) (by rw [hX]; exact ⟨Nat.le_of_ble_eq_true rfl, Nat.le_of_ble_eq_true rfl⟩) rfl (Nat.le_of_ble_eq_true rfl) (Nat.le_of_ble_eq_true rfl) (Nat.le_of_ble_eq_true rfl) rfl dX11_side_2
  refine wm_callV C (o := 100) (As := [.int (iZ l1)]) (st := []) (a' := 1) (b' := 6) rfl rfl (k_X11_requireVertex G hG l1 I J _ h) 1 gX11_side_X11_requireVertex rfl (by decide +kernel) (by rw [hX]; exact ⟨Nat.le_of_ble_eq_true rfl, Nat.le_of_ble_eq_true rfl⟩) rfl (Nat.le_of_ble_eq_true rfl) rfl rfl rfl dX11_side_2 (kk_sV (fun I1 J1 h => ?_))
  refine wz_aload_n C rfl rfl dX11_side_5 ?_
  refine wz_iload_n C rfl rfl dX11_side_6 ?_
  rcases h with h | h
  · exact wx_callV C hT (o := 100) (As := [.int (iZ l2)]) (st := []) rfl rfl (kx_X11_requireVertex G hG hZ l2 I1 J1 _ h) 1 gX11_side_X11_requireVertex rfl (by decide +kernel) (by rw [hX]; exact ⟨Nat.le_of_ble_eq_true rfl, Nat.le_of_ble_eq_true rfl⟩) rfl (Nat.le_of_ble_eq_true rfl) (Nat.le_of_ble_eq_true rfl) (Nat.le_of_ble_eq_true rfl) rfl dX11_side_7
  refine wm_callV C (o := 100) (As := [.int (iZ l2)]) (st := []) (a' := 1) (b' := 6) rfl rfl (k_X11_requireVertex G hG l2 I1 J1 _ h) 1 gX11_side_X11_requireVertex rfl (by decide +kernel) (by rw [hX]; exact ⟨Nat.le_of_ble_eq_true rfl, Nat.le_of_ble_eq_true rfl⟩) rfl (Nat.le_of_ble_eq_true rfl) rfl rfl rfl dX11_side_7 (kk_sV (fun I2 J2 h => ?_))
  refine wz_iload_n C rfl rfl dX11_side_10 ?_
  refine wz_iload_n C rfl rfl dX11_side_11 ?_
  obtain ⟨g3, h⟩ := h
  obtain ⟨g4, h⟩ := h
  refine wz_icmp_ne C (tgt := 17) g3 g4 dX11_side_12 (by decide) (fun c => ?_) (fun c => ?_)
  · replace h := h.1 c
    refine wz_aload_n C rfl rfl dX11_side_17 ?_
    refine wz_getR C (j := 128) f_X11_side_94 rfl dX11_side_18 ?_
    refine wz_aload_n C rfl rfl dX11_side_21 ?_
    refine wz_getR C (j := 200) f_X11_side_40 rfl dX11_side_22 ?_
    refine wz_iload_n C rfl rfl dX11_side_25 ?_
    refine wz_iload_n C rfl rfl dX11_side_26 ?_
    refine wm_callV C (o := 128) (As := [.ref (kadr G 200), .int (iZ l1), .int (iZ l2)]) (st := []) (a' := 1) (b' := 6) rfl rfl (k_X1_run G hG 200 l1 l2 I2 J2 _ h) 3 gX11_side_X1_run rfl (by decide +kernel) (by rw [hX]; exact ⟨Nat.le_of_ble_eq_true rfl, Nat.le_of_ble_eq_true rfl⟩) rfl (Nat.le_of_ble_eq_true rfl) rfl rfl rfl dX11_side_27 (kk_sV (fun I5 J5 h => ?_))
    refine wz_aload_n C rfl rfl dX11_side_30 ?_
    refine wz_getR C (j := 128) f_X11_side_94 rfl dX11_side_31 ?_
    refine wz_getI C rfl f_X11_side_327 rfl dX11_side_34 ?_
    exact False.elim h
  · replace h := h.2 c
    refine wz_iconst C dX11_side_15 ?_
    exact False.elim h
def rmx_X11_partOf : Room := { frames := 7, cells := 1, slots := 6, locals := 111 }
set_option maxHeartbeats 4000000 in
set_option maxRecDepth 100000 in
theorem kx_X11_partOf (G : KG) (hG : Kok G) (hZ : KZx G) (l1 : Int) (I : Ii) (J : Jj) (Q : Nat → Ii → Jj → Prop) (h : xp_X11_partOf l1 I J Q) : CtrX G yX11_partOf wsX11_partOf rmx_X11_partOf [.ref (kadr G 100), .int (iZ l1)] (I, J) (QxE Q) := by
  unfold xp_X11_partOf at h
  skip
  refine CtrX.ofZ (cc := cX11_partOf) (nL := 2) (ret := (some .int)) [some (.ref (kadr G 100)), some (.int (iZ l1))] hG (by decide +kernel) rfl (Nat.le_of_ble_eq_true rfl) (Nat.le_of_ble_eq_true rfl) (by simp [lvA, lv_args, Value.category]) ?_
  intro X hX C hT
  refine wz_aload_n C rfl rfl dX11_partOf_0 ?_
  refine wz_iload_n C rfl rfl dX11_partOf_1 ?_
  rcases h with h | h
  · exact wx_callV C hT (o := 100) (As := [.int (iZ l1)]) (st := []) rfl rfl (kx_X11_requireVertex G hG hZ l1 I J _ h) 1 gX11_partOf_X11_requireVertex rfl (by decide +kernel) (by rw [hX]; exact ⟨Nat.le_of_ble_eq_true rfl, Nat.le_of_ble_eq_true rfl⟩) rfl (Nat.le_of_ble_eq_true rfl) (Nat.le_of_ble_eq_true rfl) (Nat.le_of_ble_eq_true rfl) rfl dX11_partOf_2
  refine wm_callV C (o := 100) (As := [.int (iZ l1)]) (st := []) (a' := 1) (b' := 6) rfl rfl (k_X11_requireVertex G hG l1 I J _ h) 1 gX11_partOf_X11_requireVertex rfl (by decide +kernel) (by rw [hX]; exact ⟨Nat.le_of_ble_eq_true rfl, Nat.le_of_ble_eq_true rfl⟩) rfl (Nat.le_of_ble_eq_true rfl) rfl rfl rfl dX11_partOf_2 (kk_sV (fun I1 J1 h => ?_))
  refine wz_aload_n C rfl rfl dX11_partOf_5 ?_
  refine wz_getR C (j := 300) f_X11_partOf_53 rfl dX11_partOf_6 ?_
  refine wz_getR C (j := 301) f_X11_partOf_315 rfl dX11_partOf_9 ?_
  refine wz_iload_n C rfl rfl dX11_partOf_12 ?_
  refine wm_callS C (As := [.ref (kadr G 301), .int (iZ l1)]) (st := []) (a' := 1) (b' := 6) (k_X11_at G hG 301 l1 I1 J1 _ h) 2 gX11_partOf_X11_at rfl (by decide +kernel) (by rw [hX]; exact ⟨Nat.le_of_ble_eq_true rfl, Nat.le_of_ble_eq_true rfl⟩) rfl (Nat.le_of_ble_eq_true rfl) rfl rfl rfl dX11_partOf_13 (kk_sI (fun v2 I2 J2 h => ?_))
  exact False.elim h
def rmx_X11_part : Room := { frames := 7, cells := 1, slots := 6, locals := 111 }
set_option maxHeartbeats 4000000 in
set_option maxRecDepth 100000 in
theorem kx_X11_part (G : KG) (hG : Kok G) (hZ : KZx G) (l1 : Int) (l2 : Int) (I : Ii) (J : Jj) (Q : Nat → Ii → Jj → Prop) (h : xp_X11_part l1 l2 I J Q) : CtrX G yX11_part wsX11_part rmx_X11_part [.ref (kadr G 100), .int (iZ l1), .int (iZ l2)] (I, J) (QxE Q) := by
  unfold xp_X11_part at h
  skip
  refine CtrX.ofZ (cc := cX11_part) (nL := 3) (ret := (some .int)) [some (.ref (kadr G 100)), some (.int (iZ l1)), some (.int (iZ l2))] hG (by decide +kernel) rfl (Nat.le_of_ble_eq_true rfl) (Nat.le_of_ble_eq_true rfl) (by simp [lvA, lv_args, Value.category]) ?_
  intro X hX C hT
  refine wz_aload_n C rfl rfl dX11_part_0 ?_
  refine wz_iload_n C rfl rfl dX11_part_1 ?_
  rcases h with h | h
  · exact wx_callV C hT (o := 100) (As := [.int (iZ l1)]) (st := []) rfl rfl (kx_X11_requirePart G hG hZ l1 I J _ h) 1 gX11_part_X11_requirePart rfl (by decide +kernel) (by rw [hX]; exact ⟨Nat.le_of_ble_eq_true rfl, Nat.le_of_ble_eq_true rfl⟩) rfl (Nat.le_of_ble_eq_true rfl) (Nat.le_of_ble_eq_true rfl) (Nat.le_of_ble_eq_true rfl) rfl dX11_part_2
  refine wm_callV C (o := 100) (As := [.int (iZ l1)]) (st := []) (a' := 1) (b' := 6) rfl rfl (k_X11_requirePart G hG l1 I J _ h) 1 gX11_part_X11_requirePart rfl (by decide +kernel) (by rw [hX]; exact ⟨Nat.le_of_ble_eq_true rfl, Nat.le_of_ble_eq_true rfl⟩) rfl (Nat.le_of_ble_eq_true rfl) rfl rfl rfl dX11_part_2 (kk_sV (fun I1 J1 h => ?_))
  refine wz_aload_n C rfl rfl dX11_part_5 ?_
  refine wz_getR C (j := 113) f_X11_part_73 rfl dX11_part_6 ?_
  refine wz_aload_n C rfl rfl dX11_part_9 ?_
  refine wz_getR C (j := 200) f_X11_part_40 rfl dX11_part_10 ?_
  refine wz_aload_n C rfl rfl dX11_part_13 ?_
  refine wz_getR C (j := 300) f_X11_part_53 rfl dX11_part_14 ?_
  refine wm_callV C (o := 113) (As := [.ref (kadr G 200), .ref (kadr G 300)]) (st := []) (a' := 1) (b' := 6) rfl rfl (k_X4_take G hG 200 300 I1 J1 _ h) 2 gX11_part_X4_take rfl (by decide +kernel) (by rw [hX]; exact ⟨Nat.le_of_ble_eq_true rfl, Nat.le_of_ble_eq_true rfl⟩) rfl (Nat.le_of_ble_eq_true rfl) rfl rfl rfl dX11_part_17 (kk_sV (fun I2 J2 h => ?_))
  refine wz_iload_n C rfl rfl dX11_part_20 ?_
  obtain ⟨g3, h⟩ := h
  have c : (l2 < 0 ∨ 4 < l2) ∨ l2 = 0 ∨ l2 = 1 ∨ l2 = 2 ∨ l2 = 3 ∨ l2 = 4 := by omega
  rcases c with c | c | c | c | c | c
  · replace h := h.1 c
    refine wz_tableOut C (tgt := 124) g3 dX11_part_21 c (by decide) ?_
    exact wx_throwSW (st := []) C hT hZ 0 (is := 352) (text := "a part has the numbers 0 to 4") (by decide) (by decide) (by decide +kernel) (by decide +kernel) (by decide +kernel) dX11_part_124 dX11_part_127 dX11_part_128 dX11_part_131 dX11_part_134 (by rw [hX]; exact ⟨Nat.le_of_ble_eq_true rfl, Nat.le_of_ble_eq_true rfl⟩) h
  · replace h := h.2.1 c
    refine wz_tableIn C (v := 0) (tgt := 56) c dX11_part_21 (by decide) rfl (by decide) ?_
    refine wz_aload_n C rfl rfl dX11_part_56 ?_
    refine wz_getR C (j := 113) f_X11_part_73 rfl dX11_part_57 ?_
    refine wz_getR C (j := 118) f_X11_part_337 rfl dX11_part_60 ?_
    refine wz_iload_n C rfl rfl dX11_part_63 ?_
    refine wm_callS C (As := [.ref (kadr G 118), .int (iZ l1)]) (st := []) (a' := 1) (b' := 6) (k_X11_at G hG 118 l1 I2 J2 _ h) 2 gX11_part_X11_at rfl (by decide +kernel) (by rw [hX]; exact ⟨Nat.le_of_ble_eq_true rfl, Nat.le_of_ble_eq_true rfl⟩) rfl (Nat.le_of_ble_eq_true rfl) rfl rfl rfl dX11_part_64 (kk_sI (fun v4 I4 J4 h => ?_))
    exact False.elim h
  · replace h := h.2.2.1 c
    refine wz_tableIn C (v := 1) (tgt := 68) c dX11_part_21 (by decide) rfl (by decide) ?_
    refine wz_aload_n C rfl rfl dX11_part_68 ?_
    refine wz_getR C (j := 113) f_X11_part_73 rfl dX11_part_69 ?_
    refine wz_aload_n C rfl rfl dX11_part_72 ?_
    refine wz_getR C (j := 113) f_X11_part_73 rfl dX11_part_73 ?_
    refine wz_getR C (j := 118) f_X11_part_337 rfl dX11_part_76 ?_
    refine wz_iload_n C rfl rfl dX11_part_79 ?_
    refine wm_callS C (As := [.ref (kadr G 118), .int (iZ l1)]) (st := [.ref (kadr G 113)]) (a' := 1) (b' := 6) (k_X11_at G hG 118 l1 I2 J2 _ h) 2 gX11_part_X11_at rfl (by decide +kernel) (by rw [hX]; exact ⟨Nat.le_of_ble_eq_true rfl, Nat.le_of_ble_eq_true rfl⟩) rfl (Nat.le_of_ble_eq_true rfl) rfl rfl rfl dX11_part_80 (kk_sI (fun v5 I5 J5 h => ?_))
    refine wm_callV C (o := 113) (As := [.int (iZ v5)]) (st := []) (a' := 1) (b' := 6) rfl rfl (k_X4_debtAt G hG v5 I5 J5 _ h) 1 gX11_part_X4_debtAt rfl (by decide +kernel) (by rw [hX]; exact ⟨Nat.le_of_ble_eq_true rfl, Nat.le_of_ble_eq_true rfl⟩) rfl (Nat.le_of_ble_eq_true rfl) rfl rfl rfl dX11_part_83 (kk_sI (fun v6 I6 J6 h => ?_))
    exact False.elim h
  · replace h := h.2.2.2.1 c
    refine wz_tableIn C (v := 2) (tgt := 87) c dX11_part_21 (by decide) rfl (by decide) ?_
    refine wz_aload_n C rfl rfl dX11_part_87 ?_
    refine wz_getR C (j := 113) f_X11_part_73 rfl dX11_part_88 ?_
    refine wz_getR C (j := 117) f_X11_part_343 rfl dX11_part_91 ?_
    refine wz_iload_n C rfl rfl dX11_part_94 ?_
    refine wm_callS C (As := [.ref (kadr G 117), .int (iZ l1)]) (st := []) (a' := 1) (b' := 6) (k_X11_at G hG 117 l1 I2 J2 _ h) 2 gX11_part_X11_at rfl (by decide +kernel) (by rw [hX]; exact ⟨Nat.le_of_ble_eq_true rfl, Nat.le_of_ble_eq_true rfl⟩) rfl (Nat.le_of_ble_eq_true rfl) rfl rfl rfl dX11_part_95 (kk_sI (fun v7 I7 J7 h => ?_))
    exact False.elim h
  · replace h := h.2.2.2.2.1 c
    refine wz_tableIn C (v := 3) (tgt := 99) c dX11_part_21 (by decide) rfl (by decide) ?_
    refine wz_aload_n C rfl rfl dX11_part_99 ?_
    refine wz_getR C (j := 200) f_X11_part_40 rfl dX11_part_100 ?_
    refine wz_aload_n C rfl rfl dX11_part_103 ?_
    refine wz_getR C (j := 113) f_X11_part_73 rfl dX11_part_104 ?_
    refine wz_getR C (j := 117) f_X11_part_343 rfl dX11_part_107 ?_
    refine wz_iload_n C rfl rfl dX11_part_110 ?_
    refine wm_callS C (As := [.ref (kadr G 117), .int (iZ l1)]) (st := [.ref (kadr G 200)]) (a' := 1) (b' := 6) (k_X11_at G hG 117 l1 I2 J2 _ h) 2 gX11_part_X11_at rfl (by decide +kernel) (by rw [hX]; exact ⟨Nat.le_of_ble_eq_true rfl, Nat.le_of_ble_eq_true rfl⟩) rfl (Nat.le_of_ble_eq_true rfl) rfl rfl rfl dX11_part_111 (kk_sI (fun v8 I8 J8 h => ?_))
    refine wm_callV C (o := 200) (As := [.int (iZ v8)]) (st := []) (a' := 1) (b' := 6) rfl rfl (k_X2_pieces G hG 200 v8 I8 J8 _ h) 1 gX11_part_X2_pieces rfl (by decide +kernel) (by rw [hX]; exact ⟨Nat.le_of_ble_eq_true rfl, Nat.le_of_ble_eq_true rfl⟩) rfl (Nat.le_of_ble_eq_true rfl) rfl rfl rfl dX11_part_114 (kk_sI (fun v9 I9 J9 h => ?_))
    exact False.elim h
  · replace h := h.2.2.2.2.2 c
    refine wz_tableIn C (v := 4) (tgt := 118) c dX11_part_21 (by decide) rfl (by decide) ?_
    refine wz_aload_n C rfl rfl dX11_part_118 ?_
    refine wz_iload_n C rfl rfl dX11_part_119 ?_
    refine wm_callV C (o := 100) (As := [.int (iZ l1)]) (st := []) (a' := 1) (b' := 6) rfl rfl (k_X11_cutAround G hG l1 I2 J2 _ h) 1 gX11_part_X11_cutAround rfl (by decide +kernel) (by rw [hX]; exact ⟨Nat.le_of_ble_eq_true rfl, Nat.le_of_ble_eq_true rfl⟩) rfl (Nat.le_of_ble_eq_true rfl) rfl rfl rfl dX11_part_120 (kk_sI (fun v10 I10 J10 h => ?_))
    exact False.elim h
def rmx_X11_group : Room := { frames := 7, cells := 1, slots := 6, locals := 111 }
set_option maxHeartbeats 4000000 in
set_option maxRecDepth 100000 in
theorem kx_X11_group (G : KG) (hG : Kok G) (hZ : KZx G) (l1 : Int) (l2 : Int) (I : Ii) (J : Jj) (Q : Nat → Ii → Jj → Prop) (h : xp_X11_group l1 l2 I J Q) : CtrX G yX11_group wsX11_group rmx_X11_group [.ref (kadr G 100), .int (iZ l1), .int (iZ l2)] (I, J) (QxE Q) := by
  unfold xp_X11_group at h
  skip
  refine CtrX.ofZ (cc := cX11_group) (nL := 3) (ret := (some .int)) [some (.ref (kadr G 100)), some (.int (iZ l1)), some (.int (iZ l2))] hG (by decide +kernel) rfl (Nat.le_of_ble_eq_true rfl) (Nat.le_of_ble_eq_true rfl) (by simp [lvA, lv_args, Value.category]) ?_
  intro X hX C hT
  refine wz_aload_n C rfl rfl dX11_group_0 ?_
  refine wz_iload_n C rfl rfl dX11_group_1 ?_
  rcases h with h | h
  · exact wx_callV C hT (o := 100) (As := [.int (iZ l1)]) (st := []) rfl rfl (kx_X11_requireGroup G hG hZ l1 I J _ h) 1 gX11_group_X11_requireGroup rfl (by decide +kernel) (by rw [hX]; exact ⟨Nat.le_of_ble_eq_true rfl, Nat.le_of_ble_eq_true rfl⟩) rfl (Nat.le_of_ble_eq_true rfl) (Nat.le_of_ble_eq_true rfl) (Nat.le_of_ble_eq_true rfl) rfl dX11_group_2
  refine wm_callV C (o := 100) (As := [.int (iZ l1)]) (st := []) (a' := 1) (b' := 6) rfl rfl (k_X11_requireGroup G hG l1 I J _ h) 1 gX11_group_X11_requireGroup rfl (by decide +kernel) (by rw [hX]; exact ⟨Nat.le_of_ble_eq_true rfl, Nat.le_of_ble_eq_true rfl⟩) rfl (Nat.le_of_ble_eq_true rfl) rfl rfl rfl dX11_group_2 (kk_sV (fun I1 J1 h => ?_))
  refine wz_aload_n C rfl rfl dX11_group_5 ?_
  refine wz_getR C (j := 113) f_X11_group_73 rfl dX11_group_6 ?_
  refine wz_aload_n C rfl rfl dX11_group_9 ?_
  refine wz_getR C (j := 200) f_X11_group_40 rfl dX11_group_10 ?_
  refine wz_aload_n C rfl rfl dX11_group_13 ?_
  refine wz_getR C (j := 300) f_X11_group_53 rfl dX11_group_14 ?_
  refine wm_callV C (o := 113) (As := [.ref (kadr G 200), .ref (kadr G 300)]) (st := []) (a' := 1) (b' := 6) rfl rfl (k_X4_take G hG 200 300 I1 J1 _ h) 2 gX11_group_X4_take rfl (by decide +kernel) (by rw [hX]; exact ⟨Nat.le_of_ble_eq_true rfl, Nat.le_of_ble_eq_true rfl⟩) rfl (Nat.le_of_ble_eq_true rfl) rfl rfl rfl dX11_group_17 (kk_sV (fun I2 J2 h => ?_))
  refine wz_iload_n C rfl rfl dX11_group_20 ?_
  obtain ⟨g3, h⟩ := h
  have c : (l2 < 0 ∨ 3 < l2) ∨ l2 = 0 ∨ l2 = 1 ∨ l2 = 2 ∨ l2 = 3 := by omega
  rcases c with c | c | c | c | c
  · replace h := h.1 c
    refine wz_tableOut C (tgt := 97) g3 dX11_group_21 c (by decide) ?_
    exact wx_throwSW (st := []) C hT hZ 0 (is := 384) (text := "a group has the numbers 0 to 3") (by decide) (by decide) (by decide +kernel) (by decide +kernel) (by decide +kernel) dX11_group_97 dX11_group_100 dX11_group_101 dX11_group_104 dX11_group_107 (by rw [hX]; exact ⟨Nat.le_of_ble_eq_true rfl, Nat.le_of_ble_eq_true rfl⟩) h
  · replace h := h.2.1 c
    refine wz_tableIn C (v := 0) (tgt := 52) c dX11_group_21 (by decide) rfl (by decide) ?_
    refine wz_aload_n C rfl rfl dX11_group_52 ?_
    refine wz_getR C (j := 113) f_X11_group_73 rfl dX11_group_53 ?_
    refine wz_getR C (j := 114) f_X11_group_372 rfl dX11_group_56 ?_
    refine wz_iload_n C rfl rfl dX11_group_59 ?_
    refine wm_callS C (As := [.ref (kadr G 114), .int (iZ l1)]) (st := []) (a' := 1) (b' := 6) (k_X11_at G hG 114 l1 I2 J2 _ h) 2 gX11_group_X11_at rfl (by decide +kernel) (by rw [hX]; exact ⟨Nat.le_of_ble_eq_true rfl, Nat.le_of_ble_eq_true rfl⟩) rfl (Nat.le_of_ble_eq_true rfl) rfl rfl rfl dX11_group_60 (kk_sI (fun v4 I4 J4 h => ?_))
    exact False.elim h
  · replace h := h.2.2.1 c
    refine wz_tableIn C (v := 1) (tgt := 64) c dX11_group_21 (by decide) rfl (by decide) ?_
    refine wz_aload_n C rfl rfl dX11_group_64 ?_
    refine wz_getR C (j := 113) f_X11_group_73 rfl dX11_group_65 ?_
    refine wz_getR C (j := 115) f_X11_group_375 rfl dX11_group_68 ?_
    refine wz_iload_n C rfl rfl dX11_group_71 ?_
    refine wm_callS C (As := [.ref (kadr G 115), .int (iZ l1)]) (st := []) (a' := 1) (b' := 6) (k_X11_at G hG 115 l1 I2 J2 _ h) 2 gX11_group_X11_at rfl (by decide +kernel) (by rw [hX]; exact ⟨Nat.le_of_ble_eq_true rfl, Nat.le_of_ble_eq_true rfl⟩) rfl (Nat.le_of_ble_eq_true rfl) rfl rfl rfl dX11_group_72 (kk_sI (fun v5 I5 J5 h => ?_))
    exact False.elim h
  · replace h := h.2.2.2.1 c
    refine wz_tableIn C (v := 2) (tgt := 76) c dX11_group_21 (by decide) rfl (by decide) ?_
    refine wz_aload_n C rfl rfl dX11_group_76 ?_
    refine wz_getR C (j := 113) f_X11_group_73 rfl dX11_group_77 ?_
    refine wz_getR C (j := 116) f_X11_group_378 rfl dX11_group_80 ?_
    refine wz_iload_n C rfl rfl dX11_group_83 ?_
    refine wm_callS C (As := [.ref (kadr G 116), .int (iZ l1)]) (st := []) (a' := 1) (b' := 6) (k_X11_at G hG 116 l1 I2 J2 _ h) 2 gX11_group_X11_at rfl (by decide +kernel) (by rw [hX]; exact ⟨Nat.le_of_ble_eq_true rfl, Nat.le_of_ble_eq_true rfl⟩) rfl (Nat.le_of_ble_eq_true rfl) rfl rfl rfl dX11_group_84 (kk_sI (fun v6 I6 J6 h => ?_))
    exact False.elim h
  · replace h := h.2.2.2.2 c
    refine wz_tableIn C (v := 3) (tgt := 88) c dX11_group_21 (by decide) rfl (by decide) ?_
    refine wz_aload_n C rfl rfl dX11_group_88 ?_
    refine wz_getR C (j := 113) f_X11_group_73 rfl dX11_group_89 ?_
    refine wz_iload_n C rfl rfl dX11_group_92 ?_
    refine wm_callV C (o := 113) (As := [.int (iZ l1)]) (st := []) (a' := 1) (b' := 6) rfl rfl (k_X4_pullOfAll G hG l1 I2 J2 _ h) 1 gX11_group_X4_pullOfAll rfl (by decide +kernel) (by rw [hX]; exact ⟨Nat.le_of_ble_eq_true rfl, Nat.le_of_ble_eq_true rfl⟩) rfl (Nat.le_of_ble_eq_true rfl) rfl rfl rfl dX11_group_93 (kk_sI (fun v7 I7 J7 h => ?_))
    exact False.elim h
def rmx_X11_groupOf : Room := { frames := 7, cells := 1, slots := 6, locals := 111 }
set_option maxHeartbeats 4000000 in
set_option maxRecDepth 100000 in
theorem kx_X11_groupOf (G : KG) (hG : Kok G) (hZ : KZx G) (l1 : Int) (I : Ii) (J : Jj) (Q : Nat → Ii → Jj → Prop) (h : xp_X11_groupOf l1 I J Q) : CtrX G yX11_groupOf wsX11_groupOf rmx_X11_groupOf [.ref (kadr G 100), .int (iZ l1)] (I, J) (QxE Q) := by
  unfold xp_X11_groupOf at h
  skip
  refine CtrX.ofZ (cc := cX11_groupOf) (nL := 2) (ret := (some .int)) [some (.ref (kadr G 100)), some (.int (iZ l1))] hG (by decide +kernel) rfl (Nat.le_of_ble_eq_true rfl) (Nat.le_of_ble_eq_true rfl) (by simp [lvA, lv_args, Value.category]) ?_
  intro X hX C hT
  refine wz_aload_n C rfl rfl dX11_groupOf_0 ?_
  refine wz_iload_n C rfl rfl dX11_groupOf_1 ?_
  rcases h with h | h
  · exact wx_callV C hT (o := 100) (As := [.int (iZ l1)]) (st := []) rfl rfl (kx_X11_requireVertex G hG hZ l1 I J _ h) 1 gX11_groupOf_X11_requireVertex rfl (by decide +kernel) (by rw [hX]; exact ⟨Nat.le_of_ble_eq_true rfl, Nat.le_of_ble_eq_true rfl⟩) rfl (Nat.le_of_ble_eq_true rfl) (Nat.le_of_ble_eq_true rfl) (Nat.le_of_ble_eq_true rfl) rfl dX11_groupOf_2
  refine wm_callV C (o := 100) (As := [.int (iZ l1)]) (st := []) (a' := 1) (b' := 6) rfl rfl (k_X11_requireVertex G hG l1 I J _ h) 1 gX11_groupOf_X11_requireVertex rfl (by decide +kernel) (by rw [hX]; exact ⟨Nat.le_of_ble_eq_true rfl, Nat.le_of_ble_eq_true rfl⟩) rfl (Nat.le_of_ble_eq_true rfl) rfl rfl rfl dX11_groupOf_2 (kk_sV (fun I1 J1 h => ?_))
  refine wz_aload_n C rfl rfl dX11_groupOf_5 ?_
  refine wz_getR C (j := 300) f_X11_groupOf_53 rfl dX11_groupOf_6 ?_
  refine wz_getR C (j := 303) f_X11_groupOf_386 rfl dX11_groupOf_9 ?_
  refine wz_aload_n C rfl rfl dX11_groupOf_12 ?_
  refine wz_getR C (j := 300) f_X11_groupOf_53 rfl dX11_groupOf_13 ?_
  refine wm_callV C (o := 300) (As := []) (st := [.ref (kadr G 303)]) (a' := 1) (b' := 6) rfl rfl (k_X8_groupRow G hG 300 I1 J1 _ h) 0 gX11_groupOf_X8_groupRow rfl (by decide +kernel) (by rw [hX]; exact ⟨Nat.le_of_ble_eq_true rfl, Nat.le_of_ble_eq_true rfl⟩) rfl (Nat.le_of_ble_eq_true rfl) rfl rfl rfl dX11_groupOf_16 (kk_sI (fun v2 I2 J2 h => ?_))
  refine wz_iload_n C rfl rfl dX11_groupOf_19 ?_
  refine wz_iadd C dX11_groupOf_20 ?_
  refine wm_callS C (As := [.ref (kadr G 303), .int (iZ (v2 + l1))]) (st := []) (a' := 1) (b' := 6) (k_X11_at G hG 303 (v2 + l1) I2 J2 _ h) 2 gX11_groupOf_X11_at rfl (by decide +kernel) (by rw [hX]; exact ⟨Nat.le_of_ble_eq_true rfl, Nat.le_of_ble_eq_true rfl⟩) rfl (Nat.le_of_ble_eq_true rfl) rfl rfl rfl dX11_groupOf_21 (kk_sI (fun v3 I3 J3 h => ?_))
  exact False.elim h
def rmx_X11_mate : Room := { frames := 7, cells := 1, slots := 6, locals := 111 }
set_option maxHeartbeats 4000000 in
set_option maxRecDepth 100000 in
theorem kx_X11_mate (G : KG) (hG : Kok G) (hZ : KZx G) (l1 : Int) (I : Ii) (J : Jj) (Q : Nat → Ii → Jj → Prop) (h : xp_X11_mate l1 I J Q) : CtrX G yX11_mate wsX11_mate rmx_X11_mate [.ref (kadr G 100), .int (iZ l1)] (I, J) (QxE Q) := by
  unfold xp_X11_mate at h
  skip
  refine CtrX.ofZ (cc := cX11_mate) (nL := 2) (ret := (some .int)) [some (.ref (kadr G 100)), some (.int (iZ l1))] hG (by decide +kernel) rfl (Nat.le_of_ble_eq_true rfl) (Nat.le_of_ble_eq_true rfl) (by simp [lvA, lv_args, Value.category]) ?_
  intro X hX C hT
  refine wz_aload_n C rfl rfl dX11_mate_0 ?_
  refine wz_iload_n C rfl rfl dX11_mate_1 ?_
  rcases h with h | h
  · exact wx_callV C hT (o := 100) (As := [.int (iZ l1)]) (st := []) rfl rfl (kx_X11_requireGroup G hG hZ l1 I J _ h) 1 gX11_mate_X11_requireGroup rfl (by decide +kernel) (by rw [hX]; exact ⟨Nat.le_of_ble_eq_true rfl, Nat.le_of_ble_eq_true rfl⟩) rfl (Nat.le_of_ble_eq_true rfl) (Nat.le_of_ble_eq_true rfl) (Nat.le_of_ble_eq_true rfl) rfl dX11_mate_2
  refine wm_callV C (o := 100) (As := [.int (iZ l1)]) (st := []) (a' := 1) (b' := 6) rfl rfl (k_X11_requireGroup G hG l1 I J _ h) 1 gX11_mate_X11_requireGroup rfl (by decide +kernel) (by rw [hX]; exact ⟨Nat.le_of_ble_eq_true rfl, Nat.le_of_ble_eq_true rfl⟩) rfl (Nat.le_of_ble_eq_true rfl) rfl rfl rfl dX11_mate_2 (kk_sV (fun I1 J1 h => ?_))
  refine wz_aload_n C rfl rfl dX11_mate_5 ?_
  refine wm_callV C (o := 100) (As := []) (st := []) (a' := 1) (b' := 6) rfl rfl (k_X11_findPairs G hG I1 J1 _ h) 0 gX11_mate_X11_findPairs rfl (by decide +kernel) (by rw [hX]; exact ⟨Nat.le_of_ble_eq_true rfl, Nat.le_of_ble_eq_true rfl⟩) rfl (Nat.le_of_ble_eq_true rfl) rfl rfl rfl dX11_mate_6 (kk_sV (fun I2 J2 h => ?_))
  refine wz_aload_n C rfl rfl dX11_mate_9 ?_
  refine wz_getR C (j := 120) f_X11_mate_80 rfl dX11_mate_10 ?_
  refine wz_getR C (j := 122) f_X11_mate_406 rfl dX11_mate_13 ?_
  refine wz_iload_n C rfl rfl dX11_mate_16 ?_
  refine wm_callS C (As := [.ref (kadr G 122), .int (iZ l1)]) (st := []) (a' := 1) (b' := 6) (k_X11_at G hG 122 l1 I2 J2 _ h) 2 gX11_mate_X11_at rfl (by decide +kernel) (by rw [hX]; exact ⟨Nat.le_of_ble_eq_true rfl, Nat.le_of_ble_eq_true rfl⟩) rfl (Nat.le_of_ble_eq_true rfl) rfl rfl rfl dX11_mate_17 (kk_sI (fun v3 I3 J3 h => ?_))
  exact False.elim h
def rmx_X11_gain : Room := { frames := 7, cells := 1, slots := 6, locals := 111 }
set_option maxHeartbeats 4000000 in
set_option maxRecDepth 100000 in
theorem kx_X11_gain (G : KG) (hG : Kok G) (hZ : KZx G) (l1 : Int) (l2 : Int) (I : Ii) (J : Jj) (Q : Nat → Ii → Jj → Prop) (h : xp_X11_gain l1 l2 I J Q) : CtrX G yX11_gain wsX11_gain rmx_X11_gain [.ref (kadr G 100), .int (iZ l1), .int (iZ l2)] (I, J) (QxE Q) := by
  unfold xp_X11_gain at h
  skip
  refine CtrX.ofZ (cc := cX11_gain) (nL := 3) (ret := (some .int)) [some (.ref (kadr G 100)), some (.int (iZ l1)), some (.int (iZ l2))] hG (by decide +kernel) rfl (Nat.le_of_ble_eq_true rfl) (Nat.le_of_ble_eq_true rfl) (by simp [lvA, lv_args, Value.category]) ?_
  intro X hX C hT
  refine wz_aload_n C rfl rfl dX11_gain_0 ?_
  refine wz_iload_n C rfl rfl dX11_gain_1 ?_
  rcases h with h | h
  · exact wx_callV C hT (o := 100) (As := [.int (iZ l1)]) (st := []) rfl rfl (kx_X11_requireGroup G hG hZ l1 I J _ h) 1 gX11_gain_X11_requireGroup rfl (by decide +kernel) (by rw [hX]; exact ⟨Nat.le_of_ble_eq_true rfl, Nat.le_of_ble_eq_true rfl⟩) rfl (Nat.le_of_ble_eq_true rfl) (Nat.le_of_ble_eq_true rfl) (Nat.le_of_ble_eq_true rfl) rfl dX11_gain_2
  refine wm_callV C (o := 100) (As := [.int (iZ l1)]) (st := []) (a' := 1) (b' := 6) rfl rfl (k_X11_requireGroup G hG l1 I J _ h) 1 gX11_gain_X11_requireGroup rfl (by decide +kernel) (by rw [hX]; exact ⟨Nat.le_of_ble_eq_true rfl, Nat.le_of_ble_eq_true rfl⟩) rfl (Nat.le_of_ble_eq_true rfl) rfl rfl rfl dX11_gain_2 (kk_sV (fun I1 J1 h => ?_))
  refine wz_aload_n C rfl rfl dX11_gain_5 ?_
  refine wz_iload_n C rfl rfl dX11_gain_6 ?_
  rcases h with h | h
  · exact wx_callV C hT (o := 100) (As := [.int (iZ l2)]) (st := []) rfl rfl (kx_X11_requirePart G hG hZ l2 I1 J1 _ h) 1 gX11_gain_X11_requirePart rfl (by decide +kernel) (by rw [hX]; exact ⟨Nat.le_of_ble_eq_true rfl, Nat.le_of_ble_eq_true rfl⟩) rfl (Nat.le_of_ble_eq_true rfl) (Nat.le_of_ble_eq_true rfl) (Nat.le_of_ble_eq_true rfl) rfl dX11_gain_7
  refine wm_callV C (o := 100) (As := [.int (iZ l2)]) (st := []) (a' := 1) (b' := 6) rfl rfl (k_X11_requirePart G hG l2 I1 J1 _ h) 1 gX11_gain_X11_requirePart rfl (by decide +kernel) (by rw [hX]; exact ⟨Nat.le_of_ble_eq_true rfl, Nat.le_of_ble_eq_true rfl⟩) rfl (Nat.le_of_ble_eq_true rfl) rfl rfl rfl dX11_gain_7 (kk_sV (fun I2 J2 h => ?_))
  refine wz_aload_n C rfl rfl dX11_gain_10 ?_
  refine wz_getR C (j := 113) f_X11_gain_73 rfl dX11_gain_11 ?_
  refine wz_aload_n C rfl rfl dX11_gain_14 ?_
  refine wz_getR C (j := 200) f_X11_gain_40 rfl dX11_gain_15 ?_
  refine wz_aload_n C rfl rfl dX11_gain_18 ?_
  refine wz_getR C (j := 300) f_X11_gain_53 rfl dX11_gain_19 ?_
  refine wm_callV C (o := 113) (As := [.ref (kadr G 200), .ref (kadr G 300)]) (st := []) (a' := 1) (b' := 6) rfl rfl (k_X4_take G hG 200 300 I2 J2 _ h) 2 gX11_gain_X4_take rfl (by decide +kernel) (by rw [hX]; exact ⟨Nat.le_of_ble_eq_true rfl, Nat.le_of_ble_eq_true rfl⟩) rfl (Nat.le_of_ble_eq_true rfl) rfl rfl rfl dX11_gain_22 (kk_sV (fun I3 J3 h => ?_))
  refine wz_aload_n C rfl rfl dX11_gain_25 ?_
  refine wz_getR C (j := 113) f_X11_gain_73 rfl dX11_gain_26 ?_
  refine wz_iload_n C rfl rfl dX11_gain_29 ?_
  refine wz_iload_n C rfl rfl dX11_gain_30 ?_
  refine wm_callV C (o := 113) (As := [.int (iZ l1), .int (iZ l2)]) (st := []) (a' := 1) (b' := 6) rfl rfl (k_X4_gainOf G hG l1 l2 I3 J3 _ h) 2 gX11_gain_X4_gainOf rfl (by decide +kernel) (by rw [hX]; exact ⟨Nat.le_of_ble_eq_true rfl, Nat.le_of_ble_eq_true rfl⟩) rfl (Nat.le_of_ble_eq_true rfl) rfl rfl rfl dX11_gain_31 (kk_sI (fun v4 I4 J4 h => ?_))
  exact False.elim h
def rmx_X11_whyNotMove : Room := { frames := 7, cells := 1, slots := 6, locals := 111 }
set_option maxHeartbeats 4000000 in
set_option maxRecDepth 100000 in
theorem kx_X11_whyNotMove (G : KG) (hG : Kok G) (hZ : KZx G) (l1 : Int) (l2 : Int) (I : Ii) (J : Jj) (Q : Nat → Ii → Jj → Prop) (h : xp_X11_whyNotMove l1 l2 I J Q) : CtrX G yX11_whyNotMove wsX11_whyNotMove rmx_X11_whyNotMove [.ref (kadr G 100), .int (iZ l1), .int (iZ l2)] (I, J) (QxE Q) := by
  unfold xp_X11_whyNotMove at h
  skip
  refine CtrX.ofZ (cc := cX11_whyNotMove) (nL := 3) (ret := (some .int)) [some (.ref (kadr G 100)), some (.int (iZ l1)), some (.int (iZ l2))] hG (by decide +kernel) rfl (Nat.le_of_ble_eq_true rfl) (Nat.le_of_ble_eq_true rfl) (by simp [lvA, lv_args, Value.category]) ?_
  intro X hX C hT
  refine wz_aload_n C rfl rfl dX11_whyNotMove_0 ?_
  refine wz_iload_n C rfl rfl dX11_whyNotMove_1 ?_
  rcases h with h | h
  · exact wx_callV C hT (o := 100) (As := [.int (iZ l1)]) (st := []) rfl rfl (kx_X11_requireGroup G hG hZ l1 I J _ h) 1 gX11_whyNotMove_X11_requireGroup rfl (by decide +kernel) (by rw [hX]; exact ⟨Nat.le_of_ble_eq_true rfl, Nat.le_of_ble_eq_true rfl⟩) rfl (Nat.le_of_ble_eq_true rfl) (Nat.le_of_ble_eq_true rfl) (Nat.le_of_ble_eq_true rfl) rfl dX11_whyNotMove_2
  refine wm_callV C (o := 100) (As := [.int (iZ l1)]) (st := []) (a' := 1) (b' := 6) rfl rfl (k_X11_requireGroup G hG l1 I J _ h) 1 gX11_whyNotMove_X11_requireGroup rfl (by decide +kernel) (by rw [hX]; exact ⟨Nat.le_of_ble_eq_true rfl, Nat.le_of_ble_eq_true rfl⟩) rfl (Nat.le_of_ble_eq_true rfl) rfl rfl rfl dX11_whyNotMove_2 (kk_sV (fun I1 J1 h => ?_))
  refine wz_aload_n C rfl rfl dX11_whyNotMove_5 ?_
  refine wz_iload_n C rfl rfl dX11_whyNotMove_6 ?_
  rcases h with h | h
  · exact wx_callV C hT (o := 100) (As := [.int (iZ l2)]) (st := []) rfl rfl (kx_X11_requirePart G hG hZ l2 I1 J1 _ h) 1 gX11_whyNotMove_X11_requirePart rfl (by decide +kernel) (by rw [hX]; exact ⟨Nat.le_of_ble_eq_true rfl, Nat.le_of_ble_eq_true rfl⟩) rfl (Nat.le_of_ble_eq_true rfl) (Nat.le_of_ble_eq_true rfl) (Nat.le_of_ble_eq_true rfl) rfl dX11_whyNotMove_7
  refine wm_callV C (o := 100) (As := [.int (iZ l2)]) (st := []) (a' := 1) (b' := 6) rfl rfl (k_X11_requirePart G hG l2 I1 J1 _ h) 1 gX11_whyNotMove_X11_requirePart rfl (by decide +kernel) (by rw [hX]; exact ⟨Nat.le_of_ble_eq_true rfl, Nat.le_of_ble_eq_true rfl⟩) rfl (Nat.le_of_ble_eq_true rfl) rfl rfl rfl dX11_whyNotMove_7 (kk_sV (fun I2 J2 h => ?_))
  refine wz_aload_n C rfl rfl dX11_whyNotMove_10 ?_
  refine wz_getR C (j := 113) f_X11_whyNotMove_73 rfl dX11_whyNotMove_11 ?_
  refine wz_aload_n C rfl rfl dX11_whyNotMove_14 ?_
  refine wz_getR C (j := 200) f_X11_whyNotMove_40 rfl dX11_whyNotMove_15 ?_
  refine wz_aload_n C rfl rfl dX11_whyNotMove_18 ?_
  refine wz_getR C (j := 300) f_X11_whyNotMove_53 rfl dX11_whyNotMove_19 ?_
  refine wm_callV C (o := 113) (As := [.ref (kadr G 200), .ref (kadr G 300)]) (st := []) (a' := 1) (b' := 6) rfl rfl (k_X4_take G hG 200 300 I2 J2 _ h) 2 gX11_whyNotMove_X4_take rfl (by decide +kernel) (by rw [hX]; exact ⟨Nat.le_of_ble_eq_true rfl, Nat.le_of_ble_eq_true rfl⟩) rfl (Nat.le_of_ble_eq_true rfl) rfl rfl rfl dX11_whyNotMove_22 (kk_sV (fun I3 J3 h => ?_))
  refine wz_aload_n C rfl rfl dX11_whyNotMove_25 ?_
  refine wz_getR C (j := 113) f_X11_whyNotMove_73 rfl dX11_whyNotMove_26 ?_
  refine wz_iload_n C rfl rfl dX11_whyNotMove_29 ?_
  refine wz_iload_n C rfl rfl dX11_whyNotMove_30 ?_
  refine wm_callV C (o := 113) (As := [.int (iZ l1), .int (iZ l2)]) (st := []) (a' := 1) (b' := 6) rfl rfl (k_X4_reasonAgainst G hG l1 l2 I3 J3 _ h) 2 gX11_whyNotMove_X4_reasonAgainst rfl (by decide +kernel) (by rw [hX]; exact ⟨Nat.le_of_ble_eq_true rfl, Nat.le_of_ble_eq_true rfl⟩) rfl (Nat.le_of_ble_eq_true rfl) rfl rfl rfl dX11_whyNotMove_31 (kk_sI (fun v4 I4 J4 h => ?_))
  exact False.elim h
def rmx_X11_debtsIf : Room := { frames := 7, cells := 1, slots := 6, locals := 111 }
set_option maxHeartbeats 4000000 in
set_option maxRecDepth 100000 in
theorem kx_X11_debtsIf (G : KG) (hG : Kok G) (hZ : KZx G) (l1 : Int) (l2 : Int) (I : Ii) (J : Jj) (Q : Nat → Ii → Jj → Prop) (h : xp_X11_debtsIf l1 l2 I J Q) : CtrX G yX11_debtsIf wsX11_debtsIf rmx_X11_debtsIf [.ref (kadr G 100), .int (iZ l1), .int (iZ l2)] (I, J) (QxE Q) := by
  unfold xp_X11_debtsIf at h
  skip
  refine CtrX.ofZ (cc := cX11_debtsIf) (nL := 3) (ret := (some .int)) [some (.ref (kadr G 100)), some (.int (iZ l1)), some (.int (iZ l2))] hG (by decide +kernel) rfl (Nat.le_of_ble_eq_true rfl) (Nat.le_of_ble_eq_true rfl) (by simp [lvA, lv_args, Value.category]) ?_
  intro X hX C hT
  refine wz_aload_n C rfl rfl dX11_debtsIf_0 ?_
  refine wz_iload_n C rfl rfl dX11_debtsIf_1 ?_
  rcases h with h | h
  · exact wx_callV C hT (o := 100) (As := [.int (iZ l1)]) (st := []) rfl rfl (kx_X11_requireGroup G hG hZ l1 I J _ h) 1 gX11_debtsIf_X11_requireGroup rfl (by decide +kernel) (by rw [hX]; exact ⟨Nat.le_of_ble_eq_true rfl, Nat.le_of_ble_eq_true rfl⟩) rfl (Nat.le_of_ble_eq_true rfl) (Nat.le_of_ble_eq_true rfl) (Nat.le_of_ble_eq_true rfl) rfl dX11_debtsIf_2
  refine wm_callV C (o := 100) (As := [.int (iZ l1)]) (st := []) (a' := 1) (b' := 6) rfl rfl (k_X11_requireGroup G hG l1 I J _ h) 1 gX11_debtsIf_X11_requireGroup rfl (by decide +kernel) (by rw [hX]; exact ⟨Nat.le_of_ble_eq_true rfl, Nat.le_of_ble_eq_true rfl⟩) rfl (Nat.le_of_ble_eq_true rfl) rfl rfl rfl dX11_debtsIf_2 (kk_sV (fun I1 J1 h => ?_))
  refine wz_aload_n C rfl rfl dX11_debtsIf_5 ?_
  refine wz_iload_n C rfl rfl dX11_debtsIf_6 ?_
  rcases h with h | h
  · exact wx_callV C hT (o := 100) (As := [.int (iZ l2)]) (st := []) rfl rfl (kx_X11_requirePart G hG hZ l2 I1 J1 _ h) 1 gX11_debtsIf_X11_requirePart rfl (by decide +kernel) (by rw [hX]; exact ⟨Nat.le_of_ble_eq_true rfl, Nat.le_of_ble_eq_true rfl⟩) rfl (Nat.le_of_ble_eq_true rfl) (Nat.le_of_ble_eq_true rfl) (Nat.le_of_ble_eq_true rfl) rfl dX11_debtsIf_7
  refine wm_callV C (o := 100) (As := [.int (iZ l2)]) (st := []) (a' := 1) (b' := 6) rfl rfl (k_X11_requirePart G hG l2 I1 J1 _ h) 1 gX11_debtsIf_X11_requirePart rfl (by decide +kernel) (by rw [hX]; exact ⟨Nat.le_of_ble_eq_true rfl, Nat.le_of_ble_eq_true rfl⟩) rfl (Nat.le_of_ble_eq_true rfl) rfl rfl rfl dX11_debtsIf_7 (kk_sV (fun I2 J2 h => ?_))
  refine wz_aload_n C rfl rfl dX11_debtsIf_10 ?_
  refine wz_getR C (j := 113) f_X11_debtsIf_73 rfl dX11_debtsIf_11 ?_
  refine wz_aload_n C rfl rfl dX11_debtsIf_14 ?_
  refine wz_getR C (j := 200) f_X11_debtsIf_40 rfl dX11_debtsIf_15 ?_
  refine wz_aload_n C rfl rfl dX11_debtsIf_18 ?_
  refine wz_getR C (j := 300) f_X11_debtsIf_53 rfl dX11_debtsIf_19 ?_
  refine wm_callV C (o := 113) (As := [.ref (kadr G 200), .ref (kadr G 300)]) (st := []) (a' := 1) (b' := 6) rfl rfl (k_X4_take G hG 200 300 I2 J2 _ h) 2 gX11_debtsIf_X4_take rfl (by decide +kernel) (by rw [hX]; exact ⟨Nat.le_of_ble_eq_true rfl, Nat.le_of_ble_eq_true rfl⟩) rfl (Nat.le_of_ble_eq_true rfl) rfl rfl rfl dX11_debtsIf_22 (kk_sV (fun I3 J3 h => ?_))
  refine wz_aload_n C rfl rfl dX11_debtsIf_25 ?_
  refine wz_getR C (j := 113) f_X11_debtsIf_73 rfl dX11_debtsIf_26 ?_
  refine wz_iload_n C rfl rfl dX11_debtsIf_29 ?_
  refine wz_iload_n C rfl rfl dX11_debtsIf_30 ?_
  refine wm_callV C (o := 113) (As := [.int (iZ l1), .int (iZ l2)]) (st := []) (a' := 1) (b' := 6) rfl rfl (k_X4_debtsWith G hG l1 l2 I3 J3 _ h) 2 gX11_debtsIf_X4_debtsWith rfl (by decide +kernel) (by rw [hX]; exact ⟨Nat.le_of_ble_eq_true rfl, Nat.le_of_ble_eq_true rfl⟩) rfl (Nat.le_of_ble_eq_true rfl) rfl rfl rfl dX11_debtsIf_31 (kk_sI (fun v4 I4 J4 h => ?_))
  exact False.elim h
def rmx_X11_stepsToEnd : Room := { frames := 7, cells := 1, slots := 6, locals := 153 }
set_option maxHeartbeats 4000000 in
set_option maxRecDepth 100000 in
theorem kx_X11_stepsToEnd (G : KG) (hG : Kok G) (hZ : KZx G) (l1 : Int) (I : Ii) (J : Jj) (Q : Nat → Ii → Jj → Prop) (h : xp_X11_stepsToEnd l1 I J Q) : CtrX G yX11_stepsToEnd wsX11_stepsToEnd rmx_X11_stepsToEnd [.ref (kadr G 100), .int (iZ l1)] (I, J) (QxE Q) := by
  unfold xp_X11_stepsToEnd at h
  skip
  refine CtrX.ofZ (cc := cX11_stepsToEnd) (nL := 3) (ret := (some .int)) [some (.ref (kadr G 100)), some (.int (iZ l1)), none] hG (by decide +kernel) rfl (Nat.le_of_ble_eq_true rfl) (Nat.le_of_ble_eq_true rfl) (by simp [lvA, lv_args, Value.category]) ?_
  intro X hX C hT
  refine wz_aload_n C rfl rfl dX11_stepsToEnd_0 ?_
  refine wz_iload_n C rfl rfl dX11_stepsToEnd_1 ?_
  rcases h with h | h
  · exact wx_callV C hT (o := 100) (As := [.int (iZ l1)]) (st := []) rfl rfl (kx_X11_requireTriedSteps G hG hZ l1 I J _ h) 1 gX11_stepsToEnd_X11_requireTriedSteps rfl (by decide +kernel) (by rw [hX]; exact ⟨Nat.le_of_ble_eq_true rfl, Nat.le_of_ble_eq_true rfl⟩) rfl (Nat.le_of_ble_eq_true rfl) (Nat.le_of_ble_eq_true rfl) (Nat.le_of_ble_eq_true rfl) rfl dX11_stepsToEnd_2
  refine wm_callV C (o := 100) (As := [.int (iZ l1)]) (st := []) (a' := 1) (b' := 6) rfl rfl (k_X11_requireTriedSteps G hG l1 I J _ h) 1 gX11_stepsToEnd_X11_requireTriedSteps rfl (by decide +kernel) (by rw [hX]; exact ⟨Nat.le_of_ble_eq_true rfl, Nat.le_of_ble_eq_true rfl⟩) rfl (Nat.le_of_ble_eq_true rfl) rfl rfl rfl dX11_stepsToEnd_2 (kk_sV (fun I1 J1 h => ?_))
  refine wz_aload_n C rfl rfl dX11_stepsToEnd_5 ?_
  refine wz_iload_n C rfl rfl dX11_stepsToEnd_6 ?_
  refine wm_callV C (o := 100) (As := [.int (iZ l1)]) (st := []) (a' := 1) (b' := 6) rfl rfl (k_X11_trySteps G hG l1 I1 J1 _ h) 1 gX11_stepsToEnd_X11_trySteps rfl (by decide +kernel) (by rw [hX]; exact ⟨Nat.le_of_ble_eq_true rfl, Nat.le_of_ble_eq_true rfl⟩) rfl (Nat.le_of_ble_eq_true rfl) rfl rfl rfl dX11_stepsToEnd_7 (kk_sI (fun v2 I2 J2 h => ?_))
  refine wz_istore_2 C rfl dX11_stepsToEnd_10 ?_
  refine wz_aload_n C rfl rfl dX11_stepsToEnd_11 ?_
  refine wz_getR C (j := 113) f_X11_stepsToEnd_73 rfl dX11_stepsToEnd_12 ?_
  refine wz_aload_n C rfl rfl dX11_stepsToEnd_15 ?_
  refine wz_getR C (j := 200) f_X11_stepsToEnd_40 rfl dX11_stepsToEnd_16 ?_
  refine wz_aload_n C rfl rfl dX11_stepsToEnd_19 ?_
  refine wz_getR C (j := 310) f_X11_stepsToEnd_57 rfl dX11_stepsToEnd_20 ?_
  refine wm_callV C (o := 113) (As := [.ref (kadr G 200), .ref (kadr G 310)]) (st := []) (a' := 1) (b' := 6) rfl rfl (k_X4_take G hG 200 310 I2 J2 _ h) 2 gX11_stepsToEnd_X4_take rfl (by decide +kernel) (by rw [hX]; exact ⟨Nat.le_of_ble_eq_true rfl, Nat.le_of_ble_eq_true rfl⟩) rfl (Nat.le_of_ble_eq_true rfl) rfl rfl rfl dX11_stepsToEnd_23 (kk_sV (fun I3 J3 h => ?_))
  refine wz_aload_n C rfl rfl dX11_stepsToEnd_26 ?_
  refine wz_getR C (j := 113) f_X11_stepsToEnd_73 rfl dX11_stepsToEnd_27 ?_
  refine wm_callV C (o := 113) (As := []) (st := []) (a' := 1) (b' := 6) rfl rfl (k_X4_chosenStep G hG I3 J3 _ h) 0 gX11_stepsToEnd_X4_chosenStep rfl (by decide +kernel) (by rw [hX]; exact ⟨Nat.le_of_ble_eq_true rfl, Nat.le_of_ble_eq_true rfl⟩) rfl (Nat.le_of_ble_eq_true rfl) rfl rfl rfl dX11_stepsToEnd_30 (kk_sI (fun v4 I4 J4 h => ?_))
  refine wz_iconst C dX11_stepsToEnd_33 ?_
  obtain ⟨g5, h⟩ := h
  refine wz_icmp_ne C (tgt := 41) g5 (by decide) dX11_stepsToEnd_34 (by decide) (fun c => ?_) (fun c => ?_)
  · replace h := h.1 c
    refine wz_iconst C dX11_stepsToEnd_41 ?_
    exact False.elim h
  · replace h := h.2 c
    refine wz_iload_n C rfl rfl dX11_stepsToEnd_37 ?_
    refine wz_goto C dX11_stepsToEnd_38 (tgt := 42) (by decide) ?_
    exact False.elim h
def rmx_X11_cutBehind : Room := { frames := 7, cells := 1, slots := 6, locals := 153 }
set_option maxHeartbeats 4000000 in
set_option maxRecDepth 100000 in
theorem kx_X11_cutBehind (G : KG) (hG : Kok G) (hZ : KZx G) (l1 : Int) (I : Ii) (J : Jj) (Q : Nat → Ii → Jj → Prop) (h : xp_X11_cutBehind l1 I J Q) : CtrX G yX11_cutBehind wsX11_cutBehind rmx_X11_cutBehind [.ref (kadr G 100), .int (iZ l1)] (I, J) (QxE Q) := by
  unfold xp_X11_cutBehind at h
  skip
  refine CtrX.ofZ (cc := cX11_cutBehind) (nL := 2) (ret := (some .int)) [some (.ref (kadr G 100)), some (.int (iZ l1))] hG (by decide +kernel) rfl (Nat.le_of_ble_eq_true rfl) (Nat.le_of_ble_eq_true rfl) (by simp [lvA, lv_args, Value.category]) ?_
  intro X hX C hT
  refine wz_aload_n C rfl rfl dX11_cutBehind_0 ?_
  refine wz_iload_n C rfl rfl dX11_cutBehind_1 ?_
  rcases h with h | h
  · exact wx_callV C hT (o := 100) (As := [.int (iZ l1)]) (st := []) rfl rfl (kx_X11_requireTriedSteps G hG hZ l1 I J _ h) 1 gX11_cutBehind_X11_requireTriedSteps rfl (by decide +kernel) (by rw [hX]; exact ⟨Nat.le_of_ble_eq_true rfl, Nat.le_of_ble_eq_true rfl⟩) rfl (Nat.le_of_ble_eq_true rfl) (Nat.le_of_ble_eq_true rfl) (Nat.le_of_ble_eq_true rfl) rfl dX11_cutBehind_2
  refine wm_callV C (o := 100) (As := [.int (iZ l1)]) (st := []) (a' := 1) (b' := 6) rfl rfl (k_X11_requireTriedSteps G hG l1 I J _ h) 1 gX11_cutBehind_X11_requireTriedSteps rfl (by decide +kernel) (by rw [hX]; exact ⟨Nat.le_of_ble_eq_true rfl, Nat.le_of_ble_eq_true rfl⟩) rfl (Nat.le_of_ble_eq_true rfl) rfl rfl rfl dX11_cutBehind_2 (kk_sV (fun I1 J1 h => ?_))
  refine wz_aload_n C rfl rfl dX11_cutBehind_5 ?_
  refine wz_iload_n C rfl rfl dX11_cutBehind_6 ?_
  refine wm_callV C (o := 100) (As := [.int (iZ l1)]) (st := []) (a' := 1) (b' := 6) rfl rfl (k_X11_trySteps G hG l1 I1 J1 _ h) 1 gX11_cutBehind_X11_trySteps rfl (by decide +kernel) (by rw [hX]; exact ⟨Nat.le_of_ble_eq_true rfl, Nat.le_of_ble_eq_true rfl⟩) rfl (Nat.le_of_ble_eq_true rfl) rfl rfl rfl dX11_cutBehind_7 (kk_sI (fun v2 I2 J2 h => ?_))
  refine wz_pop C rfl dX11_cutBehind_10 ?_
  refine wz_aload_n C rfl rfl dX11_cutBehind_11 ?_
  refine wz_getR C (j := 113) f_X11_cutBehind_73 rfl dX11_cutBehind_12 ?_
  refine wz_aload_n C rfl rfl dX11_cutBehind_15 ?_
  refine wz_getR C (j := 200) f_X11_cutBehind_40 rfl dX11_cutBehind_16 ?_
  refine wz_aload_n C rfl rfl dX11_cutBehind_19 ?_
  refine wz_getR C (j := 310) f_X11_cutBehind_57 rfl dX11_cutBehind_20 ?_
  refine wm_callV C (o := 113) (As := [.ref (kadr G 200), .ref (kadr G 310)]) (st := []) (a' := 1) (b' := 6) rfl rfl (k_X4_take G hG 200 310 I2 J2 _ h) 2 gX11_cutBehind_X4_take rfl (by decide +kernel) (by rw [hX]; exact ⟨Nat.le_of_ble_eq_true rfl, Nat.le_of_ble_eq_true rfl⟩) rfl (Nat.le_of_ble_eq_true rfl) rfl rfl rfl dX11_cutBehind_23 (kk_sV (fun I3 J3 h => ?_))
  refine wz_aload_n C rfl rfl dX11_cutBehind_26 ?_
  refine wz_getR C (j := 113) f_X11_cutBehind_73 rfl dX11_cutBehind_27 ?_
  refine wz_getI C rfl f_X11_cutBehind_357 rfl dX11_cutBehind_30 ?_
  exact False.elim h
def rmx_X11_event : Room := { frames := 6, cells := 1, slots := 6, locals := 90 }
set_option maxHeartbeats 4000000 in
set_option maxRecDepth 100000 in
theorem bkx_X11_event_15 (G : KG) (hG : Kok G) (hZ : KZx G) (X : KX) (hX : KR X = rmx_X11_event) (C : Fr G X cX11_event 3 yX11_event.cls (some .int) wsX11_event) (hT : noTab X) (l1 : Int) (l2 : Int) (Q : Nat → Ii → Jj → Prop)  (I : Ii) (J : Jj) (h : BX_X11_event_15 l1 l2 Q  I J) : Wz G X 3 (QsX G X (QxE Q)) 1 6 15 [none, none, none] [] I J := by
  unfold BX_X11_event_15 at h
  exact wx_throwSW (st := []) C hT hZ 1 (is := 444) (text := "no such event") (by decide) (by decide) (by decide +kernel) (by decide +kernel) (by decide +kernel) dX11_event_15 dX11_event_18 dX11_event_19 dX11_event_22 dX11_event_25 (by rw [hX]; exact ⟨Nat.le_of_ble_eq_true rfl, Nat.le_of_ble_eq_true rfl⟩) h
set_option maxHeartbeats 4000000 in
set_option maxRecDepth 100000 in
theorem bkx_X11_event_35 (G : KG) (hG : Kok G) (hZ : KZx G) (X : KX) (hX : KR X = rmx_X11_event) (C : Fr G X cX11_event 3 yX11_event.cls (some .int) wsX11_event) (hT : noTab X) (l1 : Int) (l2 : Int) (Q : Nat → Ii → Jj → Prop)  (I : Ii) (J : Jj) (h : BX_X11_event_35 l1 l2 Q  I J) : Wz G X 3 (QsX G X (QxE Q)) 1 6 35 [none, none, none] [] I J := by
  unfold BX_X11_event_35 at h
  exact wx_throwSW (st := []) C hT hZ 0 (is := 446) (text := "an event has the numbers 0 to 3") (by decide) (by decide) (by decide +kernel) (by decide +kernel) (by decide +kernel) dX11_event_35 dX11_event_38 dX11_event_39 dX11_event_42 dX11_event_45 (by rw [hX]; exact ⟨Nat.le_of_ble_eq_true rfl, Nat.le_of_ble_eq_true rfl⟩) h
set_option maxHeartbeats 4000000 in
set_option maxRecDepth 100000 in
theorem kx_X11_event (G : KG) (hG : Kok G) (hZ : KZx G) (l1 : Int) (l2 : Int) (I : Ii) (J : Jj) (Q : Nat → Ii → Jj → Prop) (h : xp_X11_event l1 l2 I J Q) : CtrX G yX11_event wsX11_event rmx_X11_event [.ref (kadr G 100), .int (iZ l1), .int (iZ l2)] (I, J) (QxE Q) := by
  unfold xp_X11_event at h
  skip
  refine CtrX.ofZ (cc := cX11_event) (nL := 3) (ret := (some .int)) [some (.ref (kadr G 100)), some (.int (iZ l1)), some (.int (iZ l2))] hG (by decide +kernel) rfl (Nat.le_of_ble_eq_true rfl) (Nat.le_of_ble_eq_true rfl) (by simp [lvA, lv_args, Value.category]) ?_
  intro X hX C hT
  refine wz_iload_n C rfl rfl dX11_event_0 ?_
  obtain ⟨g1, h⟩ := h
  refine wz_if_lt C (tgt := 15) g1 dX11_event_1 (by decide) (fun c => ?_) (fun c => ?_)
  · replace h := h.1 c
    exact Wz.drop (bkx_X11_event_15 G hG hZ X hX C hT l1 l2 Q I J h) trivial
  · replace h := h.2 c
    refine wz_iload_n C rfl rfl dX11_event_4 ?_
    refine wz_aload_n C rfl rfl dX11_event_5 ?_
    refine wz_getR C (j := 300) f_X11_event_53 rfl dX11_event_6 ?_
    refine wz_getI C rfl f_X11_event_441 rfl dX11_event_9 ?_
    obtain ⟨g2, h⟩ := h
    refine wz_icmp_lt C (tgt := 26) g1 g2 dX11_event_12 (by decide) (fun c => ?_) (fun c => ?_)
    · replace h := h.1 c
      refine wz_iload_n C rfl rfl dX11_event_26 ?_
      obtain ⟨g3, h⟩ := h
      refine wz_if_lt C (tgt := 35) g3 dX11_event_27 (by decide) (fun c => ?_) (fun c => ?_)
      · replace h := h.1 c
        exact Wz.drop (bkx_X11_event_35 G hG hZ X hX C hT l1 l2 Q I J h) trivial
      · replace h := h.2 c
        refine wz_iload_n C rfl rfl dX11_event_30 ?_
        refine wz_iconst C dX11_event_31 ?_
        refine wz_icmp_lt C (tgt := 46) g3 (by decide) dX11_event_32 (by decide) (fun c => ?_) (fun c => ?_)
        · replace h := h.1 c
          refine wz_aload_n C rfl rfl dX11_event_46 ?_
          refine wz_getR C (j := 300) f_X11_event_53 rfl dX11_event_47 ?_
          refine wz_getR C (j := 304) f_X11_event_448 rfl dX11_event_50 ?_
          refine wz_iload_n C rfl rfl dX11_event_53 ?_
          refine wz_iconst C dX11_event_54 ?_
          refine wz_imul C dX11_event_55 ?_
          refine wz_iload_n C rfl rfl dX11_event_56 ?_
          refine wz_iadd C dX11_event_57 ?_
          refine wm_callS C (As := [.ref (kadr G 304), .int (iZ ((l1 * 4) + l2))]) (st := []) (a' := 1) (b' := 6) (k_X11_at G hG 304 ((l1 * 4) + l2) I J _ h) 2 gX11_event_X11_at rfl (by decide +kernel) (by rw [hX]; exact ⟨Nat.le_of_ble_eq_true rfl, Nat.le_of_ble_eq_true rfl⟩) rfl (Nat.le_of_ble_eq_true rfl) rfl rfl rfl dX11_event_58 (kk_sI (fun v4 I4 J4 h => ?_))
          exact False.elim h
        · replace h := h.2 c
          exact Wz.drop (bkx_X11_event_35 G hG hZ X hX C hT l1 l2 Q I J h) trivial
    · replace h := h.2 c
      exact Wz.drop (bkx_X11_event_15 G hG hZ X hX C hT l1 l2 Q I J h) trivial
def rmx_X11_shrink : Room := { frames := 6, cells := 1, slots := 6, locals := 124 }
set_option maxHeartbeats 4000000 in
set_option maxRecDepth 100000 in
theorem kx_X11_shrink (G : KG) (hG : Kok G) (hZ : KZx G) (I : Ii) (J : Jj) (Q : Nat → Ii → Jj → Prop) (h : xp_X11_shrink I J Q) : CtrX G yX11_shrink wsX11_shrink rmx_X11_shrink [.ref (kadr G 100)] (I, J) (QxE Q) := by
  unfold xp_X11_shrink at h
  skip
  refine CtrX.ofZ (cc := cX11_shrink) (nL := 1) (ret := (some .int)) [some (.ref (kadr G 100))] hG (by decide +kernel) rfl (Nat.le_of_ble_eq_true rfl) (Nat.le_of_ble_eq_true rfl) (by simp [lvA, lv_args, Value.category]) ?_
  intro X hX C hT
  refine wz_aload_n C rfl rfl dX11_shrink_0 ?_
  refine wm_callV C (o := 100) (As := []) (st := []) (a' := 1) (b' := 6) rfl rfl (k_X11_whyNotShrink G hG I J _ h) 0 gX11_shrink_X11_whyNotShrink rfl (by decide +kernel) (by rw [hX]; exact ⟨Nat.le_of_ble_eq_true rfl, Nat.le_of_ble_eq_true rfl⟩) rfl (Nat.le_of_ble_eq_true rfl) rfl rfl rfl dX11_shrink_1 (kk_sI (fun v1 I1 J1 h => ?_))
  obtain ⟨g2, h⟩ := h
  refine wz_if_eq C (tgt := 18) g2 dX11_shrink_4 (by decide) (fun c => ?_) (fun c => ?_)
  · replace h := h.1 c
    refine wz_aload_n C rfl rfl dX11_shrink_18 ?_
    refine wz_getR C (j := 111) f_X11_shrink_66 rfl dX11_shrink_19 ?_
    refine wz_aload_n C rfl rfl dX11_shrink_22 ?_
    refine wz_getR C (j := 300) f_X11_shrink_53 rfl dX11_shrink_23 ?_
    refine wm_callV C (o := 111) (As := [.ref (kadr G 300)]) (st := []) (a' := 1) (b' := 6) rfl rfl (k_X3_keep G hG 300 I1 J1 _ h) 1 gX11_shrink_X3_keep rfl (by decide +kernel) (by rw [hX]; exact ⟨Nat.le_of_ble_eq_true rfl, Nat.le_of_ble_eq_true rfl⟩) rfl (Nat.le_of_ble_eq_true rfl) rfl rfl rfl dX11_shrink_26 (kk_sV (fun I3 J3 h => ?_))
    refine wz_aload_n C rfl rfl dX11_shrink_29 ?_
    refine wm_callV C (o := 100) (As := []) (st := []) (a' := 1) (b' := 6) rfl rfl (k_X11_mergeGroups G hG I3 J3 _ h) 0 gX11_shrink_X11_mergeGroups rfl (by decide +kernel) (by rw [hX]; exact ⟨Nat.le_of_ble_eq_true rfl, Nat.le_of_ble_eq_true rfl⟩) rfl (Nat.le_of_ble_eq_true rfl) rfl rfl rfl dX11_shrink_30 (kk_sV (fun I4 J4 h => ?_))
    refine wz_aload_n C rfl rfl dX11_shrink_33 ?_
    refine wz_getR C (j := 300) f_X11_shrink_53 rfl dX11_shrink_34 ?_
    refine wm_callV C (o := 300) (As := []) (st := []) (a' := 1) (b' := 6) rfl rfl (k_X8_groupCount G hG 300 I4 J4 _ h) 0 gX11_shrink_X8_groupCount rfl (by decide +kernel) (by rw [hX]; exact ⟨Nat.le_of_ble_eq_true rfl, Nat.le_of_ble_eq_true rfl⟩) rfl (Nat.le_of_ble_eq_true rfl) rfl rfl rfl dX11_shrink_37 (kk_sI (fun v5 I5 J5 h => ?_))
    exact False.elim h
  · replace h := h.2 c
    exact wx_throwSW (st := []) C hT hZ 2 (is := 451) (text := "there is a reason against shrinking") (by decide) (by decide) (by decide +kernel) (by decide +kernel) (by decide +kernel) dX11_shrink_7 dX11_shrink_10 dX11_shrink_11 dX11_shrink_14 dX11_shrink_17 (by rw [hX]; exact ⟨Nat.le_of_ble_eq_true rfl, Nat.le_of_ble_eq_true rfl⟩) h
def rmx_X11_grow : Room := { frames := 6, cells := 1, slots := 6, locals := 124 }
set_option maxHeartbeats 4000000 in
set_option maxRecDepth 100000 in
theorem kx_X11_grow (G : KG) (hG : Kok G) (hZ : KZx G) (I : Ii) (J : Jj) (Q : Nat → Ii → Jj → Prop) (h : xp_X11_grow I J Q) : CtrX G yX11_grow wsX11_grow rmx_X11_grow [.ref (kadr G 100)] (I, J) (QxE Q) := by
  unfold xp_X11_grow at h
  skip
  refine CtrX.ofZ (cc := cX11_grow) (nL := 1) (ret := (some .int)) [some (.ref (kadr G 100))] hG (by decide +kernel) rfl (Nat.le_of_ble_eq_true rfl) (Nat.le_of_ble_eq_true rfl) (by simp [lvA, lv_args, Value.category]) ?_
  intro X hX C hT
  refine wz_aload_n C rfl rfl dX11_grow_0 ?_
  refine wz_getR C (j := 300) f_X11_grow_53 rfl dX11_grow_1 ?_
  refine wz_getI C rfl f_X11_grow_192 rfl dX11_grow_4 ?_
  obtain ⟨g1, h⟩ := h
  refine wz_if_ne C (tgt := 21) g1 dX11_grow_7 (by decide) (fun c => ?_) (fun c => ?_)
  · replace h := h.1 c
    refine wz_aload_n C rfl rfl dX11_grow_21 ?_
    refine wz_getR C (j := 111) f_X11_grow_66 rfl dX11_grow_22 ?_
    refine wz_aload_n C rfl rfl dX11_grow_25 ?_
    refine wz_getR C (j := 300) f_X11_grow_53 rfl dX11_grow_26 ?_
    refine wm_callV C (o := 111) (As := [.ref (kadr G 300)]) (st := []) (a' := 1) (b' := 6) rfl rfl (k_X3_keep G hG 300 I J _ h) 1 gX11_grow_X3_keep rfl (by decide +kernel) (by rw [hX]; exact ⟨Nat.le_of_ble_eq_true rfl, Nat.le_of_ble_eq_true rfl⟩) rfl (Nat.le_of_ble_eq_true rfl) rfl rfl rfl dX11_grow_29 (kk_sV (fun I2 J2 h => ?_))
    refine wz_aload_n C rfl rfl dX11_grow_32 ?_
    refine wz_getR C (j := 300) f_X11_grow_53 rfl dX11_grow_33 ?_
    refine wz_dup C rfl dX11_grow_36 ?_
    refine wz_getI C rfl f_X11_grow_192 rfl dX11_grow_37 ?_
    refine wz_iconst C dX11_grow_40 ?_
    refine wz_isub C dX11_grow_41 ?_
    refine wd_putI C f_X11_grow_192 fp_X8_0 rfl dX11_grow_42 (fun I3 e => ?_)
    replace h := h I3 e
    refine wz_aload_n C rfl rfl dX11_grow_45 ?_
    refine wz_getR C (j := 300) f_X11_grow_53 rfl dX11_grow_46 ?_
    refine wm_callV C (o := 300) (As := []) (st := []) (a' := 1) (b' := 6) rfl rfl (k_X8_groupCount G hG 300 I3 J2 _ h) 0 gX11_grow_X8_groupCount rfl (by decide +kernel) (by rw [hX]; exact ⟨Nat.le_of_ble_eq_true rfl, Nat.le_of_ble_eq_true rfl⟩) rfl (Nat.le_of_ble_eq_true rfl) rfl rfl rfl dX11_grow_49 (kk_sI (fun v4 I4 J4 h => ?_))
    exact False.elim h
  · replace h := h.2 c
    exact wx_throwSW (st := []) C hT hZ 2 (is := 460) (text := "the level is 0") (by decide) (by decide) (by decide +kernel) (by decide +kernel) (by decide +kernel) dX11_grow_10 dX11_grow_13 dX11_grow_14 dX11_grow_17 dX11_grow_20 (by rw [hX]; exact ⟨Nat.le_of_ble_eq_true rfl, Nat.le_of_ble_eq_true rfl⟩) h
def rmx_X11_move : Room := { frames := 8, cells := 1, slots := 6, locals := 133 }
set_option maxHeartbeats 4000000 in
set_option maxRecDepth 100000 in
theorem kx_X11_move (G : KG) (hG : Kok G) (hZ : KZx G) (l1 : Int) (l2 : Int) (I : Ii) (J : Jj) (Q : Nat → Ii → Jj → Prop) (h : xp_X11_move l1 l2 I J Q) : CtrX G yX11_move wsX11_move rmx_X11_move [.ref (kadr G 100), .int (iZ l1), .int (iZ l2)] (I, J) (QxE Q) := by
  unfold xp_X11_move at h
  skip
  refine CtrX.ofZ (cc := cX11_move) (nL := 3) (ret := (some .int)) [some (.ref (kadr G 100)), some (.int (iZ l1)), some (.int (iZ l2))] hG (by decide +kernel) rfl (Nat.le_of_ble_eq_true rfl) (Nat.le_of_ble_eq_true rfl) (by simp [lvA, lv_args, Value.category]) ?_
  intro X hX C hT
  refine wz_aload_n C rfl rfl dX11_move_0 ?_
  refine wz_iload_n C rfl rfl dX11_move_1 ?_
  refine wz_iload_n C rfl rfl dX11_move_2 ?_
  rcases h with h | h
  · exact wx_callV C hT (o := 100) (As := [.int (iZ l1), .int (iZ l2)]) (st := []) rfl rfl (kx_X11_whyNotMove G hG hZ l1 l2 I J _ h) 2 gX11_move_X11_whyNotMove rfl (by decide +kernel) (by rw [hX]; exact ⟨Nat.le_of_ble_eq_true rfl, Nat.le_of_ble_eq_true rfl⟩) rfl (Nat.le_of_ble_eq_true rfl) (Nat.le_of_ble_eq_true rfl) (Nat.le_of_ble_eq_true rfl) rfl dX11_move_3
  refine wm_callV C (o := 100) (As := [.int (iZ l1), .int (iZ l2)]) (st := []) (a' := 1) (b' := 6) rfl rfl (k_X11_whyNotMove G hG l1 l2 I J _ h) 2 gX11_move_X11_whyNotMove rfl (by decide +kernel) (by rw [hX]; exact ⟨Nat.le_of_ble_eq_true rfl, Nat.le_of_ble_eq_true rfl⟩) rfl (Nat.le_of_ble_eq_true rfl) rfl rfl rfl dX11_move_3 (kk_sI (fun v1 I1 J1 h => ?_))
  obtain ⟨g2, h⟩ := h
  refine wz_if_eq C (tgt := 20) g2 dX11_move_6 (by decide) (fun c => ?_) (fun c => ?_)
  · replace h := h.1 c
    refine wz_aload_n C rfl rfl dX11_move_20 ?_
    refine wz_getR C (j := 111) f_X11_move_66 rfl dX11_move_21 ?_
    refine wz_aload_n C rfl rfl dX11_move_24 ?_
    refine wz_getR C (j := 300) f_X11_move_53 rfl dX11_move_25 ?_
    refine wm_callV C (o := 111) (As := [.ref (kadr G 300)]) (st := []) (a' := 1) (b' := 6) rfl rfl (k_X3_keep G hG 300 I1 J1 _ h) 1 gX11_move_X3_keep rfl (by decide +kernel) (by rw [hX]; exact ⟨Nat.le_of_ble_eq_true rfl, Nat.le_of_ble_eq_true rfl⟩) rfl (Nat.le_of_ble_eq_true rfl) rfl rfl rfl dX11_move_28 (kk_sV (fun I3 J3 h => ?_))
    refine wz_aload_n C rfl rfl dX11_move_31 ?_
    refine wz_iload_n C rfl rfl dX11_move_32 ?_
    refine wz_iload_n C rfl rfl dX11_move_33 ?_
    refine wm_callV C (o := 100) (As := [.int (iZ l1), .int (iZ l2)]) (st := []) (a' := 1) (b' := 6) rfl rfl (k_X11_takeTo G hG l1 l2 I3 J3 _ h) 2 gX11_move_X11_takeTo rfl (by decide +kernel) (by rw [hX]; exact ⟨Nat.le_of_ble_eq_true rfl, Nat.le_of_ble_eq_true rfl⟩) rfl (Nat.le_of_ble_eq_true rfl) rfl rfl rfl dX11_move_34 (kk_sV (fun I4 J4 h => ?_))
    refine wz_aload_n C rfl rfl dX11_move_37 ?_
    refine wm_callV C (o := 100) (As := []) (st := []) (a' := 1) (b' := 6) rfl rfl (k_X11_cut G hG I4 J4 _ h) 0 gX11_move_X11_cut rfl (by decide +kernel) (by rw [hX]; exact ⟨Nat.le_of_ble_eq_true rfl, Nat.le_of_ble_eq_true rfl⟩) rfl (Nat.le_of_ble_eq_true rfl) rfl rfl rfl dX11_move_38 (kk_sI (fun v5 I5 J5 h => ?_))
    exact False.elim h
  · replace h := h.2 c
    exact wx_throwSW (st := []) C hT hZ 2 (is := 462) (text := "there is a reason against the move") (by decide) (by decide) (by decide +kernel) (by decide +kernel) (by decide +kernel) dX11_move_9 dX11_move_12 dX11_move_13 dX11_move_16 dX11_move_19 (by rw [hX]; exact ⟨Nat.le_of_ble_eq_true rfl, Nat.le_of_ble_eq_true rfl⟩) h
def rmx_X11_steps : Room := { frames := 6, cells := 1, slots := 6, locals := 132 }
set_option maxHeartbeats 4000000 in
set_option maxRecDepth 100000 in
theorem kx_X11_steps (G : KG) (hG : Kok G) (hZ : KZx G) (l1 : Int) (I : Ii) (J : Jj) (Q : Nat → Ii → Jj → Prop) (h : xp_X11_steps l1 I J Q) : CtrX G yX11_steps wsX11_steps rmx_X11_steps [.ref (kadr G 100), .int (iZ l1)] (I, J) (QxE Q) := by
  unfold xp_X11_steps at h
  skip
  refine CtrX.ofZ (cc := cX11_steps) (nL := 2) (ret := (some .int)) [some (.ref (kadr G 100)), some (.int (iZ l1))] hG (by decide +kernel) rfl (Nat.le_of_ble_eq_true rfl) (Nat.le_of_ble_eq_true rfl) (by simp [lvA, lv_args, Value.category]) ?_
  intro X hX C hT
  refine wz_aload_n C rfl rfl dX11_steps_0 ?_
  refine wz_iload_n C rfl rfl dX11_steps_1 ?_
  refine wm_callV C (o := 100) (As := [.int (iZ l1)]) (st := []) (a' := 1) (b' := 6) rfl rfl (k_X11_isStepCount G hG l1 I J _ h) 1 gX11_steps_X11_isStepCount rfl (by decide +kernel) (by rw [hX]; exact ⟨Nat.le_of_ble_eq_true rfl, Nat.le_of_ble_eq_true rfl⟩) rfl (Nat.le_of_ble_eq_true rfl) rfl rfl rfl dX11_steps_2 (kk_sB (fun v1 I1 J1 hb1 h => ?_))
  refine wz_if_ne C (tgt := 19) (rgB hb1) dX11_steps_5 (by decide) (fun c => ?_) (fun c => ?_)
  · replace h := h.1 c
    refine wz_aload_n C rfl rfl dX11_steps_19 ?_
    refine wz_getR C (j := 111) f_X11_steps_66 rfl dX11_steps_20 ?_
    refine wz_aload_n C rfl rfl dX11_steps_23 ?_
    refine wz_getR C (j := 300) f_X11_steps_53 rfl dX11_steps_24 ?_
    refine wm_callV C (o := 111) (As := [.ref (kadr G 300)]) (st := []) (a' := 1) (b' := 6) rfl rfl (k_X3_keep G hG 300 I1 J1 _ h) 1 gX11_steps_X3_keep rfl (by decide +kernel) (by rw [hX]; exact ⟨Nat.le_of_ble_eq_true rfl, Nat.le_of_ble_eq_true rfl⟩) rfl (Nat.le_of_ble_eq_true rfl) rfl rfl rfl dX11_steps_27 (kk_sV (fun I2 J2 h => ?_))
    refine wz_aload_n C rfl rfl dX11_steps_30 ?_
    refine wz_aload_n C rfl rfl dX11_steps_31 ?_
    refine wz_getR C (j := 300) f_X11_steps_53 rfl dX11_steps_32 ?_
    refine wz_iload_n C rfl rfl dX11_steps_35 ?_
    refine wm_callV C (o := 100) (As := [.ref (kadr G 300), .int (iZ l1)]) (st := []) (a' := 1) (b' := 6) rfl rfl (k_X11_makeSteps G hG 300 l1 I2 J2 _ h) 2 gX11_steps_X11_makeSteps rfl (by decide +kernel) (by rw [hX]; exact ⟨Nat.le_of_ble_eq_true rfl, Nat.le_of_ble_eq_true rfl⟩) rfl (Nat.le_of_ble_eq_true rfl) rfl rfl rfl dX11_steps_36 (kk_sI (fun v3 I3 J3 h => ?_))
    exact False.elim h
  · replace h := h.2 c
    exact wx_throwSW (st := []) C hT hZ 0 (is := 475) (text := "1 to 99 steps can be made") (by decide) (by decide) (by decide +kernel) (by decide +kernel) (by decide +kernel) dX11_steps_8 dX11_steps_11 dX11_steps_12 dX11_steps_15 dX11_steps_18 (by rw [hX]; exact ⟨Nat.le_of_ble_eq_true rfl, Nat.le_of_ble_eq_true rfl⟩) h
def rmx_X11_placeBest : Room := { frames := 6, cells := 1, slots := 6, locals := 154 }
set_option maxHeartbeats 4000000 in
set_option maxRecDepth 100000 in
theorem kx_X11_placeBest (G : KG) (hG : Kok G) (hZ : KZx G) (I : Ii) (J : Jj) (Q : Nat → Ii → Jj → Prop) (h : xp_X11_placeBest I J Q) : CtrX G yX11_placeBest wsX11_placeBest rmx_X11_placeBest [.ref (kadr G 100)] (I, J) (QxE Q) := by
  unfold xp_X11_placeBest at h
  skip
  refine CtrX.ofZ (cc := cX11_placeBest) (nL := 1) (ret := (some .int)) [some (.ref (kadr G 100))] hG (by decide +kernel) rfl (Nat.le_of_ble_eq_true rfl) (Nat.le_of_ble_eq_true rfl) (by simp [lvA, lv_args, Value.category]) ?_
  intro X hX C hT
  refine wz_aload_n C rfl rfl dX11_placeBest_0 ?_
  refine wm_callV C (o := 100) (As := []) (st := []) (a' := 1) (b' := 6) rfl rfl (k_X11_hasFewGroups G hG I J _ h) 0 gX11_placeBest_X11_hasFewGroups rfl (by decide +kernel) (by rw [hX]; exact ⟨Nat.le_of_ble_eq_true rfl, Nat.le_of_ble_eq_true rfl⟩) rfl (Nat.le_of_ble_eq_true rfl) rfl rfl rfl dX11_placeBest_1 (kk_sB (fun v1 I1 J1 hb1 h => ?_))
  refine wz_if_ne C (tgt := 18) (rgB hb1) dX11_placeBest_4 (by decide) (fun c => ?_) (fun c => ?_)
  · replace h := h.1 c
    refine wz_aload_n C rfl rfl dX11_placeBest_18 ?_
    refine wz_getR C (j := 111) f_X11_placeBest_66 rfl dX11_placeBest_19 ?_
    refine wz_aload_n C rfl rfl dX11_placeBest_22 ?_
    refine wz_getR C (j := 300) f_X11_placeBest_53 rfl dX11_placeBest_23 ?_
    refine wm_callV C (o := 111) (As := [.ref (kadr G 300)]) (st := []) (a' := 1) (b' := 6) rfl rfl (k_X3_keep G hG 300 I1 J1 _ h) 1 gX11_placeBest_X3_keep rfl (by decide +kernel) (by rw [hX]; exact ⟨Nat.le_of_ble_eq_true rfl, Nat.le_of_ble_eq_true rfl⟩) rfl (Nat.le_of_ble_eq_true rfl) rfl rfl rfl dX11_placeBest_26 (kk_sV (fun I2 J2 h => ?_))
    refine wz_aload_n C rfl rfl dX11_placeBest_29 ?_
    refine wm_callV C (o := 100) (As := []) (st := []) (a' := 1) (b' := 6) rfl rfl (k_X11_searchBest G hG I2 J2 _ h) 0 gX11_placeBest_X11_searchBest rfl (by decide +kernel) (by rw [hX]; exact ⟨Nat.le_of_ble_eq_true rfl, Nat.le_of_ble_eq_true rfl⟩) rfl (Nat.le_of_ble_eq_true rfl) rfl rfl rfl dX11_placeBest_30 (kk_sV (fun I3 J3 h => ?_))
    refine wz_aload_n C rfl rfl dX11_placeBest_33 ?_
    refine wm_callV C (o := 100) (As := []) (st := []) (a' := 1) (b' := 6) rfl rfl (k_X11_takeBest G hG I3 J3 _ h) 0 gX11_placeBest_X11_takeBest rfl (by decide +kernel) (by rw [hX]; exact ⟨Nat.le_of_ble_eq_true rfl, Nat.le_of_ble_eq_true rfl⟩) rfl (Nat.le_of_ble_eq_true rfl) rfl rfl rfl dX11_placeBest_34 (kk_sI (fun v4 I4 J4 h => ?_))
    exact False.elim h
  · replace h := h.2 c
    exact wx_throwSW (st := []) C hT hZ 2 (is := 477) (text := "there are more than 7 groups") (by decide) (by decide) (by decide +kernel) (by decide +kernel) (by decide +kernel) dX11_placeBest_7 dX11_placeBest_10 dX11_placeBest_11 dX11_placeBest_14 dX11_placeBest_17 (by rw [hX]; exact ⟨Nat.le_of_ble_eq_true rfl, Nat.le_of_ble_eq_true rfl⟩) h
def rmx_X11_placeApart : Room := { frames := 7, cells := 1, slots := 6, locals := 155 }
set_option maxHeartbeats 4000000 in
set_option maxRecDepth 100000 in
theorem kx_X11_placeApart (G : KG) (hG : Kok G) (hZ : KZx G) (l1 : Int) (l2 : Int) (I : Ii) (J : Jj) (Q : Nat → Ii → Jj → Prop) (h : xp_X11_placeApart l1 l2 I J Q) : CtrX G yX11_placeApart wsX11_placeApart rmx_X11_placeApart [.ref (kadr G 100), .int (iZ l1), .int (iZ l2)] (I, J) (QxE Q) := by
  unfold xp_X11_placeApart at h
  skip
  refine CtrX.ofZ (cc := cX11_placeApart) (nL := 3) (ret := (some .int)) [some (.ref (kadr G 100)), some (.int (iZ l1)), some (.int (iZ l2))] hG (by decide +kernel) rfl (Nat.le_of_ble_eq_true rfl) (Nat.le_of_ble_eq_true rfl) (by simp [lvA, lv_args, Value.category]) ?_
  intro X hX C hT
  refine wz_aload_n C rfl rfl dX11_placeApart_0 ?_
  refine wz_iload_n C rfl rfl dX11_placeApart_1 ?_
  rcases h with h | h
  · exact wx_callV C hT (o := 100) (As := [.int (iZ l1)]) (st := []) rfl rfl (kx_X11_requireVertex G hG hZ l1 I J _ h) 1 gX11_placeApart_X11_requireVertex rfl (by decide +kernel) (by rw [hX]; exact ⟨Nat.le_of_ble_eq_true rfl, Nat.le_of_ble_eq_true rfl⟩) rfl (Nat.le_of_ble_eq_true rfl) (Nat.le_of_ble_eq_true rfl) (Nat.le_of_ble_eq_true rfl) rfl dX11_placeApart_2
  refine wm_callV C (o := 100) (As := [.int (iZ l1)]) (st := []) (a' := 1) (b' := 6) rfl rfl (k_X11_requireVertex G hG l1 I J _ h) 1 gX11_placeApart_X11_requireVertex rfl (by decide +kernel) (by rw [hX]; exact ⟨Nat.le_of_ble_eq_true rfl, Nat.le_of_ble_eq_true rfl⟩) rfl (Nat.le_of_ble_eq_true rfl) rfl rfl rfl dX11_placeApart_2 (kk_sV (fun I1 J1 h => ?_))
  refine wz_aload_n C rfl rfl dX11_placeApart_5 ?_
  refine wz_iload_n C rfl rfl dX11_placeApart_6 ?_
  rcases h with h | h
  · exact wx_callV C hT (o := 100) (As := [.int (iZ l2)]) (st := []) rfl rfl (kx_X11_requireVertex G hG hZ l2 I1 J1 _ h) 1 gX11_placeApart_X11_requireVertex rfl (by decide +kernel) (by rw [hX]; exact ⟨Nat.le_of_ble_eq_true rfl, Nat.le_of_ble_eq_true rfl⟩) rfl (Nat.le_of_ble_eq_true rfl) (Nat.le_of_ble_eq_true rfl) (Nat.le_of_ble_eq_true rfl) rfl dX11_placeApart_7
  refine wm_callV C (o := 100) (As := [.int (iZ l2)]) (st := []) (a' := 1) (b' := 6) rfl rfl (k_X11_requireVertex G hG l2 I1 J1 _ h) 1 gX11_placeApart_X11_requireVertex rfl (by decide +kernel) (by rw [hX]; exact ⟨Nat.le_of_ble_eq_true rfl, Nat.le_of_ble_eq_true rfl⟩) rfl (Nat.le_of_ble_eq_true rfl) rfl rfl rfl dX11_placeApart_7 (kk_sV (fun I2 J2 h => ?_))
  refine wz_iload_n C rfl rfl dX11_placeApart_10 ?_
  refine wz_iload_n C rfl rfl dX11_placeApart_11 ?_
  obtain ⟨g3, h⟩ := h
  obtain ⟨g4, h⟩ := h
  refine wz_icmp_ne C (tgt := 26) g3 g4 dX11_placeApart_12 (by decide) (fun c => ?_) (fun c => ?_)
  · replace h := h.1 c
    refine wz_aload_n C rfl rfl dX11_placeApart_26 ?_
    refine wm_callV C (o := 100) (As := []) (st := []) (a' := 1) (b' := 6) rfl rfl (k_X11_canTakeApart G hG I2 J2 _ h) 0 gX11_placeApart_X11_canTakeApart rfl (by decide +kernel) (by rw [hX]; exact ⟨Nat.le_of_ble_eq_true rfl, Nat.le_of_ble_eq_true rfl⟩) rfl (Nat.le_of_ble_eq_true rfl) rfl rfl rfl dX11_placeApart_27 (kk_sB (fun v5 I5 J5 hb5 h => ?_))
    refine wz_if_ne C (tgt := 44) (rgB hb5) dX11_placeApart_30 (by decide) (fun c => ?_) (fun c => ?_)
    · replace h := h.1 c
      refine wz_aload_n C rfl rfl dX11_placeApart_44 ?_
      refine wz_getR C (j := 111) f_X11_placeApart_66 rfl dX11_placeApart_45 ?_
      refine wz_aload_n C rfl rfl dX11_placeApart_48 ?_
      refine wz_getR C (j := 300) f_X11_placeApart_53 rfl dX11_placeApart_49 ?_
      refine wm_callV C (o := 111) (As := [.ref (kadr G 300)]) (st := []) (a' := 1) (b' := 6) rfl rfl (k_X3_keep G hG 300 I5 J5 _ h) 1 gX11_placeApart_X3_keep rfl (by decide +kernel) (by rw [hX]; exact ⟨Nat.le_of_ble_eq_true rfl, Nat.le_of_ble_eq_true rfl⟩) rfl (Nat.le_of_ble_eq_true rfl) rfl rfl rfl dX11_placeApart_52 (kk_sV (fun I6 J6 h => ?_))
      refine wz_aload_n C rfl rfl dX11_placeApart_55 ?_
      refine wz_iload_n C rfl rfl dX11_placeApart_56 ?_
      refine wz_iload_n C rfl rfl dX11_placeApart_57 ?_
      refine wm_callV C (o := 100) (As := [.int (iZ l1), .int (iZ l2)]) (st := []) (a' := 1) (b' := 6) rfl rfl (k_X11_takeApart G hG l1 l2 I6 J6 _ h) 2 gX11_placeApart_X11_takeApart rfl (by decide +kernel) (by rw [hX]; exact ⟨Nat.le_of_ble_eq_true rfl, Nat.le_of_ble_eq_true rfl⟩) rfl (Nat.le_of_ble_eq_true rfl) rfl rfl rfl dX11_placeApart_58 (kk_sI (fun v7 I7 J7 h => ?_))
      exact False.elim h
    · replace h := h.2 c
      exact wx_throwSW (st := []) C hT hZ 2 (is := 484) (text := "there are not 2 parts, or the level is not 0") (by decide) (by decide) (by decide +kernel) (by decide +kernel) (by decide +kernel) dX11_placeApart_33 dX11_placeApart_36 dX11_placeApart_37 dX11_placeApart_40 dX11_placeApart_43 (by rw [hX]; exact ⟨Nat.le_of_ble_eq_true rfl, Nat.le_of_ble_eq_true rfl⟩) h
  · replace h := h.2 c
    exact wx_throwSW (st := []) C hT hZ 0 (is := 482) (text := "the two vertices are the same") (by decide) (by decide) (by decide +kernel) (by decide +kernel) (by decide +kernel) dX11_placeApart_15 dX11_placeApart_18 dX11_placeApart_19 dX11_placeApart_22 dX11_placeApart_25 (by rw [hX]; exact ⟨Nat.le_of_ble_eq_true rfl, Nat.le_of_ble_eq_true rfl⟩) h
def rmx_X11_setCredit : Room := { frames := 6, cells := 1, slots := 6, locals := 124 }
set_option maxHeartbeats 4000000 in
set_option maxRecDepth 100000 in
theorem kx_X11_setCredit (G : KG) (hG : Kok G) (hZ : KZx G) (l1 : Int) (I : Ii) (J : Jj) (Q : Nat → Ii → Jj → Prop) (h : xp_X11_setCredit l1 I J Q) : CtrX G yX11_setCredit wsX11_setCredit rmx_X11_setCredit [.ref (kadr G 100), .int (iZ l1)] (I, J) (QxE Q) := by
  unfold xp_X11_setCredit at h
  skip
  refine CtrX.ofZ (cc := cX11_setCredit) (nL := 3) (ret := (some .int)) [some (.ref (kadr G 100)), some (.int (iZ l1)), none] hG (by decide +kernel) rfl (Nat.le_of_ble_eq_true rfl) (Nat.le_of_ble_eq_true rfl) (by simp [lvA, lv_args, Value.category]) ?_
  intro X hX C hT
  refine wz_aload_n C rfl rfl dX11_setCredit_0 ?_
  refine wz_iload_n C rfl rfl dX11_setCredit_1 ?_
  refine wm_callV C (o := 100) (As := [.int (iZ l1)]) (st := []) (a' := 1) (b' := 6) rfl rfl (k_X11_isAllowance G hG l1 I J _ h) 1 gX11_setCredit_X11_isAllowance rfl (by decide +kernel) (by rw [hX]; exact ⟨Nat.le_of_ble_eq_true rfl, Nat.le_of_ble_eq_true rfl⟩) rfl (Nat.le_of_ble_eq_true rfl) rfl rfl rfl dX11_setCredit_2 (kk_sB (fun v1 I1 J1 hb1 h => ?_))
  refine wz_if_ne C (tgt := 19) (rgB hb1) dX11_setCredit_5 (by decide) (fun c => ?_) (fun c => ?_)
  · replace h := h.1 c
    refine wz_aload_n C rfl rfl dX11_setCredit_19 ?_
    refine wz_getR C (j := 111) f_X11_setCredit_66 rfl dX11_setCredit_20 ?_
    refine wz_aload_n C rfl rfl dX11_setCredit_23 ?_
    refine wz_getR C (j := 300) f_X11_setCredit_53 rfl dX11_setCredit_24 ?_
    refine wm_callV C (o := 111) (As := [.ref (kadr G 300)]) (st := []) (a' := 1) (b' := 6) rfl rfl (k_X3_keep G hG 300 I1 J1 _ h) 1 gX11_setCredit_X3_keep rfl (by decide +kernel) (by rw [hX]; exact ⟨Nat.le_of_ble_eq_true rfl, Nat.le_of_ble_eq_true rfl⟩) rfl (Nat.le_of_ble_eq_true rfl) rfl rfl rfl dX11_setCredit_27 (kk_sV (fun I2 J2 h => ?_))
    refine wz_aload_n C rfl rfl dX11_setCredit_30 ?_
    refine wz_getR C (j := 300) f_X11_setCredit_53 rfl dX11_setCredit_31 ?_
    refine wz_getI C rfl f_X11_setCredit_245 rfl dX11_setCredit_34 ?_
    refine wz_istore_2 C rfl dX11_setCredit_37 ?_
    refine wz_aload_n C rfl rfl dX11_setCredit_38 ?_
    refine wz_getR C (j := 300) f_X11_setCredit_53 rfl dX11_setCredit_39 ?_
    refine wz_iload_n C rfl rfl dX11_setCredit_42 ?_
    refine wd_putI C f_X11_setCredit_245 fp_X8_1 rfl dX11_setCredit_43 (fun I3 e => ?_)
    replace h := h I3 e
    refine wz_iload_n C rfl rfl dX11_setCredit_46 ?_
    exact False.elim h
  · replace h := h.2 c
    exact wx_throwSW (st := []) C hT hZ 0 (is := 490) (text := "a credit is 0 to 99") (by decide) (by decide) (by decide +kernel) (by decide +kernel) (by decide +kernel) dX11_setCredit_8 dX11_setCredit_11 dX11_setCredit_12 dX11_setCredit_15 dX11_setCredit_18 (by rw [hX]; exact ⟨Nat.le_of_ble_eq_true rfl, Nat.le_of_ble_eq_true rfl⟩) h
def rmx_X11_reportByte : Room := { frames := 6, cells := 1, slots := 6, locals := 90 }
set_option maxHeartbeats 4000000 in
set_option maxRecDepth 100000 in
theorem bkx_X11_reportByte_12 (G : KG) (hG : Kok G) (hZ : KZx G) (X : KX) (hX : KR X = rmx_X11_reportByte) (C : Fr G X cX11_reportByte 2 yX11_reportByte.cls (some .int) wsX11_reportByte) (hT : noTab X) (l1 : Int) (Q : Nat → Ii → Jj → Prop)  (I : Ii) (J : Jj) (h : BX_X11_reportByte_12 l1 Q  I J) : Wz G X 2 (QsX G X (QxE Q)) 1 6 12 [none, none] [] I J := by
  unfold BX_X11_reportByte_12 at h
  exact wx_throwSW (st := []) C hT hZ 1 (is := 517) (text := "no such byte of a report") (by decide) (by decide) (by decide +kernel) (by decide +kernel) (by decide +kernel) dX11_reportByte_12 dX11_reportByte_15 dX11_reportByte_16 dX11_reportByte_19 dX11_reportByte_22 (by rw [hX]; exact ⟨Nat.le_of_ble_eq_true rfl, Nat.le_of_ble_eq_true rfl⟩) h
set_option maxHeartbeats 4000000 in
set_option maxRecDepth 100000 in
theorem kx_X11_reportByte (G : KG) (hG : Kok G) (hZ : KZx G) (l1 : Int) (I : Ii) (J : Jj) (Q : Nat → Ii → Jj → Prop) (h : xp_X11_reportByte l1 I J Q) : CtrX G yX11_reportByte wsX11_reportByte rmx_X11_reportByte [.ref (kadr G 100), .int (iZ l1)] (I, J) (QxE Q) := by
  unfold xp_X11_reportByte at h
  skip
  refine CtrX.ofZ (cc := cX11_reportByte) (nL := 2) (ret := (some .int)) [some (.ref (kadr G 100)), some (.int (iZ l1))] hG (by decide +kernel) rfl (Nat.le_of_ble_eq_true rfl) (Nat.le_of_ble_eq_true rfl) (by simp [lvA, lv_args, Value.category]) ?_
  intro X hX C hT
  refine wz_iload_n C rfl rfl dX11_reportByte_0 ?_
  obtain ⟨g1, h⟩ := h
  refine wz_if_lt C (tgt := 12) g1 dX11_reportByte_1 (by decide) (fun c => ?_) (fun c => ?_)
  · replace h := h.1 c
    exact Wz.drop (bkx_X11_reportByte_12 G hG hZ X hX C hT l1 Q I J h) trivial
  · replace h := h.2 c
    refine wz_iload_n C rfl rfl dX11_reportByte_4 ?_
    refine wz_aload_n C rfl rfl dX11_reportByte_5 ?_
    refine wz_getI C rfl f_X11_reportByte_495 rfl dX11_reportByte_6 ?_
    obtain ⟨g2, h⟩ := h
    refine wz_icmp_lt C (tgt := 23) g1 g2 dX11_reportByte_9 (by decide) (fun c => ?_) (fun c => ?_)
    · replace h := h.1 c
      refine wz_aload_n C rfl rfl dX11_reportByte_23 ?_
      refine wz_getR C (j := 132) f_X11_reportByte_98 rfl dX11_reportByte_24 ?_
      refine wz_iload_n C rfl rfl dX11_reportByte_27 ?_
      refine wm_callS C (As := [.ref (kadr G 132), .int (iZ l1)]) (st := []) (a' := 1) (b' := 6) (k_X11_at G hG 132 l1 I J _ h) 2 gX11_reportByte_X11_at rfl (by decide +kernel) (by rw [hX]; exact ⟨Nat.le_of_ble_eq_true rfl, Nat.le_of_ble_eq_true rfl⟩) rfl (Nat.le_of_ble_eq_true rfl) rfl rfl rfl dX11_reportByte_28 (kk_sI (fun v3 I3 J3 h => ?_))
      exact False.elim h
    · replace h := h.2 c
      exact Wz.drop (bkx_X11_reportByte_12 G hG hZ X hX C hT l1 Q I J h) trivial
def rmx_X11_restore : Room := { frames := 6, cells := 1, slots := 6, locals := 102 }
set_option maxHeartbeats 4000000 in
set_option maxRecDepth 100000 in
theorem kx_X11_restore (G : KG) (hG : Kok G) (hZ : KZx G) (I : Ii) (J : Jj) (Q : Nat → Ii → Jj → Prop) (h : xp_X11_restore I J Q) : CtrX G yX11_restore wsX11_restore rmx_X11_restore [.ref (kadr G 100)] (I, J) (QxE Q) := by
  unfold xp_X11_restore at h
  skip
  refine CtrX.ofZ (cc := cX11_restore) (nL := 1) (ret := (some .int)) [some (.ref (kadr G 100))] hG (by decide +kernel) rfl (Nat.le_of_ble_eq_true rfl) (Nat.le_of_ble_eq_true rfl) (by simp [lvA, lv_args, Value.category]) ?_
  intro X hX C hT
  refine wz_aload_n C rfl rfl dX11_restore_0 ?_
  refine wz_getI C rfl f_X11_restore_523 rfl dX11_restore_1 ?_
  obtain ⟨g1, h⟩ := h
  refine wz_if_ne C (tgt := 18) g1 dX11_restore_4 (by decide) (fun c => ?_) (fun c => ?_)
  · replace h := h.1 c
    refine wz_aload_n C rfl rfl dX11_restore_18 ?_
    refine wz_getR C (j := 200) f_X11_restore_40 rfl dX11_restore_19 ?_
    refine wz_aload_n C rfl rfl dX11_restore_22 ?_
    refine wz_getR C (j := 220) f_X11_restore_47 rfl dX11_restore_23 ?_
    refine wm_callV C (o := 200) (As := [.ref (kadr G 220)]) (st := []) (a' := 1) (b' := 6) rfl rfl (k_X2_copyFrom G hG 200 220 I J _ h) 1 gX11_restore_X2_copyFrom rfl (by decide +kernel) (by rw [hX]; exact ⟨Nat.le_of_ble_eq_true rfl, Nat.le_of_ble_eq_true rfl⟩) rfl (Nat.le_of_ble_eq_true rfl) rfl rfl rfl dX11_restore_26 (kk_sV (fun I2 J2 h => ?_))
    refine wz_aload_n C rfl rfl dX11_restore_29 ?_
    refine wz_getR C (j := 300) f_X11_restore_53 rfl dX11_restore_30 ?_
    refine wz_aload_n C rfl rfl dX11_restore_33 ?_
    refine wz_getR C (j := 320) f_X11_restore_60 rfl dX11_restore_34 ?_
    refine wm_callV C (o := 300) (As := [.ref (kadr G 320)]) (st := []) (a' := 1) (b' := 6) rfl rfl (k_X8_copyFrom G hG 300 320 I2 J2 _ h) 1 gX11_restore_X8_copyFrom rfl (by decide +kernel) (by rw [hX]; exact ⟨Nat.le_of_ble_eq_true rfl, Nat.le_of_ble_eq_true rfl⟩) rfl (Nat.le_of_ble_eq_true rfl) rfl rfl rfl dX11_restore_37 (kk_sV (fun I3 J3 h => ?_))
    refine wz_aload_n C rfl rfl dX11_restore_40 ?_
    refine wz_getR C (j := 111) f_X11_restore_66 rfl dX11_restore_41 ?_
    refine wm_callV C (o := 111) (As := []) (st := []) (a' := 1) (b' := 6) rfl rfl (k_X3_forget G hG I3 J3 _ h) 0 gX11_restore_X3_forget rfl (by decide +kernel) (by rw [hX]; exact ⟨Nat.le_of_ble_eq_true rfl, Nat.le_of_ble_eq_true rfl⟩) rfl (Nat.le_of_ble_eq_true rfl) rfl rfl rfl dX11_restore_44 (kk_sV (fun I4 J4 h => ?_))
    refine wz_aload_n C rfl rfl dX11_restore_47 ?_
    refine wm_callV C (o := 100) (As := []) (st := []) (a' := 1) (b' := 6) rfl rfl (k_X11_cut G hG I4 J4 _ h) 0 gX11_restore_X11_cut rfl (by decide +kernel) (by rw [hX]; exact ⟨Nat.le_of_ble_eq_true rfl, Nat.le_of_ble_eq_true rfl⟩) rfl (Nat.le_of_ble_eq_true rfl) rfl rfl rfl dX11_restore_48 (kk_sI (fun v5 I5 J5 h => ?_))
    exact False.elim h
  · replace h := h.2 c
    exact wx_throwSW (st := []) C hT hZ 2 (is := 526) (text := "nothing was saved") (by decide) (by decide) (by decide +kernel) (by decide +kernel) (by decide +kernel) dX11_restore_7 dX11_restore_10 dX11_restore_11 dX11_restore_14 dX11_restore_17 (by rw [hX]; exact ⟨Nat.le_of_ble_eq_true rfl, Nat.le_of_ble_eq_true rfl⟩) h
