def rmx_X11_readText : Room := { frames := 7, cells := 1, slots := 6, locals := 245 }
set_option maxHeartbeats 4000000 in
set_option maxRecDepth 100000 in
theorem kx_X11_readText (G : KG) (hG : Kok G) (hW : KSx G) (hZ : KZx G) (I : Ii) (J : Jj) (Q : Nat → Ii → Jj → Prop) (h : xp_X11_readText I J Q) : CtrX G yX11_readText wsX11_readText rmx_X11_readText [.ref (kadr G 100)] (I, J) (QxE Q) := by
  unfold xp_X11_readText at h
  skip
  refine CtrX.ofZ (cc := cX11_readText) (nL := 1) (ret := (some .int)) [some (.ref (kadr G 100))] hG (by decide +kernel) rfl (Nat.le_of_ble_eq_true rfl) (Nat.le_of_ble_eq_true rfl) (by simp [lvA, lv_args, Value.category]) ?_
  intro X hX C hT
  refine wz_aload_n C rfl rfl dX11_readText_0 ?_
  refine wz_getR C (j := 101) f_X11_readText_12 rfl dX11_readText_1 ?_
  refine wm_callV C (o := 101) (As := []) (st := []) (a' := 1) (b' := 6) rfl rfl (k_X10_begin G hG I J _ h) 0 gX11_readText_X10_begin rfl (by decide +kernel) (by rw [hX]; exact ⟨Nat.le_of_ble_eq_true rfl, Nat.le_of_ble_eq_true rfl⟩) rfl (Nat.le_of_ble_eq_true rfl) rfl rfl rfl dX11_readText_4 (kk_sV (fun I1 J1 h => ?_))
  refine wz_aload_n C rfl rfl dX11_readText_7 ?_
  refine wz_getR C (j := 103) f_X11_readText_19 rfl dX11_readText_8 ?_
  refine wz_aload_n C rfl rfl dX11_readText_11 ?_
  refine wz_getR C (j := 101) f_X11_readText_12 rfl dX11_readText_12 ?_
  refine wz_aload_n C rfl rfl dX11_readText_15 ?_
  refine wz_getR C (j := 210) f_X11_readText_44 rfl dX11_readText_16 ?_
  refine wm_callV C (o := 103) (As := [.ref (kadr G 101), .ref (kadr G 210)]) (st := []) (a' := 1) (b' := 6) rfl rfl (k_X9_read G hG hW 210 I1 J1 _ h) 2 gX11_readText_X9_read rfl (by decide +kernel) (by rw [hX]; exact ⟨Nat.le_of_ble_eq_true rfl, Nat.le_of_ble_eq_true rfl⟩) rfl (Nat.le_of_ble_eq_true rfl) rfl rfl rfl dX11_readText_19 (kk_sB (fun v2 I2 J2 hb2 h => ?_))
  refine wz_if_ne C (tgt := 35) (rgB hb2) dX11_readText_22 (by decide) (fun c => ?_) (fun c => ?_)
  · replace h := h.1 c
    refine wz_aload_n C rfl rfl dX11_readText_35 ?_
    refine wz_getR C (j := 200) f_X11_readText_40 rfl dX11_readText_36 ?_
    refine wz_aload_n C rfl rfl dX11_readText_39 ?_
    refine wz_getR C (j := 210) f_X11_readText_44 rfl dX11_readText_40 ?_
    refine wm_callV C (o := 200) (As := [.ref (kadr G 210)]) (st := []) (a' := 1) (b' := 6) rfl rfl (k_X2_copyFrom G hG 200 210 I2 J2 _ h) 1 gX11_readText_X2_copyFrom rfl (by decide +kernel) (by rw [hX]; exact ⟨Nat.le_of_ble_eq_true rfl, Nat.le_of_ble_eq_true rfl⟩) rfl (Nat.le_of_ble_eq_true rfl) rfl rfl rfl dX11_readText_43 (kk_sV (fun I3 J3 h => ?_))
    refine wz_aload_n C rfl rfl dX11_readText_46 ?_
    refine wz_getR C (j := 300) f_X11_readText_53 rfl dX11_readText_47 ?_
    refine wz_aload_n C rfl rfl dX11_readText_50 ?_
    refine wz_getR C (j := 200) f_X11_readText_40 rfl dX11_readText_51 ?_
    refine wm_callV C (o := 300) (As := [.ref (kadr G 200)]) (st := []) (a' := 1) (b' := 6) rfl rfl (k_X8_start G hG 300 200 I3 J3 _ h) 1 gX11_readText_X8_start rfl (by decide +kernel) (by rw [hX]; exact ⟨Nat.le_of_ble_eq_true rfl, Nat.le_of_ble_eq_true rfl⟩) rfl (Nat.le_of_ble_eq_true rfl) rfl rfl rfl dX11_readText_54 (kk_sV (fun I4 J4 h => ?_))
    refine wz_aload_n C rfl rfl dX11_readText_57 ?_
    refine wz_getR C (j := 111) f_X11_readText_66 rfl dX11_readText_58 ?_
    refine wm_callV C (o := 111) (As := []) (st := []) (a' := 1) (b' := 6) rfl rfl (k_X3_forget G hG I4 J4 _ h) 0 gX11_readText_X3_forget rfl (by decide +kernel) (by rw [hX]; exact ⟨Nat.le_of_ble_eq_true rfl, Nat.le_of_ble_eq_true rfl⟩) rfl (Nat.le_of_ble_eq_true rfl) rfl rfl rfl dX11_readText_61 (kk_sV (fun I5 J5 h => ?_))
    refine wz_aload_n C rfl rfl dX11_readText_64 ?_
    refine wz_getR C (j := 200) f_X11_readText_40 rfl dX11_readText_65 ?_
    refine wz_getI C rfl f_X11_readText_141 rfl dX11_readText_68 ?_
    exact False.elim h
  · replace h := h.2 c
    exact wx_throwS (st := []) C hT hZ 0 (is := 129) (text := "the text has an error") (by decide) (by decide) (by decide +kernel) (by decide +kernel) (by decide +kernel) dX11_readText_25 dX11_readText_28 dX11_readText_29 dX11_readText_31 dX11_readText_34 (by rw [hX]; exact ⟨Nat.le_of_ble_eq_true rfl, Nat.le_of_ble_eq_true rfl⟩) h
def rmx_X11_runScript : Room := { frames := 8, cells := 1, slots := 6, locals := 270 }
set_option maxHeartbeats 4000000 in
set_option maxRecDepth 100000 in
theorem kx_X11_runScript (G : KG) (hG : Kok G) (hW : KSx G) (hZ : KZx G) (I : Ii) (J : Jj) (Q : Nat → Ii → Jj → Prop) (h : xp_X11_runScript I J Q) : CtrX G yX11_runScript wsX11_runScript rmx_X11_runScript [.ref (kadr G 100)] (I, J) (QxE Q) := by
  unfold xp_X11_runScript at h
  skip
  refine CtrX.ofZ (cc := cX11_runScript) (nL := 1) (ret := (some .int)) [some (.ref (kadr G 100))] hG (by decide +kernel) rfl (Nat.le_of_ble_eq_true rfl) (Nat.le_of_ble_eq_true rfl) (by simp [lvA, lv_args, Value.category]) ?_
  intro X hX C hT
  refine wz_aload_n C rfl rfl dX11_runScript_0 ?_
  refine wz_getR C (j := 101) f_X11_runScript_12 rfl dX11_runScript_1 ?_
  refine wm_callV C (o := 101) (As := []) (st := []) (a' := 1) (b' := 6) rfl rfl (k_X10_begin G hG I J _ h) 0 gX11_runScript_X10_begin rfl (by decide +kernel) (by rw [hX]; exact ⟨Nat.le_of_ble_eq_true rfl, Nat.le_of_ble_eq_true rfl⟩) rfl (Nat.le_of_ble_eq_true rfl) rfl rfl rfl dX11_runScript_4 (kk_sV (fun I1 J1 h => ?_))
  refine wz_aload_n C rfl rfl dX11_runScript_7 ?_
  refine wz_getR C (j := 104) f_X11_runScript_26 rfl dX11_runScript_8 ?_
  refine wz_aload_n C rfl rfl dX11_runScript_11 ?_
  refine wz_getR C (j := 101) f_X11_runScript_12 rfl dX11_runScript_12 ?_
  refine wz_aload_n C rfl rfl dX11_runScript_15 ?_
  refine wz_getR C (j := 106) f_X11_runScript_33 rfl dX11_runScript_16 ?_
  refine wz_aload_n C rfl rfl dX11_runScript_19 ?_
  refine wz_getR C (j := 200) f_X11_runScript_40 rfl dX11_runScript_20 ?_
  refine wm_callV C (o := 104) (As := [.ref (kadr G 101), .ref (kadr G 106), .ref (kadr G 200)]) (st := []) (a' := 1) (b' := 6) rfl rfl (k_X7_read G hG hW 200 I1 J1 _ h) 3 gX11_runScript_X7_read rfl (by decide +kernel) (by rw [hX]; exact ⟨Nat.le_of_ble_eq_true rfl, Nat.le_of_ble_eq_true rfl⟩) rfl (Nat.le_of_ble_eq_true rfl) rfl rfl rfl dX11_runScript_23 (kk_sB (fun v2 I2 J2 hb2 h => ?_))
  refine wz_if_ne C (tgt := 39) (rgB hb2) dX11_runScript_26 (by decide) (fun c => ?_) (fun c => ?_)
  · replace h := h.1 c
    refine wz_aload_n C rfl rfl dX11_runScript_39 ?_
    refine wz_getR C (j := 111) f_X11_runScript_66 rfl dX11_runScript_40 ?_
    refine wz_aload_n C rfl rfl dX11_runScript_43 ?_
    refine wz_getR C (j := 300) f_X11_runScript_53 rfl dX11_runScript_44 ?_
    refine wm_callV C (o := 111) (As := [.ref (kadr G 300)]) (st := []) (a' := 1) (b' := 6) rfl rfl (k_X3_keep G hG 300 I2 J2 _ h) 1 gX11_runScript_X3_keep rfl (by decide +kernel) (by rw [hX]; exact ⟨Nat.le_of_ble_eq_true rfl, Nat.le_of_ble_eq_true rfl⟩) rfl (Nat.le_of_ble_eq_true rfl) rfl rfl rfl dX11_runScript_47 (kk_sV (fun I3 J3 h => ?_))
    refine wz_aload_n C rfl rfl dX11_runScript_50 ?_
    refine wm_callV C (o := 100) (As := []) (st := []) (a' := 1) (b' := 6) rfl rfl (k_X11_runCommands G hG I3 J3 _ h) 0 gX11_runScript_X11_runCommands rfl (by decide +kernel) (by rw [hX]; exact ⟨Nat.le_of_ble_eq_true rfl, Nat.le_of_ble_eq_true rfl⟩) rfl (Nat.le_of_ble_eq_true rfl) rfl rfl rfl dX11_runScript_51 (kk_sI (fun v4 I4 J4 h => ?_))
    exact False.elim h
  · replace h := h.2 c
    exact wx_throwS (st := []) C hT hZ 0 (is := 147) (text := "the script has an error") (by decide) (by decide) (by decide +kernel) (by decide +kernel) (by decide +kernel) dX11_runScript_29 dX11_runScript_32 dX11_runScript_33 dX11_runScript_35 dX11_runScript_38 (by rw [hX]; exact ⟨Nat.le_of_ble_eq_true rfl, Nat.le_of_ble_eq_true rfl⟩) h
