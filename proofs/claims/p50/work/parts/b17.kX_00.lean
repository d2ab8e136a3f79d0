theorem in_X2_clear_X2 : ∀ w ∈ wsX20, w ∈ wsX2_clear := by decide +kernel
theorem f_X2_clear_32 : FLk wsX2_clear RX2 32 5 0 := flk 5 0 rfl tyX2_ok nmX2 in_X2_clear_X2 (by decide) (by decide +kernel)
theorem fp_X2_0 : FPk 5 0 .int := fun C9 T9 N9 h => by
  have h : some (RX2, TX2, 12) = some (C9, T9, N9) := h
  cases h
  exact ⟨rfl, by decide +kernel⟩
theorem f_X2_clear_35 : FLk wsX2_clear RX2 35 5 1 := flk 5 1 rfl tyX2_ok nmX2 in_X2_clear_X2 (by decide) (by decide +kernel)
theorem fp_X2_1 : FPk 5 1 .int := fun C9 T9 N9 h => by
  have h : some (RX2, TX2, 12) = some (C9, T9, N9) := h
  cases h
  exact ⟨rfl, by decide +kernel⟩
theorem f_X2_clear_9 : FLk wsX2_clear RX2 9 5 2 := flk 5 2 rfl tyX2_ok nmX2 in_X2_clear_X2 (by decide) (by decide +kernel)
theorem fp_X2_2 : FPk 5 2 .int := fun C9 T9 N9 h => by
  have h : some (RX2, TX2, 12) = some (C9, T9, N9) := h
  cases h
  exact ⟨rfl, by decide +kernel⟩
theorem f_X2_clear_38 : FLk wsX2_clear RX2 38 5 3 := flk 5 3 rfl tyX2_ok nmX2 in_X2_clear_X2 (by decide) (by decide +kernel)
theorem fp_X2_3 : FPk 5 3 .int := fun C9 T9 N9 h => by
  have h : some (RX2, TX2, 12) = some (C9, T9, N9) := h
  cases h
  exact ⟨rfl, by decide +kernel⟩
theorem f_X2_clear_41 : FLk wsX2_clear RX2 41 5 4 := flk 5 4 rfl tyX2_ok nmX2 in_X2_clear_X2 (by decide) (by decide +kernel)
theorem fp_X2_4 : FPk 5 4 .int := fun C9 T9 N9 h => by
  have h : some (RX2, TX2, 12) = some (C9, T9, N9) := h
  cases h
  exact ⟨rfl, by decide +kernel⟩
theorem f_X2_clear_44 : FLk wsX2_clear RX2 44 5 5 := flk 5 5 rfl tyX2_ok nmX2 in_X2_clear_X2 (by decide) (by decide +kernel)
theorem fp_X2_5 : FPk 5 5 .int := fun C9 T9 N9 h => by
  have h : some (RX2, TX2, 12) = some (C9, T9, N9) := h
  cases h
  exact ⟨rfl, by decide +kernel⟩
theorem f_X2_clear_47 : FLk wsX2_clear RX2 47 5 6 := flk 5 6 rfl tyX2_ok nmX2 in_X2_clear_X2 (by decide) (by decide +kernel)
theorem fp_X2_6 : FPk 5 6 .int := fun C9 T9 N9 h => by
  have h : some (RX2, TX2, 12) = some (C9, T9, N9) := h
  cases h
  exact ⟨rfl, by decide +kernel⟩
def rm_X2_clear : Room := { frames := 0, cells := 0, slots := 0, locals := 0 }
set_option maxHeartbeats 4000000 in
set_option maxRecDepth 100000 in
theorem k_X2_clear (G : KG) (hG : KokC G) (k0 : Nat) (I : Ii) (J : Jj) (Q : Ii → Jj → Prop) (h : wp_X2_clear k0 I J Q) : Ctr G yX2_clear wsX2_clear rm_X2_clear [.ref (kadr G k0)] (I, J) (QsV Q) := by
  unfold wp_X2_clear at h
  obtain ⟨hk0, h⟩ := h
  refine Ctr.ofZ (cc := cX2_clear) (nL := 1) (ret := none) [some (.ref (kadr G k0))] hG.1 (by decide +kernel) rfl (Nat.le_of_ble_eq_true rfl) (Nat.le_of_ble_eq_true rfl) (by simp [lvA, lv_args, Value.category]) ?_
  intro X hX C
  have hz := hG.2
  refine wz_aload_n C rfl rfl dX2_clear_0 ?_
  refine wz_iconst C dX2_clear_1 ?_
  refine wd_putI C f_X2_clear_32 fp_X2_0 (sOc hz (soX2_0 hk0)) dX2_clear_2 (fun I1 e => ?_)
  replace h := h I1 e
  refine wz_aload_n C rfl rfl dX2_clear_5 ?_
  refine wz_iconst C dX2_clear_6 ?_
  refine wd_putI C f_X2_clear_35 fp_X2_1 (sOc hz (soX2_1 hk0)) dX2_clear_7 (fun I2 e => ?_)
  replace h := h I2 e
  refine wz_aload_n C rfl rfl dX2_clear_10 ?_
  refine wz_iconst C dX2_clear_11 ?_
  refine wd_putI C f_X2_clear_9 fp_X2_2 (sOc hz (soX2_2 hk0)) dX2_clear_12 (fun I3 e => ?_)
  replace h := h I3 e
  refine wz_aload_n C rfl rfl dX2_clear_15 ?_
  refine wz_iconst C dX2_clear_16 ?_
  refine wd_putI C f_X2_clear_38 fp_X2_3 (sOc hz (soX2_3 hk0)) dX2_clear_17 (fun I4 e => ?_)
  replace h := h I4 e
  refine wz_aload_n C rfl rfl dX2_clear_20 ?_
  refine wz_iconst C dX2_clear_21 ?_
  refine wd_putI C f_X2_clear_41 fp_X2_4 (sOc hz (soX2_4 hk0)) dX2_clear_22 (fun I5 e => ?_)
  replace h := h I5 e
  refine wz_aload_n C rfl rfl dX2_clear_25 ?_
  refine wz_iconst C dX2_clear_26 ?_
  refine wd_putI C f_X2_clear_44 fp_X2_5 (sOc hz (soX2_5 hk0)) dX2_clear_27 (fun I6 e => ?_)
  replace h := h I6 e
  refine wz_aload_n C rfl rfl dX2_clear_30 ?_
  refine wz_iconst C dX2_clear_31 ?_
  refine wd_putI C f_X2_clear_47 fp_X2_6 (sOc hz (soX2_6 hk0)) dX2_clear_32 (fun I7 e => ?_)
  replace h := h I7 e
  exact wz_vret C dX2_clear_35 ⟨rfl, h⟩
theorem in_X2_nameOf_X2 : ∀ w ∈ wsX20, w ∈ wsX2_nameOf := by decide +kernel
theorem f_X2_nameOf_15 : FLk wsX2_nameOf RX2 15 5 7 := flk 5 7 rfl tyX2_ok nmX2 in_X2_nameOf_X2 (by decide) (by decide +kernel)
def rm_X2_nameOf : Room := { frames := 0, cells := 0, slots := 0, locals := 0 }
set_option maxHeartbeats 4000000 in
set_option maxRecDepth 100000 in
theorem k_X2_nameOf (G : KG) (hG : KokC G) (k0 : Nat) (l1 : Int) (I : Ii) (J : Jj) (Q : Int64 → Ii → Jj → Prop) (h : wp_X2_nameOf k0 l1 I J Q) : Ctr G yX2_nameOf wsX2_nameOf rm_X2_nameOf [.ref (kadr G k0), .int (iZ l1)] (I, J) (QsJ Q) := by
  unfold wp_X2_nameOf at h
  obtain ⟨hk0, h⟩ := h
  refine Ctr.ofZ (cc := cX2_nameOf) (nL := 2) (ret := (some .long)) [some (.ref (kadr G k0)), some (.int (iZ l1))] hG.1 (by decide +kernel) rfl (Nat.le_of_ble_eq_true rfl) (Nat.le_of_ble_eq_true rfl) (by simp [lvA, lv_args, Value.category]) ?_
  intro X hX C
  have hz := hG.2
  refine wz_iload_n C rfl rfl dX2_nameOf_0 ?_
  obtain ⟨g1, h⟩ := h
  refine wz_if_lt C (tgt := 22) g1 dX2_nameOf_1 (by decide) (fun c => ?_) (fun c => ?_)
  · replace h := h.1 c
    refine wz_lconst C (v := lZ 0) (by decide) dX2_nameOf_22 ?_
    exact wz_lret C dX2_nameOf_23 ⟨_, rfl, h⟩
  · replace h := h.2 c
    refine wz_iload_n C rfl rfl dX2_nameOf_4 ?_
    refine wz_aload_n C rfl rfl dX2_nameOf_5 ?_
    refine wz_getR C (j := k0 + 1) f_X2_nameOf_15 (sOc hz (soX2_7 hk0)) (by have := gK_ge hk0; omega) dX2_nameOf_6 ?_
    refine wz_alen1 C (n := 14) (sRc hz (srX2_1 hk0)) dX2_nameOf_9 ?_
    refine wz_icmp_ge C (tgt := 22) g1 (by decide) dX2_nameOf_10 (by decide) (fun c => ?_) (fun c => ?_)
    · replace h := h.1 c
      refine wz_lconst C (v := lZ 0) (by decide) dX2_nameOf_22 ?_
      exact wz_lret C dX2_nameOf_23 ⟨_, rfl, h⟩
    · replace h := h.2 c
      refine wz_aload_n C rfl rfl dX2_nameOf_13 ?_
      refine wz_getR C (j := k0 + 1) f_X2_nameOf_15 (sOc hz (soX2_7 hk0)) (by have := gK_ge hk0; omega) dX2_nameOf_14 ?_
      refine wz_iload_n C rfl rfl dX2_nameOf_17 ?_
      obtain ⟨g2, h⟩ := h
      refine wz_laload C l1.toNat (n := 14) (sRc hz (srX2_1 hk0)) (zN g2) (zL g2) (by decide) rfl dX2_nameOf_18 ?_
      refine wz_goto C dX2_nameOf_19 (tgt := 23) (by decide) ?_
      exact wz_lret C dX2_nameOf_23 ⟨_, rfl, h⟩
theorem in_X2_vertexNamed_X2 : ∀ w ∈ wsX20, w ∈ wsX2_vertexNamed := by decide +kernel
theorem f_X2_vertexNamed_32 : FLk wsX2_vertexNamed RX2 32 5 0 := flk 5 0 rfl tyX2_ok nmX2 in_X2_vertexNamed_X2 (by decide) (by decide +kernel)
def rm_X2_vertexNamed : Room := { frames := 1, cells := 0, slots := 0, locals := 21 }
set_option maxHeartbeats 4000000 in
set_option maxRecDepth 100000 in
theorem lk_X2_vertexNamed_2 (G : KG) (hG : KokC G) (X : KX) (hX : KR X = rm_X2_vertexNamed) (C : Fr G X cX2_vertexNamed 4 yX2_vertexNamed.cls (some .int) wsX2_vertexNamed) (k0 : Nat) (l1 : Int64) (hk0 : gK k0) (Q : Int → Ii → Jj → Prop) : ∀ (n : Nat) (l3 : Int) (I : Ii) (J : Jj), L_X2_vertexNamed_2 k0 l1 Q n l3 I J → Wz G X 4 (QsU G X (QsI Q)) 0 0 2 [some (.ref (kadr G k0)), some (.long l1), none, some (.int (iZ l3))] [] I J := by
  have hz := hG.2
  intro n
  induction n with
  | zero => intro l3 I J h; exact False.elim h
  | succ n w2 =>
    intro l3 I J h
    have h : Lb_X2_vertexNamed_2 k0 l1 Q (L_X2_vertexNamed_2 k0 l1 Q n) l3 I J := h
    unfold Lb_X2_vertexNamed_2 at h
    generalize L_X2_vertexNamed_2 k0 l1 Q n = r2 at h w2
    refine wz_iload_n C rfl rfl dX2_vertexNamed_2 ?_
    refine wz_aload_n C rfl rfl dX2_vertexNamed_3 ?_
    refine wz_getI C rfl f_X2_vertexNamed_32 (sOc hz (soX2_0 hk0)) dX2_vertexNamed_4 ?_
    obtain ⟨g1, h⟩ := h
    obtain ⟨g2, h⟩ := h
    refine wz_icmp_ge C (tgt := 28) g1 g2 dX2_vertexNamed_7 (by decide) (fun c => ?_) (fun c => ?_)
    · replace h := h.1 c
      refine wz_iconst C dX2_vertexNamed_28 ?_
      exact wz_iret C dX2_vertexNamed_29 ⟨_, rfl, h⟩
    · replace h := h.2 c
      refine wz_aload_n C rfl rfl dX2_vertexNamed_10 ?_
      refine wz_iload_n C rfl rfl dX2_vertexNamed_11 ?_
      refine wm_callV C (o := k0) (As := [.int (iZ l3)]) (st := []) (a' := 0) (b' := 0) (shK_c hz (spX2 hk0)) rfl (k_X2_nameOf G hG k0 l3 I J _ h) 1 gX2_vertexNamed_X2_nameOf rfl (by decide +kernel) (by rw [hX]; exact ⟨Nat.le_of_ble_eq_true rfl, Nat.le_of_ble_eq_true rfl⟩) rfl (Nat.le_of_ble_eq_true rfl) rfl rfl rfl dX2_vertexNamed_12 (kk_sJ (fun v3 I3 J3 h => ?_))
      refine wz_lload_n C rfl rfl dX2_vertexNamed_15 ?_
      refine wd_lcmp C dX2_vertexNamed_16 ?_
      refine wz_if_ne C (tgt := 22) (toInt_rg _) dX2_vertexNamed_17 (by decide) (fun c => ?_) (fun c => ?_)
      · replace h := h.1 c
        refine wz_iinc_3 C rfl dX2_vertexNamed_22 ?_
        refine wz_goto C dX2_vertexNamed_25 (tgt := 2) (by decide) ?_
        exact w2 (l3 + 1) I3 J3 h
      · replace h := h.2 c
        refine wz_iload_n C rfl rfl dX2_vertexNamed_20 ?_
        exact wz_iret C dX2_vertexNamed_21 ⟨_, rfl, h⟩
set_option maxHeartbeats 4000000 in
set_option maxRecDepth 100000 in
theorem k_X2_vertexNamed (G : KG) (hG : KokC G) (k0 : Nat) (l1 : Int64) (I : Ii) (J : Jj) (Q : Int → Ii → Jj → Prop) (h : wp_X2_vertexNamed k0 l1 I J Q) : Ctr G yX2_vertexNamed wsX2_vertexNamed rm_X2_vertexNamed [.ref (kadr G k0), .long l1] (I, J) (QsI Q) := by
  unfold wp_X2_vertexNamed at h
  obtain ⟨hk0, h⟩ := h
  refine Ctr.ofZ (cc := cX2_vertexNamed) (nL := 4) (ret := (some .int)) [some (.ref (kadr G k0)), some (.long l1), none, none] hG.1 (by decide +kernel) rfl (Nat.le_of_ble_eq_true rfl) (Nat.le_of_ble_eq_true rfl) (by simp [lvA, lv_args, Value.category]) ?_
  intro X hX C
  have hz := hG.2
  refine wz_iconst C dX2_vertexNamed_0 ?_
  refine wz_istore_3 C rfl dX2_vertexNamed_1 ?_
  obtain ⟨n, h⟩ := h
  exact lk_X2_vertexNamed_2 G hG X hX C k0 l1 hk0 Q n 0 I J h
theorem in_X2_limit_X2 : ∀ w ∈ wsX20, w ∈ wsX2_limit := by decide +kernel
theorem f_X2_limit_9 : FLk wsX2_limit RX2 9 5 2 := flk 5 2 rfl tyX2_ok nmX2 in_X2_limit_X2 (by decide) (by decide +kernel)
theorem f_X2_limit_44 : FLk wsX2_limit RX2 44 5 5 := flk 5 5 rfl tyX2_ok nmX2 in_X2_limit_X2 (by decide) (by decide +kernel)
theorem f_X2_limit_38 : FLk wsX2_limit RX2 38 5 3 := flk 5 3 rfl tyX2_ok nmX2 in_X2_limit_X2 (by decide) (by decide +kernel)
def rm_X2_limit : Room := { frames := 0, cells := 0, slots := 0, locals := 0 }
set_option maxHeartbeats 4000000 in
set_option maxRecDepth 100000 in
theorem k_X2_limit (G : KG) (hG : KokC G) (k0 : Nat) (I : Ii) (J : Jj) (Q : Int → Ii → Jj → Prop) (h : wp_X2_limit k0 I J Q) : Ctr G yX2_limit wsX2_limit rm_X2_limit [.ref (kadr G k0)] (I, J) (QsI Q) := by
  unfold wp_X2_limit at h
  obtain ⟨hk0, h⟩ := h
  refine Ctr.ofZ (cc := cX2_limit) (nL := 1) (ret := (some .int)) [some (.ref (kadr G k0))] hG.1 (by decide +kernel) rfl (Nat.le_of_ble_eq_true rfl) (Nat.le_of_ble_eq_true rfl) (by simp [lvA, lv_args, Value.category]) ?_
  intro X hX C
  have hz := hG.2
  refine wz_aload_n C rfl rfl dX2_limit_0 ?_
  refine wz_getI C rfl f_X2_limit_9 (sOc hz (soX2_2 hk0)) dX2_limit_1 ?_
  refine wz_iconst C dX2_limit_4 ?_
  obtain ⟨g1, h⟩ := h
  refine wz_icmp_ge C (tgt := 15) g1 (by decide) dX2_limit_5 (by decide) (fun c => ?_) (fun c => ?_)
  · replace h := h.1 c
    refine wz_aload_n C rfl rfl dX2_limit_15 ?_
    refine wz_getI C rfl f_X2_limit_44 (sOc hz (soX2_5 hk0)) dX2_limit_16 ?_
    refine wz_aload_n C rfl rfl dX2_limit_19 ?_
    refine wz_getI C rfl f_X2_limit_9 (sOc hz (soX2_2 hk0)) dX2_limit_20 ?_
    refine wz_iadd C dX2_limit_23 ?_
    refine wz_iconst C dX2_limit_24 ?_
    refine wz_isub C dX2_limit_25 ?_
    refine wz_aload_n C rfl rfl dX2_limit_26 ?_
    refine wz_getI C rfl f_X2_limit_9 (sOc hz (soX2_2 hk0)) dX2_limit_27 ?_
    obtain ⟨g2, h⟩ := h
    refine wd_idiv C g2 dX2_limit_30 ?_
    refine wz_aload_n C rfl rfl dX2_limit_31 ?_
    refine wz_getI C rfl f_X2_limit_38 (sOc hz (soX2_3 hk0)) dX2_limit_32 ?_
    refine wz_iadd C dX2_limit_35 ?_
    exact wz_iret C dX2_limit_36 ⟨_, rfl, h⟩
  · replace h := h.2 c
    refine wz_aload_n C rfl rfl dX2_limit_8 ?_
    refine wz_getI C rfl f_X2_limit_38 (sOc hz (soX2_3 hk0)) dX2_limit_9 ?_
    refine wz_goto C dX2_limit_12 (tgt := 36) (by decide) ?_
    exact wz_iret C dX2_limit_36 ⟨_, rfl, h⟩
theorem in_X3_forget_X3 : ∀ w ∈ wsX30, w ∈ wsX3_forget := by decide +kernel
theorem f_X3_forget_18 : FLk wsX3_forget RX3 18 6 2 := flk 6 2 rfl tyX3_ok nmX3 in_X3_forget_X3 (by decide) (by decide +kernel)
theorem fp_X3_2 : FPk 6 2 .int := fun C9 T9 N9 h => by
  have h : some (RX3, TX3, 3) = some (C9, T9, N9) := h
  cases h
  exact ⟨rfl, by decide +kernel⟩
def rm_X3_forget : Room := { frames := 0, cells := 0, slots := 0, locals := 0 }
set_option maxHeartbeats 4000000 in
set_option maxRecDepth 100000 in
theorem k_X3_forget (G : KG) (hG : KokC G) (I : Ii) (J : Jj) (Q : Ii → Jj → Prop) (h : wp_X3_forget I J Q) : Ctr G yX3_forget wsX3_forget rm_X3_forget [.ref (kadr G 111)] (I, J) (QsV Q) := by
  unfold wp_X3_forget at h
  skip
  refine Ctr.ofZ (cc := cX3_forget) (nL := 1) (ret := none) [some (.ref (kadr G 111))] hG.1 (by decide +kernel) rfl (Nat.le_of_ble_eq_true rfl) (Nat.le_of_ble_eq_true rfl) (by simp [lvA, lv_args, Value.category]) ?_
  intro X hX C
  have hz := hG.2
  refine wz_aload_n C rfl rfl dX3_forget_0 ?_
  refine wz_iconst C dX3_forget_1 ?_
  refine wd_putI C f_X3_forget_18 fp_X3_2 (sOc hz rfl) dX3_forget_2 (fun I1 e => ?_)
  replace h := h I1 e
  exact wz_vret C dX3_forget_5 ⟨rfl, h⟩
theorem in_X3_entry_X3 : ∀ w ∈ wsX30, w ∈ wsX3_entry := by decide +kernel
theorem f_X3_entry_11 : FLk wsX3_entry RX3 11 6 0 := flk 6 0 rfl tyX3_ok nmX3 in_X3_entry_X3 (by decide) (by decide +kernel)
def rm_X3_entry : Room := { frames := 0, cells := 0, slots := 0, locals := 0 }
set_option maxHeartbeats 4000000 in
set_option maxRecDepth 100000 in
theorem k_X3_entry (G : KG) (hG : KokC G) (l1 : Int) (I : Ii) (J : Jj) (Q : Option Nat → Ii → Jj → Prop) (h : wp_X3_entry l1 I J Q) : Ctr G yX3_entry wsX3_entry rm_X3_entry [.ref (kadr G 111), .int (iZ l1)] (I, J) (QsR G Q) := by
  unfold wp_X3_entry at h
  skip
  refine Ctr.ofZ (cc := cX3_entry) (nL := 2) (ret := (some (.object "ShareGraph$Sharing"))) [some (.ref (kadr G 111)), some (.int (iZ l1))] hG.1 (by decide +kernel) rfl (Nat.le_of_ble_eq_true rfl) (Nat.le_of_ble_eq_true rfl) (by simp [lvA, lv_args, Value.category]) ?_
  intro X hX C
  have hz := hG.2
  refine wz_iload_n C rfl rfl dX3_entry_0 ?_
  obtain ⟨g1, h⟩ := h
  refine wz_if_lt C (tgt := 22) g1 dX3_entry_1 (by decide) (fun c => ?_) (fun c => ?_)
  · replace h := h.1 c
    refine wd_aconst_null C dX3_entry_22 ?_
    exact wd_aretN C dX3_entry_23 ⟨none, rfl, h⟩
  · replace h := h.2 c
    refine wz_iload_n C rfl rfl dX3_entry_4 ?_
    refine wz_aload_n C rfl rfl dX3_entry_5 ?_
    refine wz_getR C (j := 112) f_X3_entry_11 (sOc hz rfl) (by decide) dX3_entry_6 ?_
    refine wz_alen2 C (n := 6) (sRc hz rfl) dX3_entry_9 ?_
    refine wz_icmp_ge C (tgt := 22) g1 (by decide) dX3_entry_10 (by decide) (fun c => ?_) (fun c => ?_)
    · replace h := h.1 c
      refine wd_aconst_null C dX3_entry_22 ?_
      exact wd_aretN C dX3_entry_23 ⟨none, rfl, h⟩
    · replace h := h.2 c
      refine wz_aload_n C rfl rfl dX3_entry_13 ?_
      refine wz_getR C (j := 112) f_X3_entry_11 (sOc hz rfl) (by decide) dX3_entry_14 ?_
      refine wz_iload_n C rfl rfl dX3_entry_17 ?_
      obtain ⟨g2, h⟩ := h
      refine wz_aaload C l1.toNat (n := 6) (sRc hz rfl) (zN g2) (zL g2) (by decide) dX3_entry_18 ?_
      refine wz_goto C dX3_entry_19 (tgt := 23) (by decide) ?_
      exact wd_aretS C dX3_entry_23 ⟨some _, rfl, h⟩
theorem in_X4_debtAt_X4 : ∀ w ∈ wsX40, w ∈ wsX4_debtAt := by decide +kernel
theorem f_X4_debtAt_49 : FLk wsX4_debtAt RX4 49 7 2 := flk 7 2 rfl tyX4_ok nmX4 in_X4_debtAt_X4 (by decide) (by decide +kernel)
def rm_X4_debtAt : Room := { frames := 0, cells := 0, slots := 0, locals := 0 }
set_option maxHeartbeats 4000000 in
set_option maxRecDepth 100000 in
theorem k_X4_debtAt (G : KG) (hG : KokC G) (l1 : Int) (I : Ii) (J : Jj) (Q : Int → Ii → Jj → Prop) (h : wp_X4_debtAt l1 I J Q) : Ctr G yX4_debtAt wsX4_debtAt rm_X4_debtAt [.ref (kadr G 113), .int (iZ l1)] (I, J) (QsI Q) := by
  unfold wp_X4_debtAt at h
  skip
  refine Ctr.ofZ (cc := cX4_debtAt) (nL := 2) (ret := (some .int)) [some (.ref (kadr G 113)), some (.int (iZ l1))] hG.1 (by decide +kernel) rfl (Nat.le_of_ble_eq_true rfl) (Nat.le_of_ble_eq_true rfl) (by simp [lvA, lv_args, Value.category]) ?_
  intro X hX C
  have hz := hG.2
  refine wz_iload_n C rfl rfl dX4_debtAt_0 ?_
  refine wz_aload_n C rfl rfl dX4_debtAt_1 ?_
  refine wz_getI C rfl f_X4_debtAt_49 (sOc hz rfl) dX4_debtAt_2 ?_
  obtain ⟨g1, h⟩ := h
  obtain ⟨g2, h⟩ := h
  refine wz_icmp_le C (tgt := 17) g1 g2 dX4_debtAt_5 (by decide) (fun c => ?_) (fun c => ?_)
  · replace h := h.1 c
    refine wz_iconst C dX4_debtAt_17 ?_
    exact wz_iret C dX4_debtAt_18 ⟨_, rfl, h⟩
  · replace h := h.2 c
    refine wz_iload_n C rfl rfl dX4_debtAt_8 ?_
    refine wz_aload_n C rfl rfl dX4_debtAt_9 ?_
    refine wz_getI C rfl f_X4_debtAt_49 (sOc hz rfl) dX4_debtAt_10 ?_
    refine wz_isub C dX4_debtAt_13 ?_
    refine wz_goto C dX4_debtAt_14 (tgt := 18) (by decide) ?_
    exact wz_iret C dX4_debtAt_18 ⟨_, rfl, h⟩
theorem in_X4_isTooMuch_X4 : ∀ w ∈ wsX40, w ∈ wsX4_isTooMuch := by decide +kernel
theorem f_X4_isTooMuch_54 : FLk wsX4_isTooMuch RX4 54 7 3 := flk 7 3 rfl tyX4_ok nmX4 in_X4_isTooMuch_X4 (by decide) (by decide +kernel)
theorem f_X4_isTooMuch_62 : FLk wsX4_isTooMuch RX4 62 7 4 := flk 7 4 rfl tyX4_ok nmX4 in_X4_isTooMuch_X4 (by decide) (by decide +kernel)
def rm_X4_isTooMuch : Room := { frames := 0, cells := 0, slots := 0, locals := 0 }
set_option maxHeartbeats 4000000 in
set_option maxRecDepth 100000 in
theorem k_X4_isTooMuch (G : KG) (hG : KokC G) (l1 : Int) (I : Ii) (J : Jj) (Q : Int → Ii → Jj → Prop) (h : wp_X4_isTooMuch l1 I J Q) : Ctr G yX4_isTooMuch wsX4_isTooMuch rm_X4_isTooMuch [.ref (kadr G 113), .int (iZ l1)] (I, J) (QsB Q) := by
  unfold wp_X4_isTooMuch at h
  skip
  refine Ctr.ofZ (cc := cX4_isTooMuch) (nL := 2) (ret := (some .boolean)) [some (.ref (kadr G 113)), some (.int (iZ l1))] hG.1 (by decide +kernel) rfl (Nat.le_of_ble_eq_true rfl) (Nat.le_of_ble_eq_true rfl) (by simp [lvA, lv_args, Value.category]) ?_
  intro X hX C
  have hz := hG.2
  refine wz_iload_n C rfl rfl dX4_isTooMuch_0 ?_
  refine wz_aload_n C rfl rfl dX4_isTooMuch_1 ?_
  refine wz_getI C rfl f_X4_isTooMuch_54 (sOc hz rfl) dX4_isTooMuch_2 ?_
  obtain ⟨g1, h⟩ := h
  obtain ⟨g2, h⟩ := h
  refine wz_icmp_le C (tgt := 20) g1 g2 dX4_isTooMuch_5 (by decide) (fun c => ?_) (fun c => ?_)
  · replace h := h.1 c
    refine wz_iconst C dX4_isTooMuch_20 ?_
    exact wz_zret C (Or.inl rfl) dX4_isTooMuch_21 ⟨_, rfl, (Or.inl rfl), h⟩
  · replace h := h.2 c
    refine wz_iload_n C rfl rfl dX4_isTooMuch_8 ?_
    refine wz_aload_n C rfl rfl dX4_isTooMuch_9 ?_
    refine wz_getI C rfl f_X4_isTooMuch_62 (sOc hz rfl) dX4_isTooMuch_10 ?_
    obtain ⟨g3, h⟩ := h
    refine wz_icmp_le C (tgt := 20) g1 g3 dX4_isTooMuch_13 (by decide) (fun c => ?_) (fun c => ?_)
    · replace h := h.1 c
      refine wz_iconst C dX4_isTooMuch_20 ?_
      exact wz_zret C (Or.inl rfl) dX4_isTooMuch_21 ⟨_, rfl, (Or.inl rfl), h⟩
    · replace h := h.2 c
      refine wz_iconst C dX4_isTooMuch_16 ?_
      refine wz_goto C dX4_isTooMuch_17 (tgt := 21) (by decide) ?_
      exact wz_zret C (Or.inr rfl) dX4_isTooMuch_21 ⟨_, rfl, (Or.inr rfl), h⟩
theorem in_X8_groupRow_X8 : ∀ w ∈ wsX80, w ∈ wsX8_groupRow := by decide +kernel
theorem f_X8_groupRow_24 : FLk wsX8_groupRow RX8 24 11 0 := flk 11 0 rfl tyX8_ok nmX8 in_X8_groupRow_X8 (by decide) (by decide +kernel)
def rm_X8_groupRow : Room := { frames := 0, cells := 0, slots := 0, locals := 0 }
set_option maxHeartbeats 4000000 in
set_option maxRecDepth 100000 in
theorem k_X8_groupRow (G : KG) (hG : KokC G) (k0 : Nat) (I : Ii) (J : Jj) (Q : Int → Ii → Jj → Prop) (h : wp_X8_groupRow k0 I J Q) : Ctr G yX8_groupRow wsX8_groupRow rm_X8_groupRow [.ref (kadr G k0)] (I, J) (QsI Q) := by
  unfold wp_X8_groupRow at h
  obtain ⟨hk0, h⟩ := h
  refine Ctr.ofZ (cc := cX8_groupRow) (nL := 1) (ret := (some .int)) [some (.ref (kadr G k0))] hG.1 (by decide +kernel) rfl (Nat.le_of_ble_eq_true rfl) (Nat.le_of_ble_eq_true rfl) (by simp [lvA, lv_args, Value.category]) ?_
  intro X hX C
  have hz := hG.2
  refine wz_aload_n C rfl rfl dX8_groupRow_0 ?_
  refine wz_getI C rfl f_X8_groupRow_24 (sOc hz (soX8_0 hk0)) dX8_groupRow_1 ?_
  refine wz_bipush C (by decide) dX8_groupRow_4 ?_
  refine wz_imul C dX8_groupRow_6 ?_
  exact wz_iret C dX8_groupRow_7 ⟨_, rfl, h⟩
theorem in_X10_begin_X10 : ∀ w ∈ wsX100, w ∈ wsX10_begin := by decide +kernel
theorem f_X10_begin_22 : FLk wsX10_begin RX10 22 13 1 := flk 13 1 rfl tyX10_ok nmX10 in_X10_begin_X10 (by decide) (by decide +kernel)
theorem f_X10_begin_29 : FLk wsX10_begin RX10 29 13 2 := flk 13 2 rfl tyX10_ok nmX10 in_X10_begin_X10 (by decide) (by decide +kernel)
theorem fp_X10_2 : FPk 13 2 .int := fun C9 T9 N9 h => by
  have h : some (RX10, TX10, 12) = some (C9, T9, N9) := h
  cases h
  exact ⟨rfl, by decide +kernel⟩
theorem fp_X10_1 : FPk 13 1 .int := fun C9 T9 N9 h => by
  have h : some (RX10, TX10, 12) = some (C9, T9, N9) := h
  cases h
  exact ⟨rfl, by decide +kernel⟩
theorem f_X10_begin_32 : FLk wsX10_begin RX10 32 13 3 := flk 13 3 rfl tyX10_ok nmX10 in_X10_begin_X10 (by decide) (by decide +kernel)
theorem fp_X10_3 : FPk 13 3 .int := fun C9 T9 N9 h => by
  have h : some (RX10, TX10, 12) = some (C9, T9, N9) := h
  cases h
  exact ⟨rfl, by decide +kernel⟩
theorem f_X10_begin_35 : FLk wsX10_begin RX10 35 13 4 := flk 13 4 rfl tyX10_ok nmX10 in_X10_begin_X10 (by decide) (by decide +kernel)
theorem fp_X10_4 : FPk 13 4 .int := fun C9 T9 N9 h => by
  have h : some (RX10, TX10, 12) = some (C9, T9, N9) := h
  cases h
  exact ⟨rfl, by decide +kernel⟩
theorem f_X10_begin_38 : FLk wsX10_begin RX10 38 13 5 := flk 13 5 rfl tyX10_ok nmX10 in_X10_begin_X10 (by decide) (by decide +kernel)
theorem fp_X10_5 : FPk 13 5 .int := fun C9 T9 N9 h => by
  have h : some (RX10, TX10, 12) = some (C9, T9, N9) := h
  cases h
  exact ⟨rfl, by decide +kernel⟩
theorem f_X10_begin_41 : FLk wsX10_begin RX10 41 13 8 := flk 13 8 rfl tyX10_ok nmX10 in_X10_begin_X10 (by decide) (by decide +kernel)
theorem fp_X10_8 : FPk 13 8 .int := fun C9 T9 N9 h => by
  have h : some (RX10, TX10, 12) = some (C9, T9, N9) := h
  cases h
  exact ⟨rfl, by decide +kernel⟩
theorem f_X10_begin_44 : FLk wsX10_begin RX10 44 13 9 := flk 13 9 rfl tyX10_ok nmX10 in_X10_begin_X10 (by decide) (by decide +kernel)
theorem fp_X10_9 : FPk 13 9 .int := fun C9 T9 N9 h => by
  have h : some (RX10, TX10, 12) = some (C9, T9, N9) := h
  cases h
  exact ⟨rfl, by decide +kernel⟩
theorem f_X10_begin_15 : FLk wsX10_begin RX10 15 13 10 := flk 13 10 rfl tyX10_ok nmX10 in_X10_begin_X10 (by decide) (by decide +kernel)
theorem fp_X10_10 : FPk 13 10 .int := fun C9 T9 N9 h => by
  have h : some (RX10, TX10, 12) = some (C9, T9, N9) := h
  cases h
  exact ⟨rfl, by decide +kernel⟩
theorem f_X10_begin_19 : FLk wsX10_begin RX10 19 13 11 := flk 13 11 rfl tyX10_ok nmX10 in_X10_begin_X10 (by decide) (by decide +kernel)
theorem fp_X10_11 : FPk 13 11 .int := fun C9 T9 N9 h => by
  have h : some (RX10, TX10, 12) = some (C9, T9, N9) := h
  cases h
  exact ⟨rfl, by decide +kernel⟩
def rm_X10_begin : Room := { frames := 0, cells := 0, slots := 0, locals := 0 }
set_option maxHeartbeats 4000000 in
set_option maxRecDepth 100000 in
theorem k_X10_begin (G : KG) (hG : KokC G) (I : Ii) (J : Jj) (Q : Ii → Jj → Prop) (h : wp_X10_begin I J Q) : Ctr G yX10_begin wsX10_begin rm_X10_begin [.ref (kadr G 101)] (I, J) (QsV Q) := by
  unfold wp_X10_begin at h
  skip
  refine Ctr.ofZ (cc := cX10_begin) (nL := 1) (ret := none) [some (.ref (kadr G 101))] hG.1 (by decide +kernel) rfl (Nat.le_of_ble_eq_true rfl) (Nat.le_of_ble_eq_true rfl) (by simp [lvA, lv_args, Value.category]) ?_
  intro X hX C
  have hz := hG.2
  refine wz_aload_n C rfl rfl dX10_begin_0 ?_
  refine wz_aload_n C rfl rfl dX10_begin_1 ?_
  refine wz_getI C rfl f_X10_begin_22 (sOc hz rfl) dX10_begin_2 ?_
  refine wd_putI C f_X10_begin_29 fp_X10_2 (sOc hz rfl) dX10_begin_5 (fun I1 e => ?_)
  replace h := h I1 e
  refine wz_aload_n C rfl rfl dX10_begin_8 ?_
  refine wz_iconst C dX10_begin_9 ?_
  refine wd_putI C f_X10_begin_22 fp_X10_1 (sOc hz rfl) dX10_begin_10 (fun I2 e => ?_)
  replace h := h I2 e
  refine wz_aload_n C rfl rfl dX10_begin_13 ?_
  refine wz_iconst C dX10_begin_14 ?_
  refine wd_putI C f_X10_begin_32 fp_X10_3 (sOc hz rfl) dX10_begin_15 (fun I3 e => ?_)
  replace h := h I3 e
  refine wz_aload_n C rfl rfl dX10_begin_18 ?_
  refine wz_iconst C dX10_begin_19 ?_
  refine wd_putI C f_X10_begin_35 fp_X10_4 (sOc hz rfl) dX10_begin_20 (fun I4 e => ?_)
  replace h := h I4 e
  refine wz_aload_n C rfl rfl dX10_begin_23 ?_
  refine wz_iconst C dX10_begin_24 ?_
  refine wd_putI C f_X10_begin_38 fp_X10_5 (sOc hz rfl) dX10_begin_25 (fun I5 e => ?_)
  replace h := h I5 e
  refine wz_aload_n C rfl rfl dX10_begin_28 ?_
  refine wz_iconst C dX10_begin_29 ?_
  refine wd_putI C f_X10_begin_41 fp_X10_8 (sOc hz rfl) dX10_begin_30 (fun I6 e => ?_)
  replace h := h I6 e
  refine wz_aload_n C rfl rfl dX10_begin_33 ?_
  refine wz_iconst C dX10_begin_34 ?_
  refine wd_putI C f_X10_begin_44 fp_X10_9 (sOc hz rfl) dX10_begin_35 (fun I7 e => ?_)
  replace h := h I7 e
  refine wz_aload_n C rfl rfl dX10_begin_38 ?_
  refine wz_iconst C dX10_begin_39 ?_
  refine wd_putI C f_X10_begin_15 fp_X10_10 (sOc hz rfl) dX10_begin_40 (fun I8 e => ?_)
  replace h := h I8 e
  refine wz_aload_n C rfl rfl dX10_begin_43 ?_
  refine wz_iconst C dX10_begin_44 ?_
  refine wd_putI C f_X10_begin_19 fp_X10_11 (sOc hz rfl) dX10_begin_45 (fun I9 e => ?_)
  replace h := h I9 e
  exact wz_vret C dX10_begin_48 ⟨rfl, h⟩
def rm_X10_signKind : Room := { frames := 0, cells := 0, slots := 0, locals := 0 }
set_option maxHeartbeats 4000000 in
set_option maxRecDepth 100000 in
theorem k_X10_signKind (G : KG) (hG : KokC G) (l0 : Int) (I : Ii) (J : Jj) (Q : Int → Ii → Jj → Prop) (h : wp_X10_signKind l0 I J Q) : Ctr G yX10_signKind wsX10_signKind rm_X10_signKind [.int (iZ l0)] (I, J) (QsI Q) := by
  unfold wp_X10_signKind at h
  skip
  refine Ctr.ofZ (cc := cX10_signKind) (nL := 1) (ret := (some .int)) [some (.int (iZ l0))] hG.1 (by decide +kernel) rfl (Nat.le_of_ble_eq_true rfl) (Nat.le_of_ble_eq_true rfl) (by simp [lvA, lv_args, Value.category]) ?_
  intro X hX C
  have hz := hG.2
  refine wz_iload_n C rfl rfl dX10_signKind_0 ?_
  obtain ⟨g1, h⟩ := h
  have c : (¬ l0 = 40 ∧ ¬ l0 = 41 ∧ ¬ l0 = 59) ∨ l0 = 40 ∨ l0 = 41 ∨ l0 = 59 := by omega
  rcases c with c | c | c | c
  · replace h := h.1 c
    refine wd_lookupOut C (off := 41) (tgt := 42) g1 dX10_signKind_1 (by decide +kernel) (by simp [Op.lookupswitch.offset]; rw [if_neg (by omega), if_neg (by omega), if_neg (by omega)]) (by decide) ?_
    refine wz_bipush C (by decide) dX10_signKind_42 ?_
    exact wz_iret C dX10_signKind_44 ⟨_, rfl, h⟩
  · replace h := h.2.1 c
    refine wd_lookupIn C (v := 40) (off := 37) (tgt := 38) c dX10_signKind_1 (by decide +kernel) (by decide) (by decide +kernel) (by decide) ?_
    refine wz_iconst C dX10_signKind_38 ?_
    exact wz_iret C dX10_signKind_39 ⟨_, rfl, h⟩
  · replace h := h.2.2.1 c
    refine wd_lookupIn C (v := 41) (off := 39) (tgt := 40) c dX10_signKind_1 (by decide +kernel) (by decide) (by decide +kernel) (by decide) ?_
    refine wz_iconst C dX10_signKind_40 ?_
    exact wz_iret C dX10_signKind_41 ⟨_, rfl, h⟩
  · replace h := h.2.2.2 c
    refine wd_lookupIn C (v := 59) (off := 35) (tgt := 36) c dX10_signKind_1 (by decide +kernel) (by decide) (by decide +kernel) (by decide) ?_
    refine wz_iconst C dX10_signKind_36 ?_
    exact wz_iret C dX10_signKind_37 ⟨_, rfl, h⟩
def rm_X10_isBlank : Room := { frames := 0, cells := 0, slots := 0, locals := 0 }
set_option maxHeartbeats 4000000 in
set_option maxRecDepth 100000 in
theorem k_X10_isBlank (G : KG) (hG : KokC G) (l0 : Int) (I : Ii) (J : Jj) (Q : Int → Ii → Jj → Prop) (h : wp_X10_isBlank l0 I J Q) : Ctr G yX10_isBlank wsX10_isBlank rm_X10_isBlank [.int (iZ l0)] (I, J) (QsB Q) := by
  unfold wp_X10_isBlank at h
  skip
  refine Ctr.ofZ (cc := cX10_isBlank) (nL := 1) (ret := (some .boolean)) [some (.int (iZ l0))] hG.1 (by decide +kernel) rfl (Nat.le_of_ble_eq_true rfl) (Nat.le_of_ble_eq_true rfl) (by simp [lvA, lv_args, Value.category]) ?_
  intro X hX C
  have hz := hG.2
  refine wz_iload_n C rfl rfl dX10_isBlank_0 ?_
  refine wz_bipush C (by decide) dX10_isBlank_1 ?_
  obtain ⟨g1, h⟩ := h
  refine wz_icmp_eq C (tgt := 12) g1 (by decide) dX10_isBlank_3 (by decide) (fun c => ?_) (fun c => ?_)
  · replace h := h.1 c
    refine wz_iconst C dX10_isBlank_12 ?_
    refine wz_goto C dX10_isBlank_13 (tgt := 17) (by decide) ?_
    exact wz_zret C (Or.inr rfl) dX10_isBlank_17 ⟨_, rfl, (Or.inr rfl), h⟩
  · replace h := h.2 c
    refine wz_iload_n C rfl rfl dX10_isBlank_6 ?_
    refine wz_bipush C (by decide) dX10_isBlank_7 ?_
    refine wz_icmp_ne C (tgt := 16) g1 (by decide) dX10_isBlank_9 (by decide) (fun c => ?_) (fun c => ?_)
    · replace h := h.1 c
      refine wz_iconst C dX10_isBlank_16 ?_
      exact wz_zret C (Or.inl rfl) dX10_isBlank_17 ⟨_, rfl, (Or.inl rfl), h⟩
    · replace h := h.2 c
      refine wz_iconst C dX10_isBlank_12 ?_
      refine wz_goto C dX10_isBlank_13 (tgt := 17) (by decide) ?_
      exact wz_zret C (Or.inr rfl) dX10_isBlank_17 ⟨_, rfl, (Or.inr rfl), h⟩
def rm_X10_isLetter : Room := { frames := 0, cells := 0, slots := 0, locals := 0 }
set_option maxHeartbeats 4000000 in
set_option maxRecDepth 100000 in
theorem k_X10_isLetter (G : KG) (hG : KokC G) (l0 : Int) (I : Ii) (J : Jj) (Q : Int → Ii → Jj → Prop) (h : wp_X10_isLetter l0 I J Q) : Ctr G yX10_isLetter wsX10_isLetter rm_X10_isLetter [.int (iZ l0)] (I, J) (QsB Q) := by
  unfold wp_X10_isLetter at h
  skip
  refine Ctr.ofZ (cc := cX10_isLetter) (nL := 1) (ret := (some .boolean)) [some (.int (iZ l0))] hG.1 (by decide +kernel) rfl (Nat.le_of_ble_eq_true rfl) (Nat.le_of_ble_eq_true rfl) (by simp [lvA, lv_args, Value.category]) ?_
  intro X hX C
  have hz := hG.2
  refine wz_iload_n C rfl rfl dX10_isLetter_0 ?_
  refine wz_bipush C (by decide) dX10_isLetter_1 ?_
  obtain ⟨g1, h⟩ := h
  refine wz_icmp_lt C (tgt := 16) g1 (by decide) dX10_isLetter_3 (by decide) (fun c => ?_) (fun c => ?_)
  · replace h := h.1 c
    refine wz_iconst C dX10_isLetter_16 ?_
    exact wz_zret C (Or.inl rfl) dX10_isLetter_17 ⟨_, rfl, (Or.inl rfl), h⟩
  · replace h := h.2 c
    refine wz_iload_n C rfl rfl dX10_isLetter_6 ?_
    refine wz_bipush C (by decide) dX10_isLetter_7 ?_
    refine wz_icmp_gt C (tgt := 16) g1 (by decide) dX10_isLetter_9 (by decide) (fun c => ?_) (fun c => ?_)
    · replace h := h.1 c
      refine wz_iconst C dX10_isLetter_16 ?_
      exact wz_zret C (Or.inl rfl) dX10_isLetter_17 ⟨_, rfl, (Or.inl rfl), h⟩
    · replace h := h.2 c
      refine wz_iconst C dX10_isLetter_12 ?_
      refine wz_goto C dX10_isLetter_13 (tgt := 17) (by decide) ?_
      exact wz_zret C (Or.inr rfl) dX10_isLetter_17 ⟨_, rfl, (Or.inr rfl), h⟩
def rm_X10_isDigit : Room := { frames := 0, cells := 0, slots := 0, locals := 0 }
set_option maxHeartbeats 4000000 in
set_option maxRecDepth 100000 in
theorem k_X10_isDigit (G : KG) (hG : KokC G) (l0 : Int) (I : Ii) (J : Jj) (Q : Int → Ii → Jj → Prop) (h : wp_X10_isDigit l0 I J Q) : Ctr G yX10_isDigit wsX10_isDigit rm_X10_isDigit [.int (iZ l0)] (I, J) (QsB Q) := by
  unfold wp_X10_isDigit at h
  skip
  refine Ctr.ofZ (cc := cX10_isDigit) (nL := 1) (ret := (some .boolean)) [some (.int (iZ l0))] hG.1 (by decide +kernel) rfl (Nat.le_of_ble_eq_true rfl) (Nat.le_of_ble_eq_true rfl) (by simp [lvA, lv_args, Value.category]) ?_
  intro X hX C
  have hz := hG.2
  refine wz_iload_n C rfl rfl dX10_isDigit_0 ?_
  refine wz_bipush C (by decide) dX10_isDigit_1 ?_
  obtain ⟨g1, h⟩ := h
  refine wz_icmp_lt C (tgt := 16) g1 (by decide) dX10_isDigit_3 (by decide) (fun c => ?_) (fun c => ?_)
  · replace h := h.1 c
    refine wz_iconst C dX10_isDigit_16 ?_
    exact wz_zret C (Or.inl rfl) dX10_isDigit_17 ⟨_, rfl, (Or.inl rfl), h⟩
  · replace h := h.2 c
    refine wz_iload_n C rfl rfl dX10_isDigit_6 ?_
    refine wz_bipush C (by decide) dX10_isDigit_7 ?_
    refine wz_icmp_gt C (tgt := 16) g1 (by decide) dX10_isDigit_9 (by decide) (fun c => ?_) (fun c => ?_)
    · replace h := h.1 c
      refine wz_iconst C dX10_isDigit_16 ?_
      exact wz_zret C (Or.inl rfl) dX10_isDigit_17 ⟨_, rfl, (Or.inl rfl), h⟩
    · replace h := h.2 c
      refine wz_iconst C dX10_isDigit_12 ?_
      refine wz_goto C dX10_isDigit_13 (tgt := 17) (by decide) ?_
      exact wz_zret C (Or.inr rfl) dX10_isDigit_17 ⟨_, rfl, (Or.inr rfl), h⟩
def rm_X10_withLetter : Room := { frames := 0, cells := 0, slots := 0, locals := 0 }
set_option maxHeartbeats 4000000 in
set_option maxRecDepth 100000 in
theorem k_X10_withLetter (G : KG) (hG : KokC G) (l0 : Int64) (l2 : Int) (I : Ii) (J : Jj) (Q : Int64 → Ii → Jj → Prop) (h : wp_X10_withLetter l0 l2 I J Q) : Ctr G yX10_withLetter wsX10_withLetter rm_X10_withLetter [.long l0, .int (iZ l2)] (I, J) (QsJ Q) := by
  unfold wp_X10_withLetter at h
  skip
  refine Ctr.ofZ (cc := cX10_withLetter) (nL := 3) (ret := (some .long)) [some (.long l0), none, some (.int (iZ l2))] hG.1 (by decide +kernel) rfl (Nat.le_of_ble_eq_true rfl) (Nat.le_of_ble_eq_true rfl) (by simp [lvA, lv_args, Value.category]) ?_
  intro X hX C
  have hz := hG.2
  refine wz_lload_n C rfl rfl dX10_withLetter_0 ?_
  refine wz_iconst C dX10_withLetter_1 ?_
  refine wd_lshl C dX10_withLetter_2 ?_
  refine wz_iload_n C rfl rfl dX10_withLetter_3 ?_
  refine wz_bipush C (by decide) dX10_withLetter_4 ?_
  refine wz_isub C dX10_withLetter_6 ?_
  refine wd_i2l C dX10_withLetter_7 ?_
  refine wz_lor C rfl dX10_withLetter_8 ?_
  exact wz_lret C dX10_withLetter_9 ⟨_, rfl, h⟩
theorem in_X10_fail_X10 : ∀ w ∈ wsX100, w ∈ wsX10_fail := by decide +kernel
theorem f_X10_fail_44 : FLk wsX10_fail RX10 44 13 9 := flk 13 9 rfl tyX10_ok nmX10 in_X10_fail_X10 (by decide) (by decide +kernel)
theorem f_X10_fail_32 : FLk wsX10_fail RX10 32 13 3 := flk 13 3 rfl tyX10_ok nmX10 in_X10_fail_X10 (by decide) (by decide +kernel)
theorem f_X10_fail_15 : FLk wsX10_fail RX10 15 13 10 := flk 13 10 rfl tyX10_ok nmX10 in_X10_fail_X10 (by decide) (by decide +kernel)
theorem f_X10_fail_41 : FLk wsX10_fail RX10 41 13 8 := flk 13 8 rfl tyX10_ok nmX10 in_X10_fail_X10 (by decide) (by decide +kernel)
theorem f_X10_fail_19 : FLk wsX10_fail RX10 19 13 11 := flk 13 11 rfl tyX10_ok nmX10 in_X10_fail_X10 (by decide) (by decide +kernel)
def rm_X10_fail : Room := { frames := 0, cells := 0, slots := 0, locals := 0 }
set_option maxHeartbeats 4000000 in
set_option maxRecDepth 100000 in
theorem k_X10_fail (G : KG) (hG : KokC G) (l1 : Int) (I : Ii) (J : Jj) (Q : Int → Ii → Jj → Prop) (h : wp_X10_fail l1 I J Q) : Ctr G yX10_fail wsX10_fail rm_X10_fail [.ref (kadr G 101), .int (iZ l1)] (I, J) (QsB Q) := by
  unfold wp_X10_fail at h
  skip
  refine Ctr.ofZ (cc := cX10_fail) (nL := 2) (ret := (some .boolean)) [some (.ref (kadr G 101)), some (.int (iZ l1))] hG.1 (by decide +kernel) rfl (Nat.le_of_ble_eq_true rfl) (Nat.le_of_ble_eq_true rfl) (by simp [lvA, lv_args, Value.category]) ?_
  intro X hX C
  have hz := hG.2
  refine wz_aload_n C rfl rfl dX10_fail_0 ?_
  refine wz_iload_n C rfl rfl dX10_fail_1 ?_
  refine wd_putI C f_X10_fail_44 fp_X10_9 (sOc hz rfl) dX10_fail_2 (fun I1 e => ?_)
  replace h := h I1 e
  refine wz_aload_n C rfl rfl dX10_fail_5 ?_
  refine wz_aload_n C rfl rfl dX10_fail_6 ?_
  refine wz_getI C rfl f_X10_fail_32 (sOc hz rfl) dX10_fail_7 ?_
  refine wd_putI C f_X10_fail_15 fp_X10_10 (sOc hz rfl) dX10_fail_10 (fun I2 e => ?_)
  replace h := h I2 e
  refine wz_aload_n C rfl rfl dX10_fail_13 ?_
  refine wz_aload_n C rfl rfl dX10_fail_14 ?_
  refine wz_getI C rfl f_X10_fail_41 (sOc hz rfl) dX10_fail_15 ?_
  refine wd_putI C f_X10_fail_19 fp_X10_11 (sOc hz rfl) dX10_fail_18 (fun I3 e => ?_)
  replace h := h I3 e
  refine wz_iconst C dX10_fail_21 ?_
  exact wz_zret C (Or.inl rfl) dX10_fail_22 ⟨_, rfl, (Or.inl rfl), h⟩
theorem in_X11_truncate_X10 : ∀ w ∈ wsX100, w ∈ wsX11_truncate := by decide +kernel
theorem in_X11_truncate_X11 : ∀ w ∈ wsX110, w ∈ wsX11_truncate := by decide +kernel
theorem f_X11_truncate_12 : FLk wsX11_truncate RX11 12 14 0 := flk 14 0 rfl tyX11_ok nmX11 in_X11_truncate_X11 (by decide) (by decide +kernel)
theorem f_X11_truncate_102 : FLk wsX11_truncate RX11 102 13 1 := flk 13 1 rfl tyX10_ok nmX10 in_X11_truncate_X10 (by decide) (by decide +kernel)
def rm_X11_truncate : Room := { frames := 0, cells := 0, slots := 0, locals := 0 }
set_option maxHeartbeats 4000000 in
set_option maxRecDepth 100000 in
theorem bk_X11_truncate_15 (G : KG) (hG : KokC G) (X : KX) (hX : KR X = rm_X11_truncate) (C : Fr G X cX11_truncate 2 yX11_truncate.cls (some .int) wsX11_truncate) (l1 : Int) (Q : Int → Ii → Jj → Prop)  (I : Ii) (J : Jj) (h : B_X11_truncate_15 l1 Q  I J)   : Wz G X 2 (QsU G X (QsI Q)) 0 0 15 [none, none] [] I J := by
  have hz := hG.2
  unfold B_X11_truncate_15 at h
  exact False.elim h
set_option maxHeartbeats 4000000 in
set_option maxRecDepth 100000 in
theorem k_X11_truncate (G : KG) (hG : KokC G) (l1 : Int) (I : Ii) (J : Jj) (Q : Int → Ii → Jj → Prop) (h : wp_X11_truncate l1 I J Q) : Ctr G yX11_truncate wsX11_truncate rm_X11_truncate [.ref (kadr G 100), .int (iZ l1)] (I, J) (QsI Q) := by
  unfold wp_X11_truncate at h
  skip
  refine Ctr.ofZ (cc := cX11_truncate) (nL := 2) (ret := (some .int)) [some (.ref (kadr G 100)), some (.int (iZ l1))] hG.1 (by decide +kernel) rfl (Nat.le_of_ble_eq_true rfl) (Nat.le_of_ble_eq_true rfl) (by simp [lvA, lv_args, Value.category]) ?_
  intro X hX C
  have hz := hG.2
  refine wz_iload_n C rfl rfl dX11_truncate_0 ?_
  obtain ⟨g1, h⟩ := h
  refine wz_if_lt C (tgt := 15) g1 dX11_truncate_1 (by decide) (fun c => ?_) (fun c => ?_)
  · replace h := h.1 c
    exact Wz.drop (bk_X11_truncate_15 G hG X hX C l1 Q I J h) trivial
  · replace h := h.2 c
    refine wz_iload_n C rfl rfl dX11_truncate_4 ?_
    refine wz_aload_n C rfl rfl dX11_truncate_5 ?_
    refine wz_getR C (j := 101) f_X11_truncate_12 (sOc hz rfl) (by decide) dX11_truncate_6 ?_
    refine wz_getI C rfl f_X11_truncate_102 (sOc hz rfl) dX11_truncate_9 ?_
    obtain ⟨g2, h⟩ := h
    refine wz_icmp_le C (tgt := 25) g1 g2 dX11_truncate_12 (by decide) (fun c => ?_) (fun c => ?_)
    · replace h := h.1 c
      refine wz_aload_n C rfl rfl dX11_truncate_25 ?_
      refine wz_getR C (j := 101) f_X11_truncate_12 (sOc hz rfl) (by decide) dX11_truncate_26 ?_
      refine wz_iload_n C rfl rfl dX11_truncate_29 ?_
      refine wd_putI C f_X11_truncate_102 fp_X10_1 (sOc hz rfl) dX11_truncate_30 (fun I3 e => ?_)
      replace h := h I3 e
      refine wz_iload_n C rfl rfl dX11_truncate_33 ?_
      exact wz_iret C dX11_truncate_34 ⟨_, rfl, h⟩
    · replace h := h.2 c
      exact Wz.drop (bk_X11_truncate_15 G hG X hX C l1 Q I J h) trivial
theorem in_X11_hasVertex_X11 : ∀ w ∈ wsX110, w ∈ wsX11_hasVertex := by decide +kernel
theorem in_X11_hasVertex_X2 : ∀ w ∈ wsX20, w ∈ wsX11_hasVertex := by decide +kernel
theorem f_X11_hasVertex_40 : FLk wsX11_hasVertex RX11 40 14 4 := flk 14 4 rfl tyX11_ok nmX11 in_X11_hasVertex_X11 (by decide) (by decide +kernel)
theorem f_X11_hasVertex_141 : FLk wsX11_hasVertex RX11 141 5 0 := flk 5 0 rfl tyX2_ok nmX2 in_X11_hasVertex_X2 (by decide) (by decide +kernel)
def rm_X11_hasVertex : Room := { frames := 0, cells := 0, slots := 0, locals := 0 }
set_option maxHeartbeats 4000000 in
set_option maxRecDepth 100000 in
theorem k_X11_hasVertex (G : KG) (hG : KokC G) (l1 : Int) (I : Ii) (J : Jj) (Q : Int → Ii → Jj → Prop) (h : wp_X11_hasVertex l1 I J Q) : Ctr G yX11_hasVertex wsX11_hasVertex rm_X11_hasVertex [.ref (kadr G 100), .int (iZ l1)] (I, J) (QsB Q) := by
  unfold wp_X11_hasVertex at h
  skip
  refine Ctr.ofZ (cc := cX11_hasVertex) (nL := 2) (ret := (some .boolean)) [some (.ref (kadr G 100)), some (.int (iZ l1))] hG.1 (by decide +kernel) rfl (Nat.le_of_ble_eq_true rfl) (Nat.le_of_ble_eq_true rfl) (by simp [lvA, lv_args, Value.category]) ?_
  intro X hX C
  have hz := hG.2
  refine wz_iload_n C rfl rfl dX11_hasVertex_0 ?_
  obtain ⟨g1, h⟩ := h
  refine wz_if_lt C (tgt := 19) g1 dX11_hasVertex_1 (by decide) (fun c => ?_) (fun c => ?_)
  · replace h := h.1 c
    refine wz_iconst C dX11_hasVertex_19 ?_
    exact wz_zret C (Or.inl rfl) dX11_hasVertex_20 ⟨_, rfl, (Or.inl rfl), h⟩
  · replace h := h.2 c
    refine wz_iload_n C rfl rfl dX11_hasVertex_4 ?_
    refine wz_aload_n C rfl rfl dX11_hasVertex_5 ?_
    refine wz_getR C (j := 200) f_X11_hasVertex_40 (sOc hz rfl) (by decide) dX11_hasVertex_6 ?_
    refine wz_getI C rfl f_X11_hasVertex_141 (sOc hz rfl) dX11_hasVertex_9 ?_
    obtain ⟨g2, h⟩ := h
    refine wz_icmp_ge C (tgt := 19) g1 g2 dX11_hasVertex_12 (by decide) (fun c => ?_) (fun c => ?_)
    · replace h := h.1 c
      refine wz_iconst C dX11_hasVertex_19 ?_
      exact wz_zret C (Or.inl rfl) dX11_hasVertex_20 ⟨_, rfl, (Or.inl rfl), h⟩
    · replace h := h.2 c
      refine wz_iconst C dX11_hasVertex_15 ?_
      refine wz_goto C dX11_hasVertex_16 (tgt := 20) (by decide) ?_
      exact wz_zret C (Or.inr rfl) dX11_hasVertex_20 ⟨_, rfl, (Or.inr rfl), h⟩
theorem in_X11_hasPart_X11 : ∀ w ∈ wsX110, w ∈ wsX11_hasPart := by decide +kernel
theorem in_X11_hasPart_X2 : ∀ w ∈ wsX20, w ∈ wsX11_hasPart := by decide +kernel
theorem f_X11_hasPart_40 : FLk wsX11_hasPart RX11 40 14 4 := flk 14 4 rfl tyX11_ok nmX11 in_X11_hasPart_X11 (by decide) (by decide +kernel)
theorem f_X11_hasPart_262 : FLk wsX11_hasPart RX11 262 5 2 := flk 5 2 rfl tyX2_ok nmX2 in_X11_hasPart_X2 (by decide) (by decide +kernel)
def rm_X11_hasPart : Room := { frames := 0, cells := 0, slots := 0, locals := 0 }
set_option maxHeartbeats 4000000 in
set_option maxRecDepth 100000 in
theorem k_X11_hasPart (G : KG) (hG : KokC G) (l1 : Int) (I : Ii) (J : Jj) (Q : Int → Ii → Jj → Prop) (h : wp_X11_hasPart l1 I J Q) : Ctr G yX11_hasPart wsX11_hasPart rm_X11_hasPart [.ref (kadr G 100), .int (iZ l1)] (I, J) (QsB Q) := by
  unfold wp_X11_hasPart at h
  skip
  refine Ctr.ofZ (cc := cX11_hasPart) (nL := 2) (ret := (some .boolean)) [some (.ref (kadr G 100)), some (.int (iZ l1))] hG.1 (by decide +kernel) rfl (Nat.le_of_ble_eq_true rfl) (Nat.le_of_ble_eq_true rfl) (by simp [lvA, lv_args, Value.category]) ?_
  intro X hX C
  have hz := hG.2
  refine wz_iload_n C rfl rfl dX11_hasPart_0 ?_
  obtain ⟨g1, h⟩ := h
  refine wz_if_lt C (tgt := 19) g1 dX11_hasPart_1 (by decide) (fun c => ?_) (fun c => ?_)
  · replace h := h.1 c
    refine wz_iconst C dX11_hasPart_19 ?_
    exact wz_zret C (Or.inl rfl) dX11_hasPart_20 ⟨_, rfl, (Or.inl rfl), h⟩
  · replace h := h.2 c
    refine wz_iload_n C rfl rfl dX11_hasPart_4 ?_
    refine wz_aload_n C rfl rfl dX11_hasPart_5 ?_
    refine wz_getR C (j := 200) f_X11_hasPart_40 (sOc hz rfl) (by decide) dX11_hasPart_6 ?_
    refine wz_getI C rfl f_X11_hasPart_262 (sOc hz rfl) dX11_hasPart_9 ?_
    obtain ⟨g2, h⟩ := h
    refine wz_icmp_ge C (tgt := 19) g1 g2 dX11_hasPart_12 (by decide) (fun c => ?_) (fun c => ?_)
    · replace h := h.1 c
      refine wz_iconst C dX11_hasPart_19 ?_
      exact wz_zret C (Or.inl rfl) dX11_hasPart_20 ⟨_, rfl, (Or.inl rfl), h⟩
    · replace h := h.2 c
      refine wz_iconst C dX11_hasPart_15 ?_
      refine wz_goto C dX11_hasPart_16 (tgt := 20) (by decide) ?_
      exact wz_zret C (Or.inr rfl) dX11_hasPart_20 ⟨_, rfl, (Or.inr rfl), h⟩
