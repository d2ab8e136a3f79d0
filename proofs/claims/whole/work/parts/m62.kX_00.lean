theorem in_X2_clear_X2 : ∀ w ∈ wsX20, w ∈ wsX2_clear := by decide +kernel
theorem f_X2_clear_32 : FLk wsX2_clear RX2 32 2 0 := flk 2 0 rfl tyX2_ok nmX2 in_X2_clear_X2 (by decide) (by decide +kernel)
theorem fp_X2_0 : FPk 2 0 .int := fun C9 T9 N9 h => by
  have h : some (RX2, TX2, 12) = some (C9, T9, N9) := h
  cases h
  exact ⟨rfl, by decide +kernel⟩
theorem f_X2_clear_35 : FLk wsX2_clear RX2 35 2 1 := flk 2 1 rfl tyX2_ok nmX2 in_X2_clear_X2 (by decide) (by decide +kernel)
theorem fp_X2_1 : FPk 2 1 .int := fun C9 T9 N9 h => by
  have h : some (RX2, TX2, 12) = some (C9, T9, N9) := h
  cases h
  exact ⟨rfl, by decide +kernel⟩
theorem f_X2_clear_9 : FLk wsX2_clear RX2 9 2 2 := flk 2 2 rfl tyX2_ok nmX2 in_X2_clear_X2 (by decide) (by decide +kernel)
theorem fp_X2_2 : FPk 2 2 .int := fun C9 T9 N9 h => by
  have h : some (RX2, TX2, 12) = some (C9, T9, N9) := h
  cases h
  exact ⟨rfl, by decide +kernel⟩
theorem f_X2_clear_38 : FLk wsX2_clear RX2 38 2 3 := flk 2 3 rfl tyX2_ok nmX2 in_X2_clear_X2 (by decide) (by decide +kernel)
theorem fp_X2_3 : FPk 2 3 .int := fun C9 T9 N9 h => by
  have h : some (RX2, TX2, 12) = some (C9, T9, N9) := h
  cases h
  exact ⟨rfl, by decide +kernel⟩
theorem f_X2_clear_41 : FLk wsX2_clear RX2 41 2 4 := flk 2 4 rfl tyX2_ok nmX2 in_X2_clear_X2 (by decide) (by decide +kernel)
theorem fp_X2_4 : FPk 2 4 .int := fun C9 T9 N9 h => by
  have h : some (RX2, TX2, 12) = some (C9, T9, N9) := h
  cases h
  exact ⟨rfl, by decide +kernel⟩
theorem f_X2_clear_44 : FLk wsX2_clear RX2 44 2 5 := flk 2 5 rfl tyX2_ok nmX2 in_X2_clear_X2 (by decide) (by decide +kernel)
theorem fp_X2_5 : FPk 2 5 .int := fun C9 T9 N9 h => by
  have h : some (RX2, TX2, 12) = some (C9, T9, N9) := h
  cases h
  exact ⟨rfl, by decide +kernel⟩
theorem f_X2_clear_47 : FLk wsX2_clear RX2 47 2 6 := flk 2 6 rfl tyX2_ok nmX2 in_X2_clear_X2 (by decide) (by decide +kernel)
theorem fp_X2_6 : FPk 2 6 .int := fun C9 T9 N9 h => by
  have h : some (RX2, TX2, 12) = some (C9, T9, N9) := h
  cases h
  exact ⟨rfl, by decide +kernel⟩
def rm_X2_clear : Room := { frames := 0, cells := 0, slots := 0, locals := 0 }
set_option maxHeartbeats 4000000 in
set_option maxRecDepth 100000 in
theorem k_X2_clear (G : KG) (hG : Kok G) (k0 : Nat) (I : Ii) (J : Jj) (Q : Ii → Jj → Prop) (h : wp_X2_clear k0 I J Q) : Ctr G yX2_clear wsX2_clear rm_X2_clear [.ref (kadr G k0)] (I, J) (QsV Q) := by
  unfold wp_X2_clear at h
  obtain ⟨hk0, h⟩ := h
  refine Ctr.ofZ (cc := cX2_clear) (nL := 1) (ret := none) [some (.ref (kadr G k0))] hG (by decide +kernel) rfl (Nat.le_of_ble_eq_true rfl) (Nat.le_of_ble_eq_true rfl) (by simp [lvA, lv_args, Value.category]) ?_
  intro X hX C
  refine wz_aload_n C rfl rfl dX2_clear_0 ?_
  refine wz_iconst C dX2_clear_1 ?_
  refine wd_putI C f_X2_clear_32 fp_X2_0 (soX2_0 hk0) dX2_clear_2 (fun I1 e => ?_)
  replace h := h I1 e
  refine wz_aload_n C rfl rfl dX2_clear_5 ?_
  refine wz_iconst C dX2_clear_6 ?_
  refine wd_putI C f_X2_clear_35 fp_X2_1 (soX2_1 hk0) dX2_clear_7 (fun I2 e => ?_)
  replace h := h I2 e
  refine wz_aload_n C rfl rfl dX2_clear_10 ?_
  refine wz_iconst C dX2_clear_11 ?_
  refine wd_putI C f_X2_clear_9 fp_X2_2 (soX2_2 hk0) dX2_clear_12 (fun I3 e => ?_)
  replace h := h I3 e
  refine wz_aload_n C rfl rfl dX2_clear_15 ?_
  refine wz_iconst C dX2_clear_16 ?_
  refine wd_putI C f_X2_clear_38 fp_X2_3 (soX2_3 hk0) dX2_clear_17 (fun I4 e => ?_)
  replace h := h I4 e
  refine wz_aload_n C rfl rfl dX2_clear_20 ?_
  refine wz_iconst C dX2_clear_21 ?_
  refine wd_putI C f_X2_clear_41 fp_X2_4 (soX2_4 hk0) dX2_clear_22 (fun I5 e => ?_)
  replace h := h I5 e
  refine wz_aload_n C rfl rfl dX2_clear_25 ?_
  refine wz_iconst C dX2_clear_26 ?_
  refine wd_putI C f_X2_clear_44 fp_X2_5 (soX2_5 hk0) dX2_clear_27 (fun I6 e => ?_)
  replace h := h I6 e
  refine wz_aload_n C rfl rfl dX2_clear_30 ?_
  refine wz_iconst C dX2_clear_31 ?_
  refine wd_putI C f_X2_clear_47 fp_X2_6 (soX2_6 hk0) dX2_clear_32 (fun I7 e => ?_)
  replace h := h I7 e
  exact wz_vret C dX2_clear_35 ⟨rfl, h⟩
theorem in_X2_nameOf_X2 : ∀ w ∈ wsX20, w ∈ wsX2_nameOf := by decide +kernel
theorem f_X2_nameOf_15 : FLk wsX2_nameOf RX2 15 2 7 := flk 2 7 rfl tyX2_ok nmX2 in_X2_nameOf_X2 (by decide) (by decide +kernel)
def rm_X2_nameOf : Room := { frames := 0, cells := 0, slots := 0, locals := 0 }
set_option maxHeartbeats 4000000 in
set_option maxRecDepth 100000 in
theorem k_X2_nameOf (G : KG) (hG : Kok G) (k0 : Nat) (l1 : Int) (I : Ii) (J : Jj) (Q : Int64 → Ii → Jj → Prop) (h : wp_X2_nameOf k0 l1 I J Q) : Ctr G yX2_nameOf wsX2_nameOf rm_X2_nameOf [.ref (kadr G k0), .int (iZ l1)] (I, J) (QsJ Q) := by
  unfold wp_X2_nameOf at h
  obtain ⟨hk0, h⟩ := h
  refine Ctr.ofZ (cc := cX2_nameOf) (nL := 2) (ret := (some .long)) [some (.ref (kadr G k0)), some (.int (iZ l1))] hG (by decide +kernel) rfl (Nat.le_of_ble_eq_true rfl) (Nat.le_of_ble_eq_true rfl) (by simp [lvA, lv_args, Value.category]) ?_
  intro X hX C
  refine wz_iload_n C rfl rfl dX2_nameOf_0 ?_
  obtain ⟨g1, h⟩ := h
  refine wz_if_lt C (tgt := 22) g1 dX2_nameOf_1 (by decide) (fun c => ?_) (fun c => ?_)
  · replace h := h.1 c
    refine wz_lconst C (v := lZ 0) (by decide) dX2_nameOf_22 ?_
    exact wz_lret C dX2_nameOf_23 ⟨_, rfl, h⟩
  · replace h := h.2 c
    refine wz_iload_n C rfl rfl dX2_nameOf_4 ?_
    refine wz_aload_n C rfl rfl dX2_nameOf_5 ?_
    refine wz_getR C (j := k0 + 1) f_X2_nameOf_15 (soX2_7 hk0) dX2_nameOf_6 ?_
    refine wz_alen1 C (n := 14) (srX2_1 hk0) dX2_nameOf_9 ?_
    refine wz_icmp_ge C (tgt := 22) g1 (by decide) dX2_nameOf_10 (by decide) (fun c => ?_) (fun c => ?_)
    · replace h := h.1 c
      refine wz_lconst C (v := lZ 0) (by decide) dX2_nameOf_22 ?_
      exact wz_lret C dX2_nameOf_23 ⟨_, rfl, h⟩
    · replace h := h.2 c
      refine wz_aload_n C rfl rfl dX2_nameOf_13 ?_
      refine wz_getR C (j := k0 + 1) f_X2_nameOf_15 (soX2_7 hk0) dX2_nameOf_14 ?_
      refine wz_iload_n C rfl rfl dX2_nameOf_17 ?_
      obtain ⟨g2, h⟩ := h
      refine wz_laload C l1.toNat (n := 14) (srX2_1 hk0) (zN g2) (zL g2) (by decide) rfl dX2_nameOf_18 ?_
      refine wz_goto C dX2_nameOf_19 (tgt := 23) (by decide) ?_
      exact wz_lret C dX2_nameOf_23 ⟨_, rfl, h⟩
theorem in_X2_vertexNamed_X2 : ∀ w ∈ wsX20, w ∈ wsX2_vertexNamed := by decide +kernel
theorem f_X2_vertexNamed_32 : FLk wsX2_vertexNamed RX2 32 2 0 := flk 2 0 rfl tyX2_ok nmX2 in_X2_vertexNamed_X2 (by decide) (by decide +kernel)
def rm_X2_vertexNamed : Room := { frames := 1, cells := 0, slots := 0, locals := 21 }
set_option maxHeartbeats 4000000 in
set_option maxRecDepth 100000 in
theorem lk_X2_vertexNamed_2 (G : KG) (hG : Kok G) (X : KX) (hX : KR X = rm_X2_vertexNamed) (C : Fr G X cX2_vertexNamed 4 yX2_vertexNamed.cls (some .int) wsX2_vertexNamed) (k0 : Nat) (l1 : Int64) (hk0 : gK k0) (Q : Int → Ii → Jj → Prop) : ∀ (n : Nat) (l3 : Int) (I : Ii) (J : Jj), L_X2_vertexNamed_2 k0 l1 Q n l3 I J → Wz G X 4 (QsU G X (QsI Q)) 0 0 2 [some (.ref (kadr G k0)), some (.long l1), none, some (.int (iZ l3))] [] I J := by
  intro n
  induction n with
  | zero => intro l3 I J h; exact False.elim h
  | succ n w2 =>
    intro l3 I J h
    have h : Lb_X2_vertexNamed_2 k0 l1 Q (L_X2_vertexNamed_2 k0 l1 Q n) l3 I J := h
    unfold Lb_X2_vertexNamed_2 at h
    generalize L_X2_vertexNamed_2 k0 l1 Q n = r2 at h w2
    refine wz_iload_n C rfl rfl dX2_vertexNamed_2 ?_
    refine wz_aload_n C rfl rfl dX2_vertexNamed_3 ?_
    refine wz_getI C rfl f_X2_vertexNamed_32 (soX2_0 hk0) dX2_vertexNamed_4 ?_
    obtain ⟨g1, h⟩ := h
    obtain ⟨g2, h⟩ := h
    refine wz_icmp_ge C (tgt := 28) g1 g2 dX2_vertexNamed_7 (by decide) (fun c => ?_) (fun c => ?_)
    · replace h := h.1 c
      refine wz_iconst C dX2_vertexNamed_28 ?_
      exact wz_iret C dX2_vertexNamed_29 ⟨_, rfl, h⟩
    · replace h := h.2 c
      refine wz_aload_n C rfl rfl dX2_vertexNamed_10 ?_
      refine wz_iload_n C rfl rfl dX2_vertexNamed_11 ?_
      refine wm_callV C (o := k0) (As := [.int (iZ l3)]) (st := []) (a' := 0) (b' := 0) (spX2 hk0) rfl (k_X2_nameOf G hG k0 l3 I J _ h) 1 gX2_vertexNamed_X2_nameOf rfl (by decide +kernel) (by rw [hX]; exact ⟨Nat.le_of_ble_eq_true rfl, Nat.le_of_ble_eq_true rfl⟩) rfl (Nat.le_of_ble_eq_true rfl) rfl rfl rfl dX2_vertexNamed_12 (kk_sJ (fun v3 I3 J3 h => ?_))
      refine wz_lload_n C rfl rfl dX2_vertexNamed_15 ?_
      refine wd_lcmp C dX2_vertexNamed_16 ?_
      refine wz_if_ne C (tgt := 22) (toInt_rg _) dX2_vertexNamed_17 (by decide) (fun c => ?_) (fun c => ?_)
      · replace h := h.1 c
        refine wz_iinc_3 C rfl dX2_vertexNamed_22 ?_
        refine wz_goto C dX2_vertexNamed_25 (tgt := 2) (by decide) ?_
        exact w2 (l3 + 1) I3 J3 h
      · replace h := h.2 c
        refine wz_iload_n C rfl rfl dX2_vertexNamed_20 ?_
        exact wz_iret C dX2_vertexNamed_21 ⟨_, rfl, h⟩
set_option maxHeartbeats 4000000 in
set_option maxRecDepth 100000 in
theorem k_X2_vertexNamed (G : KG) (hG : Kok G) (k0 : Nat) (l1 : Int64) (I : Ii) (J : Jj) (Q : Int → Ii → Jj → Prop) (h : wp_X2_vertexNamed k0 l1 I J Q) : Ctr G yX2_vertexNamed wsX2_vertexNamed rm_X2_vertexNamed [.ref (kadr G k0), .long l1] (I, J) (QsI Q) := by
  unfold wp_X2_vertexNamed at h
  obtain ⟨hk0, h⟩ := h
  refine Ctr.ofZ (cc := cX2_vertexNamed) (nL := 4) (ret := (some .int)) [some (.ref (kadr G k0)), some (.long l1), none, none] hG (by decide +kernel) rfl (Nat.le_of_ble_eq_true rfl) (Nat.le_of_ble_eq_true rfl) (by simp [lvA, lv_args, Value.category]) ?_
  intro X hX C
  refine wz_iconst C dX2_vertexNamed_0 ?_
  refine wz_istore_3 C rfl dX2_vertexNamed_1 ?_
  obtain ⟨n, h⟩ := h
  exact lk_X2_vertexNamed_2 G hG X hX C k0 l1 hk0 Q n 0 I J h
theorem in_X2_limit_X2 : ∀ w ∈ wsX20, w ∈ wsX2_limit := by decide +kernel
theorem f_X2_limit_9 : FLk wsX2_limit RX2 9 2 2 := flk 2 2 rfl tyX2_ok nmX2 in_X2_limit_X2 (by decide) (by decide +kernel)
theorem f_X2_limit_44 : FLk wsX2_limit RX2 44 2 5 := flk 2 5 rfl tyX2_ok nmX2 in_X2_limit_X2 (by decide) (by decide +kernel)
theorem f_X2_limit_38 : FLk wsX2_limit RX2 38 2 3 := flk 2 3 rfl tyX2_ok nmX2 in_X2_limit_X2 (by decide) (by decide +kernel)
def rm_X2_limit : Room := { frames := 0, cells := 0, slots := 0, locals := 0 }
set_option maxHeartbeats 4000000 in
set_option maxRecDepth 100000 in
theorem k_X2_limit (G : KG) (hG : Kok G) (k0 : Nat) (I : Ii) (J : Jj) (Q : Int → Ii → Jj → Prop) (h : wp_X2_limit k0 I J Q) : Ctr G yX2_limit wsX2_limit rm_X2_limit [.ref (kadr G k0)] (I, J) (QsI Q) := by
  unfold wp_X2_limit at h
  obtain ⟨hk0, h⟩ := h
  refine Ctr.ofZ (cc := cX2_limit) (nL := 1) (ret := (some .int)) [some (.ref (kadr G k0))] hG (by decide +kernel) rfl (Nat.le_of_ble_eq_true rfl) (Nat.le_of_ble_eq_true rfl) (by simp [lvA, lv_args, Value.category]) ?_
  intro X hX C
  refine wz_aload_n C rfl rfl dX2_limit_0 ?_
  refine wz_getI C rfl f_X2_limit_9 (soX2_2 hk0) dX2_limit_1 ?_
  refine wz_iconst C dX2_limit_4 ?_
  obtain ⟨g1, h⟩ := h
  refine wz_icmp_ge C (tgt := 15) g1 (by decide) dX2_limit_5 (by decide) (fun c => ?_) (fun c => ?_)
  · replace h := h.1 c
    refine wz_aload_n C rfl rfl dX2_limit_15 ?_
    refine wz_getI C rfl f_X2_limit_44 (soX2_5 hk0) dX2_limit_16 ?_
    refine wz_aload_n C rfl rfl dX2_limit_19 ?_
    refine wz_getI C rfl f_X2_limit_9 (soX2_2 hk0) dX2_limit_20 ?_
    refine wz_iadd C dX2_limit_23 ?_
    refine wz_iconst C dX2_limit_24 ?_
    refine wz_isub C dX2_limit_25 ?_
    refine wz_aload_n C rfl rfl dX2_limit_26 ?_
    refine wz_getI C rfl f_X2_limit_9 (soX2_2 hk0) dX2_limit_27 ?_
    obtain ⟨g2, h⟩ := h
    refine wd_idiv C g2 dX2_limit_30 ?_
    refine wz_aload_n C rfl rfl dX2_limit_31 ?_
    refine wz_getI C rfl f_X2_limit_38 (soX2_3 hk0) dX2_limit_32 ?_
    refine wz_iadd C dX2_limit_35 ?_
    exact wz_iret C dX2_limit_36 ⟨_, rfl, h⟩
  · replace h := h.2 c
    refine wz_aload_n C rfl rfl dX2_limit_8 ?_
    refine wz_getI C rfl f_X2_limit_38 (soX2_3 hk0) dX2_limit_9 ?_
    refine wz_goto C dX2_limit_12 (tgt := 36) (by decide) ?_
    exact wz_iret C dX2_limit_36 ⟨_, rfl, h⟩
theorem in_X3_forget_X3 : ∀ w ∈ wsX30, w ∈ wsX3_forget := by decide +kernel
theorem f_X3_forget_18 : FLk wsX3_forget RX3 18 3 2 := flk 3 2 rfl tyX3_ok nmX3 in_X3_forget_X3 (by decide) (by decide +kernel)
theorem fp_X3_2 : FPk 3 2 .int := fun C9 T9 N9 h => by
  have h : some (RX3, TX3, 3) = some (C9, T9, N9) := h
  cases h
  exact ⟨rfl, by decide +kernel⟩
def rm_X3_forget : Room := { frames := 0, cells := 0, slots := 0, locals := 0 }
set_option maxHeartbeats 4000000 in
set_option maxRecDepth 100000 in
theorem k_X3_forget (G : KG) (hG : Kok G) (I : Ii) (J : Jj) (Q : Ii → Jj → Prop) (h : wp_X3_forget I J Q) : Ctr G yX3_forget wsX3_forget rm_X3_forget [.ref (kadr G 111)] (I, J) (QsV Q) := by
  unfold wp_X3_forget at h
  skip
  refine Ctr.ofZ (cc := cX3_forget) (nL := 1) (ret := none) [some (.ref (kadr G 111))] hG (by decide +kernel) rfl (Nat.le_of_ble_eq_true rfl) (Nat.le_of_ble_eq_true rfl) (by simp [lvA, lv_args, Value.category]) ?_
  intro X hX C
  refine wz_aload_n C rfl rfl dX3_forget_0 ?_
  refine wz_iconst C dX3_forget_1 ?_
  refine wd_putI C f_X3_forget_18 fp_X3_2 rfl dX3_forget_2 (fun I1 e => ?_)
  replace h := h I1 e
  exact wz_vret C dX3_forget_5 ⟨rfl, h⟩
theorem in_X3_entry_X3 : ∀ w ∈ wsX30, w ∈ wsX3_entry := by decide +kernel
theorem f_X3_entry_11 : FLk wsX3_entry RX3 11 3 0 := flk 3 0 rfl tyX3_ok nmX3 in_X3_entry_X3 (by decide) (by decide +kernel)
def rm_X3_entry : Room := { frames := 0, cells := 0, slots := 0, locals := 0 }
set_option maxHeartbeats 4000000 in
set_option maxRecDepth 100000 in
theorem k_X3_entry (G : KG) (hG : Kok G) (l1 : Int) (I : Ii) (J : Jj) (Q : Option Nat → Ii → Jj → Prop) (h : wp_X3_entry l1 I J Q) : Ctr G yX3_entry wsX3_entry rm_X3_entry [.ref (kadr G 111), .int (iZ l1)] (I, J) (QsR G Q) := by
  unfold wp_X3_entry at h
  skip
  refine Ctr.ofZ (cc := cX3_entry) (nL := 2) (ret := (some (.object "ShareGraph$Sharing"))) [some (.ref (kadr G 111)), some (.int (iZ l1))] hG (by decide +kernel) rfl (Nat.le_of_ble_eq_true rfl) (Nat.le_of_ble_eq_true rfl) (by simp [lvA, lv_args, Value.category]) ?_
  intro X hX C
  refine wz_iload_n C rfl rfl dX3_entry_0 ?_
  obtain ⟨g1, h⟩ := h
  refine wz_if_lt C (tgt := 22) g1 dX3_entry_1 (by decide) (fun c => ?_) (fun c => ?_)
  · replace h := h.1 c
    refine wd_aconst_null C dX3_entry_22 ?_
    exact wd_aretN C dX3_entry_23 ⟨none, rfl, h⟩
  · replace h := h.2 c
    refine wz_iload_n C rfl rfl dX3_entry_4 ?_
    refine wz_aload_n C rfl rfl dX3_entry_5 ?_
    refine wz_getR C (j := 112) f_X3_entry_11 rfl dX3_entry_6 ?_
    refine wz_alen2 C (n := 6) rfl dX3_entry_9 ?_
    refine wz_icmp_ge C (tgt := 22) g1 (by decide) dX3_entry_10 (by decide) (fun c => ?_) (fun c => ?_)
    · replace h := h.1 c
      refine wd_aconst_null C dX3_entry_22 ?_
      exact wd_aretN C dX3_entry_23 ⟨none, rfl, h⟩
    · replace h := h.2 c
      refine wz_aload_n C rfl rfl dX3_entry_13 ?_
      refine wz_getR C (j := 112) f_X3_entry_11 rfl dX3_entry_14 ?_
      refine wz_iload_n C rfl rfl dX3_entry_17 ?_
      obtain ⟨g2, h⟩ := h
      refine wz_aaload C l1.toNat (n := 6) rfl (zN g2) (zL g2) (by decide) dX3_entry_18 ?_
      refine wz_goto C dX3_entry_19 (tgt := 23) (by decide) ?_
      exact wd_aretS C dX3_entry_23 ⟨some _, rfl, h⟩
theorem in_X4_debtAt_X4 : ∀ w ∈ wsX40, w ∈ wsX4_debtAt := by decide +kernel
theorem f_X4_debtAt_49 : FLk wsX4_debtAt RX4 49 4 2 := flk 4 2 rfl tyX4_ok nmX4 in_X4_debtAt_X4 (by decide) (by decide +kernel)
def rm_X4_debtAt : Room := { frames := 0, cells := 0, slots := 0, locals := 0 }
set_option maxHeartbeats 4000000 in
set_option maxRecDepth 100000 in
theorem k_X4_debtAt (G : KG) (hG : Kok G) (l1 : Int) (I : Ii) (J : Jj) (Q : Int → Ii → Jj → Prop) (h : wp_X4_debtAt l1 I J Q) : Ctr G yX4_debtAt wsX4_debtAt rm_X4_debtAt [.ref (kadr G 113), .int (iZ l1)] (I, J) (QsI Q) := by
  unfold wp_X4_debtAt at h
  skip
  refine Ctr.ofZ (cc := cX4_debtAt) (nL := 2) (ret := (some .int)) [some (.ref (kadr G 113)), some (.int (iZ l1))] hG (by decide +kernel) rfl (Nat.le_of_ble_eq_true rfl) (Nat.le_of_ble_eq_true rfl) (by simp [lvA, lv_args, Value.category]) ?_
  intro X hX C
  refine wz_iload_n C rfl rfl dX4_debtAt_0 ?_
  refine wz_aload_n C rfl rfl dX4_debtAt_1 ?_
  refine wz_getI C rfl f_X4_debtAt_49 rfl dX4_debtAt_2 ?_
  obtain ⟨g1, h⟩ := h
  obtain ⟨g2, h⟩ := h
  refine wz_icmp_le C (tgt := 17) g1 g2 dX4_debtAt_5 (by decide) (fun c => ?_) (fun c => ?_)
  · replace h := h.1 c
    refine wz_iconst C dX4_debtAt_17 ?_
    exact wz_iret C dX4_debtAt_18 ⟨_, rfl, h⟩
  · replace h := h.2 c
    refine wz_iload_n C rfl rfl dX4_debtAt_8 ?_
    refine wz_aload_n C rfl rfl dX4_debtAt_9 ?_
    refine wz_getI C rfl f_X4_debtAt_49 rfl dX4_debtAt_10 ?_
    refine wz_isub C dX4_debtAt_13 ?_
    refine wz_goto C dX4_debtAt_14 (tgt := 18) (by decide) ?_
    exact wz_iret C dX4_debtAt_18 ⟨_, rfl, h⟩
theorem in_X4_isTooMuch_X4 : ∀ w ∈ wsX40, w ∈ wsX4_isTooMuch := by decide +kernel
theorem f_X4_isTooMuch_54 : FLk wsX4_isTooMuch RX4 54 4 3 := flk 4 3 rfl tyX4_ok nmX4 in_X4_isTooMuch_X4 (by decide) (by decide +kernel)
theorem f_X4_isTooMuch_62 : FLk wsX4_isTooMuch RX4 62 4 4 := flk 4 4 rfl tyX4_ok nmX4 in_X4_isTooMuch_X4 (by decide) (by decide +kernel)
def rm_X4_isTooMuch : Room := { frames := 0, cells := 0, slots := 0, locals := 0 }
set_option maxHeartbeats 4000000 in
set_option maxRecDepth 100000 in
theorem k_X4_isTooMuch (G : KG) (hG : Kok G) (l1 : Int) (I : Ii) (J : Jj) (Q : Int → Ii → Jj → Prop) (h : wp_X4_isTooMuch l1 I J Q) : Ctr G yX4_isTooMuch wsX4_isTooMuch rm_X4_isTooMuch [.ref (kadr G 113), .int (iZ l1)] (I, J) (QsB Q) := by
  unfold wp_X4_isTooMuch at h
  skip
  refine Ctr.ofZ (cc := cX4_isTooMuch) (nL := 2) (ret := (some .boolean)) [some (.ref (kadr G 113)), some (.int (iZ l1))] hG (by decide +kernel) rfl (Nat.le_of_ble_eq_true rfl) (Nat.le_of_ble_eq_true rfl) (by simp [lvA, lv_args, Value.category]) ?_
  intro X hX C
  refine wz_iload_n C rfl rfl dX4_isTooMuch_0 ?_
  refine wz_aload_n C rfl rfl dX4_isTooMuch_1 ?_
  refine wz_getI C rfl f_X4_isTooMuch_54 rfl dX4_isTooMuch_2 ?_
  obtain ⟨g1, h⟩ := h
  obtain ⟨g2, h⟩ := h
  refine wz_icmp_le C (tgt := 20) g1 g2 dX4_isTooMuch_5 (by decide) (fun c => ?_) (fun c => ?_)
  · replace h := h.1 c
    refine wz_iconst C dX4_isTooMuch_20 ?_
    exact wz_zret C (Or.inl rfl) dX4_isTooMuch_21 ⟨_, rfl, (Or.inl rfl), h⟩
  · replace h := h.2 c
    refine wz_iload_n C rfl rfl dX4_isTooMuch_8 ?_
    refine wz_aload_n C rfl rfl dX4_isTooMuch_9 ?_
    refine wz_getI C rfl f_X4_isTooMuch_62 rfl dX4_isTooMuch_10 ?_
    obtain ⟨g3, h⟩ := h
    refine wz_icmp_le C (tgt := 20) g1 g3 dX4_isTooMuch_13 (by decide) (fun c => ?_) (fun c => ?_)
    · replace h := h.1 c
      refine wz_iconst C dX4_isTooMuch_20 ?_
      exact wz_zret C (Or.inl rfl) dX4_isTooMuch_21 ⟨_, rfl, (Or.inl rfl), h⟩
    · replace h := h.2 c
      refine wz_iconst C dX4_isTooMuch_16 ?_
      refine wz_goto C dX4_isTooMuch_17 (tgt := 21) (by decide) ?_
      exact wz_zret C (Or.inr rfl) dX4_isTooMuch_21 ⟨_, rfl, (Or.inr rfl), h⟩
theorem in_X6_clear_X6 : ∀ w ∈ wsX60, w ∈ wsX6_clear := by decide +kernel
theorem f_X6_clear_24 : FLk wsX6_clear RX6 24 6 4 := flk 6 4 rfl tyX6_ok nmX6 in_X6_clear_X6 (by decide) (by decide +kernel)
theorem fp_X6_4 : FPk 6 4 .int := fun C9 T9 N9 h => by
  have h : some (RX6, TX6, 6) = some (C9, T9, N9) := h
  cases h
  exact ⟨rfl, by decide +kernel⟩
theorem f_X6_clear_28 : FLk wsX6_clear RX6 28 6 5 := flk 6 5 rfl tyX6_ok nmX6 in_X6_clear_X6 (by decide) (by decide +kernel)
theorem fp_X6_5 : FPk 6 5 .int := fun C9 T9 N9 h => by
  have h : some (RX6, TX6, 6) = some (C9, T9, N9) := h
  cases h
  exact ⟨rfl, by decide +kernel⟩
def rm_X6_clear : Room := { frames := 0, cells := 0, slots := 0, locals := 0 }
set_option maxHeartbeats 4000000 in
set_option maxRecDepth 100000 in
theorem k_X6_clear (G : KG) (hG : Kok G) (I : Ii) (J : Jj) (Q : Ii → Jj → Prop) (h : wp_X6_clear I J Q) : Ctr G yX6_clear wsX6_clear rm_X6_clear [.ref (kadr G 106)] (I, J) (QsV Q) := by
  unfold wp_X6_clear at h
  skip
  refine Ctr.ofZ (cc := cX6_clear) (nL := 1) (ret := none) [some (.ref (kadr G 106))] hG (by decide +kernel) rfl (Nat.le_of_ble_eq_true rfl) (Nat.le_of_ble_eq_true rfl) (by simp [lvA, lv_args, Value.category]) ?_
  intro X hX C
  refine wz_aload_n C rfl rfl dX6_clear_0 ?_
  refine wz_iconst C dX6_clear_1 ?_
  refine wd_putI C f_X6_clear_24 fp_X6_4 rfl dX6_clear_2 (fun I1 e => ?_)
  replace h := h I1 e
  refine wz_aload_n C rfl rfl dX6_clear_5 ?_
  refine wz_iconst C dX6_clear_6 ?_
  refine wd_putI C f_X6_clear_28 fp_X6_5 rfl dX6_clear_7 (fun I2 e => ?_)
  replace h := h I2 e
  exact wz_vret C dX6_clear_10 ⟨rfl, h⟩
theorem in_X8_groupRow_X8 : ∀ w ∈ wsX80, w ∈ wsX8_groupRow := by decide +kernel
theorem f_X8_groupRow_24 : FLk wsX8_groupRow RX8 24 8 0 := flk 8 0 rfl tyX8_ok nmX8 in_X8_groupRow_X8 (by decide) (by decide +kernel)
def rm_X8_groupRow : Room := { frames := 0, cells := 0, slots := 0, locals := 0 }
set_option maxHeartbeats 4000000 in
set_option maxRecDepth 100000 in
theorem k_X8_groupRow (G : KG) (hG : Kok G) (k0 : Nat) (I : Ii) (J : Jj) (Q : Int → Ii → Jj → Prop) (h : wp_X8_groupRow k0 I J Q) : Ctr G yX8_groupRow wsX8_groupRow rm_X8_groupRow [.ref (kadr G k0)] (I, J) (QsI Q) := by
  unfold wp_X8_groupRow at h
  obtain ⟨hk0, h⟩ := h
  refine Ctr.ofZ (cc := cX8_groupRow) (nL := 1) (ret := (some .int)) [some (.ref (kadr G k0))] hG (by decide +kernel) rfl (Nat.le_of_ble_eq_true rfl) (Nat.le_of_ble_eq_true rfl) (by simp [lvA, lv_args, Value.category]) ?_
  intro X hX C
  refine wz_aload_n C rfl rfl dX8_groupRow_0 ?_
  refine wz_getI C rfl f_X8_groupRow_24 (soX8_0 hk0) dX8_groupRow_1 ?_
  refine wz_bipush C (by decide) dX8_groupRow_4 ?_
  refine wz_imul C dX8_groupRow_6 ?_
  exact wz_iret C dX8_groupRow_7 ⟨_, rfl, h⟩
theorem in_X10_begin_X10 : ∀ w ∈ wsX100, w ∈ wsX10_begin := by decide +kernel
theorem f_X10_begin_22 : FLk wsX10_begin RX10 22 10 1 := flk 10 1 rfl tyX10_ok nmX10 in_X10_begin_X10 (by decide) (by decide +kernel)
theorem f_X10_begin_29 : FLk wsX10_begin RX10 29 10 2 := flk 10 2 rfl tyX10_ok nmX10 in_X10_begin_X10 (by decide) (by decide +kernel)
theorem fp_X10_2 : FPk 10 2 .int := fun C9 T9 N9 h => by
  have h : some (RX10, TX10, 12) = some (C9, T9, N9) := h
  cases h
  exact ⟨rfl, by decide +kernel⟩
theorem fp_X10_1 : FPk 10 1 .int := fun C9 T9 N9 h => by
  have h : some (RX10, TX10, 12) = some (C9, T9, N9) := h
  cases h
  exact ⟨rfl, by decide +kernel⟩
theorem f_X10_begin_32 : FLk wsX10_begin RX10 32 10 3 := flk 10 3 rfl tyX10_ok nmX10 in_X10_begin_X10 (by decide) (by decide +kernel)
theorem fp_X10_3 : FPk 10 3 .int := fun C9 T9 N9 h => by
  have h : some (RX10, TX10, 12) = some (C9, T9, N9) := h
  cases h
  exact ⟨rfl, by decide +kernel⟩
theorem f_X10_begin_35 : FLk wsX10_begin RX10 35 10 4 := flk 10 4 rfl tyX10_ok nmX10 in_X10_begin_X10 (by decide) (by decide +kernel)
theorem fp_X10_4 : FPk 10 4 .int := fun C9 T9 N9 h => by
  have h : some (RX10, TX10, 12) = some (C9, T9, N9) := h
  cases h
  exact ⟨rfl, by decide +kernel⟩
theorem f_X10_begin_38 : FLk wsX10_begin RX10 38 10 5 := flk 10 5 rfl tyX10_ok nmX10 in_X10_begin_X10 (by decide) (by decide +kernel)
theorem fp_X10_5 : FPk 10 5 .int := fun C9 T9 N9 h => by
  have h : some (RX10, TX10, 12) = some (C9, T9, N9) := h
  cases h
  exact ⟨rfl, by decide +kernel⟩
theorem f_X10_begin_41 : FLk wsX10_begin RX10 41 10 8 := flk 10 8 rfl tyX10_ok nmX10 in_X10_begin_X10 (by decide) (by decide +kernel)
theorem fp_X10_8 : FPk 10 8 .int := fun C9 T9 N9 h => by
  have h : some (RX10, TX10, 12) = some (C9, T9, N9) := h
  cases h
  exact ⟨rfl, by decide +kernel⟩
theorem f_X10_begin_44 : FLk wsX10_begin RX10 44 10 9 := flk 10 9 rfl tyX10_ok nmX10 in_X10_begin_X10 (by decide) (by decide +kernel)
theorem fp_X10_9 : FPk 10 9 .int := fun C9 T9 N9 h => by
  have h : some (RX10, TX10, 12) = some (C9, T9, N9) := h
  cases h
  exact ⟨rfl, by decide +kernel⟩
theorem f_X10_begin_15 : FLk wsX10_begin RX10 15 10 10 := flk 10 10 rfl tyX10_ok nmX10 in_X10_begin_X10 (by decide) (by decide +kernel)
theorem fp_X10_10 : FPk 10 10 .int := fun C9 T9 N9 h => by
  have h : some (RX10, TX10, 12) = some (C9, T9, N9) := h
  cases h
  exact ⟨rfl, by decide +kernel⟩
theorem f_X10_begin_19 : FLk wsX10_begin RX10 19 10 11 := flk 10 11 rfl tyX10_ok nmX10 in_X10_begin_X10 (by decide) (by decide +kernel)
theorem fp_X10_11 : FPk 10 11 .int := fun C9 T9 N9 h => by
  have h : some (RX10, TX10, 12) = some (C9, T9, N9) := h
  cases h
  exact ⟨rfl, by decide +kernel⟩
def rm_X10_begin : Room := { frames := 0, cells := 0, slots := 0, locals := 0 }
set_option maxHeartbeats 4000000 in
set_option maxRecDepth 100000 in
theorem k_X10_begin (G : KG) (hG : Kok G) (I : Ii) (J : Jj) (Q : Ii → Jj → Prop) (h : wp_X10_begin I J Q) : Ctr G yX10_begin wsX10_begin rm_X10_begin [.ref (kadr G 101)] (I, J) (QsV Q) := by
  unfold wp_X10_begin at h
  skip
  refine Ctr.ofZ (cc := cX10_begin) (nL := 1) (ret := none) [some (.ref (kadr G 101))] hG (by decide +kernel) rfl (Nat.le_of_ble_eq_true rfl) (Nat.le_of_ble_eq_true rfl) (by simp [lvA, lv_args, Value.category]) ?_
  intro X hX C
  refine wz_aload_n C rfl rfl dX10_begin_0 ?_
  refine wz_aload_n C rfl rfl dX10_begin_1 ?_
  refine wz_getI C rfl f_X10_begin_22 rfl dX10_begin_2 ?_
  refine wd_putI C f_X10_begin_29 fp_X10_2 rfl dX10_begin_5 (fun I1 e => ?_)
  replace h := h I1 e
  refine wz_aload_n C rfl rfl dX10_begin_8 ?_
  refine wz_iconst C dX10_begin_9 ?_
  refine wd_putI C f_X10_begin_22 fp_X10_1 rfl dX10_begin_10 (fun I2 e => ?_)
  replace h := h I2 e
  refine wz_aload_n C rfl rfl dX10_begin_13 ?_
  refine wz_iconst C dX10_begin_14 ?_
  refine wd_putI C f_X10_begin_32 fp_X10_3 rfl dX10_begin_15 (fun I3 e => ?_)
  replace h := h I3 e
  refine wz_aload_n C rfl rfl dX10_begin_18 ?_
  refine wz_iconst C dX10_begin_19 ?_
  refine wd_putI C f_X10_begin_35 fp_X10_4 rfl dX10_begin_20 (fun I4 e => ?_)
  replace h := h I4 e
  refine wz_aload_n C rfl rfl dX10_begin_23 ?_
  refine wz_iconst C dX10_begin_24 ?_
  refine wd_putI C f_X10_begin_38 fp_X10_5 rfl dX10_begin_25 (fun I5 e => ?_)
  replace h := h I5 e
  refine wz_aload_n C rfl rfl dX10_begin_28 ?_
  refine wz_iconst C dX10_begin_29 ?_
  refine wd_putI C f_X10_begin_41 fp_X10_8 rfl dX10_begin_30 (fun I6 e => ?_)
  replace h := h I6 e
  refine wz_aload_n C rfl rfl dX10_begin_33 ?_
  refine wz_iconst C dX10_begin_34 ?_
  refine wd_putI C f_X10_begin_44 fp_X10_9 rfl dX10_begin_35 (fun I7 e => ?_)
  replace h := h I7 e
  refine wz_aload_n C rfl rfl dX10_begin_38 ?_
  refine wz_iconst C dX10_begin_39 ?_
  refine wd_putI C f_X10_begin_15 fp_X10_10 rfl dX10_begin_40 (fun I8 e => ?_)
  replace h := h I8 e
  refine wz_aload_n C rfl rfl dX10_begin_43 ?_
  refine wz_iconst C dX10_begin_44 ?_
  refine wd_putI C f_X10_begin_19 fp_X10_11 rfl dX10_begin_45 (fun I9 e => ?_)
  replace h := h I9 e
  exact wz_vret C dX10_begin_48 ⟨rfl, h⟩
def rm_X10_signKind : Room := { frames := 0, cells := 0, slots := 0, locals := 0 }
set_option maxHeartbeats 4000000 in
set_option maxRecDepth 100000 in
theorem k_X10_signKind (G : KG) (hG : Kok G) (l0 : Int) (I : Ii) (J : Jj) (Q : Int → Ii → Jj → Prop) (h : wp_X10_signKind l0 I J Q) : Ctr G yX10_signKind wsX10_signKind rm_X10_signKind [.int (iZ l0)] (I, J) (QsI Q) := by
  unfold wp_X10_signKind at h
  skip
  refine Ctr.ofZ (cc := cX10_signKind) (nL := 1) (ret := (some .int)) [some (.int (iZ l0))] hG (by decide +kernel) rfl (Nat.le_of_ble_eq_true rfl) (Nat.le_of_ble_eq_true rfl) (by simp [lvA, lv_args, Value.category]) ?_
  intro X hX C
  refine wz_iload_n C rfl rfl dX10_signKind_0 ?_
  obtain ⟨g1, h⟩ := h
  have c : (¬ l0 = 40 ∧ ¬ l0 = 41 ∧ ¬ l0 = 59) ∨ l0 = 40 ∨ l0 = 41 ∨ l0 = 59 := by omega
  rcases c with c | c | c | c
  · replace h := h.1 c
    refine wd_lookupOut C (off := 41) (tgt := 42) g1 dX10_signKind_1 (by decide +kernel) (by simp [Op.lookupswitch.offset]; rw [if_neg (by omega), if_neg (by omega), if_neg (by omega)]) (by decide) ?_
    refine wz_bipush C (by decide) dX10_signKind_42 ?_
    exact wz_iret C dX10_signKind_44 ⟨_, rfl, h⟩
  · replace h := h.2.1 c
    refine wd_lookupIn C (v := 40) (off := 37) (tgt := 38) c dX10_signKind_1 (by decide +kernel) (by decide) (by decide +kernel) (by decide) ?_
    refine wz_iconst C dX10_signKind_38 ?_
    exact wz_iret C dX10_signKind_39 ⟨_, rfl, h⟩
  · replace h := h.2.2.1 c
    refine wd_lookupIn C (v := 41) (off := 39) (tgt := 40) c dX10_signKind_1 (by decide +kernel) (by decide) (by decide +kernel) (by decide) ?_
    refine wz_iconst C dX10_signKind_40 ?_
    exact wz_iret C dX10_signKind_41 ⟨_, rfl, h⟩
  · replace h := h.2.2.2 c
    refine wd_lookupIn C (v := 59) (off := 35) (tgt := 36) c dX10_signKind_1 (by decide +kernel) (by decide) (by decide +kernel) (by decide) ?_
    refine wz_iconst C dX10_signKind_36 ?_
    exact wz_iret C dX10_signKind_37 ⟨_, rfl, h⟩
def rm_X10_isBlank : Room := { frames := 0, cells := 0, slots := 0, locals := 0 }
set_option maxHeartbeats 4000000 in
set_option maxRecDepth 100000 in
theorem k_X10_isBlank (G : KG) (hG : Kok G) (l0 : Int) (I : Ii) (J : Jj) (Q : Int → Ii → Jj → Prop) (h : wp_X10_isBlank l0 I J Q) : Ctr G yX10_isBlank wsX10_isBlank rm_X10_isBlank [.int (iZ l0)] (I, J) (QsB Q) := by
  unfold wp_X10_isBlank at h
  skip
  refine Ctr.ofZ (cc := cX10_isBlank) (nL := 1) (ret := (some .boolean)) [some (.int (iZ l0))] hG (by decide +kernel) rfl (Nat.le_of_ble_eq_true rfl) (Nat.le_of_ble_eq_true rfl) (by simp [lvA, lv_args, Value.category]) ?_
  intro X hX C
  refine wz_iload_n C rfl rfl dX10_isBlank_0 ?_
  refine wz_bipush C (by decide) dX10_isBlank_1 ?_
  obtain ⟨g1, h⟩ := h
  refine wz_icmp_eq C (tgt := 12) g1 (by decide) dX10_isBlank_3 (by decide) (fun c => ?_) (fun c => ?_)
  · replace h := h.1 c
    refine wz_iconst C dX10_isBlank_12 ?_
    refine wz_goto C dX10_isBlank_13 (tgt := 17) (by decide) ?_
    exact wz_zret C (Or.inr rfl) dX10_isBlank_17 ⟨_, rfl, (Or.inr rfl), h⟩
  · replace h := h.2 c
    refine wz_iload_n C rfl rfl dX10_isBlank_6 ?_
    refine wz_bipush C (by decide) dX10_isBlank_7 ?_
    refine wz_icmp_ne C (tgt := 16) g1 (by decide) dX10_isBlank_9 (by decide) (fun c => ?_) (fun c => ?_)
    · replace h := h.1 c
      refine wz_iconst C dX10_isBlank_16 ?_
      exact wz_zret C (Or.inl rfl) dX10_isBlank_17 ⟨_, rfl, (Or.inl rfl), h⟩
    · replace h := h.2 c
      refine wz_iconst C dX10_isBlank_12 ?_
      refine wz_goto C dX10_isBlank_13 (tgt := 17) (by decide) ?_
      exact wz_zret C (Or.inr rfl) dX10_isBlank_17 ⟨_, rfl, (Or.inr rfl), h⟩
def rm_X10_isLetter : Room := { frames := 0, cells := 0, slots := 0, locals := 0 }
set_option maxHeartbeats 4000000 in
set_option maxRecDepth 100000 in
theorem k_X10_isLetter (G : KG) (hG : Kok G) (l0 : Int) (I : Ii) (J : Jj) (Q : Int → Ii → Jj → Prop) (h : wp_X10_isLetter l0 I J Q) : Ctr G yX10_isLetter wsX10_isLetter rm_X10_isLetter [.int (iZ l0)] (I, J) (QsB Q) := by
  unfold wp_X10_isLetter at h
  skip
  refine Ctr.ofZ (cc := cX10_isLetter) (nL := 1) (ret := (some .boolean)) [some (.int (iZ l0))] hG (by decide +kernel) rfl (Nat.le_of_ble_eq_true rfl) (Nat.le_of_ble_eq_true rfl) (by simp [lvA, lv_args, Value.category]) ?_
  intro X hX C
  refine wz_iload_n C rfl rfl dX10_isLetter_0 ?_
  refine wz_bipush C (by decide) dX10_isLetter_1 ?_
  obtain ⟨g1, h⟩ := h
  refine wz_icmp_lt C (tgt := 16) g1 (by decide) dX10_isLetter_3 (by decide) (fun c => ?_) (fun c => ?_)
  · replace h := h.1 c
    refine wz_iconst C dX10_isLetter_16 ?_
    exact wz_zret C (Or.inl rfl) dX10_isLetter_17 ⟨_, rfl, (Or.inl rfl), h⟩
  · replace h := h.2 c
    refine wz_iload_n C rfl rfl dX10_isLetter_6 ?_
    refine wz_bipush C (by decide) dX10_isLetter_7 ?_
    refine wz_icmp_gt C (tgt := 16) g1 (by decide) dX10_isLetter_9 (by decide) (fun c => ?_) (fun c => ?_)
    · replace h := h.1 c
      refine wz_iconst C dX10_isLetter_16 ?_
      exact wz_zret C (Or.inl rfl) dX10_isLetter_17 ⟨_, rfl, (Or.inl rfl), h⟩
    · replace h := h.2 c
      refine wz_iconst C dX10_isLetter_12 ?_
      refine wz_goto C dX10_isLetter_13 (tgt := 17) (by decide) ?_
      exact wz_zret C (Or.inr rfl) dX10_isLetter_17 ⟨_, rfl, (Or.inr rfl), h⟩
def rm_X10_isDigit : Room := { frames := 0, cells := 0, slots := 0, locals := 0 }
set_option maxHeartbeats 4000000 in
set_option maxRecDepth 100000 in
theorem k_X10_isDigit (G : KG) (hG : Kok G) (l0 : Int) (I : Ii) (J : Jj) (Q : Int → Ii → Jj → Prop) (h : wp_X10_isDigit l0 I J Q) : Ctr G yX10_isDigit wsX10_isDigit rm_X10_isDigit [.int (iZ l0)] (I, J) (QsB Q) := by
  unfold wp_X10_isDigit at h
  skip
  refine Ctr.ofZ (cc := cX10_isDigit) (nL := 1) (ret := (some .boolean)) [some (.int (iZ l0))] hG (by decide +kernel) rfl (Nat.le_of_ble_eq_true rfl) (Nat.le_of_ble_eq_true rfl) (by simp [lvA, lv_args, Value.category]) ?_
  intro X hX C
  refine wz_iload_n C rfl rfl dX10_isDigit_0 ?_
  refine wz_bipush C (by decide) dX10_isDigit_1 ?_
  obtain ⟨g1, h⟩ := h
  refine wz_icmp_lt C (tgt := 16) g1 (by decide) dX10_isDigit_3 (by decide) (fun c => ?_) (fun c => ?_)
  · replace h := h.1 c
    refine wz_iconst C dX10_isDigit_16 ?_
    exact wz_zret C (Or.inl rfl) dX10_isDigit_17 ⟨_, rfl, (Or.inl rfl), h⟩
  · replace h := h.2 c
    refine wz_iload_n C rfl rfl dX10_isDigit_6 ?_
    refine wz_bipush C (by decide) dX10_isDigit_7 ?_
    refine wz_icmp_gt C (tgt := 16) g1 (by decide) dX10_isDigit_9 (by decide) (fun c => ?_) (fun c => ?_)
    · replace h := h.1 c
      refine wz_iconst C dX10_isDigit_16 ?_
      exact wz_zret C (Or.inl rfl) dX10_isDigit_17 ⟨_, rfl, (Or.inl rfl), h⟩
    · replace h := h.2 c
      refine wz_iconst C dX10_isDigit_12 ?_
      refine wz_goto C dX10_isDigit_13 (tgt := 17) (by decide) ?_
      exact wz_zret C (Or.inr rfl) dX10_isDigit_17 ⟨_, rfl, (Or.inr rfl), h⟩
def rm_X10_withLetter : Room := { frames := 0, cells := 0, slots := 0, locals := 0 }
set_option maxHeartbeats 4000000 in
set_option maxRecDepth 100000 in
theorem k_X10_withLetter (G : KG) (hG : Kok G) (l0 : Int64) (l2 : Int) (I : Ii) (J : Jj) (Q : Int64 → Ii → Jj → Prop) (h : wp_X10_withLetter l0 l2 I J Q) : Ctr G yX10_withLetter wsX10_withLetter rm_X10_withLetter [.long l0, .int (iZ l2)] (I, J) (QsJ Q) := by
  unfold wp_X10_withLetter at h
  skip
  refine Ctr.ofZ (cc := cX10_withLetter) (nL := 3) (ret := (some .long)) [some (.long l0), none, some (.int (iZ l2))] hG (by decide +kernel) rfl (Nat.le_of_ble_eq_true rfl) (Nat.le_of_ble_eq_true rfl) (by simp [lvA, lv_args, Value.category]) ?_
  intro X hX C
  refine wz_lload_n C rfl rfl dX10_withLetter_0 ?_
  refine wz_iconst C dX10_withLetter_1 ?_
  refine wd_lshl C dX10_withLetter_2 ?_
  refine wz_iload_n C rfl rfl dX10_withLetter_3 ?_
  refine wz_bipush C (by decide) dX10_withLetter_4 ?_
  refine wz_isub C dX10_withLetter_6 ?_
  refine wd_i2l C dX10_withLetter_7 ?_
  refine wz_lor C rfl dX10_withLetter_8 ?_
  exact wz_lret C dX10_withLetter_9 ⟨_, rfl, h⟩
def rm_X10_letterAt : Room := { frames := 0, cells := 0, slots := 0, locals := 0 }
set_option maxHeartbeats 4000000 in
set_option maxRecDepth 100000 in
theorem k_X10_letterAt (G : KG) (hG : Kok G) (l0 : Int64) (l2 : Int) (I : Ii) (J : Jj) (Q : Int → Ii → Jj → Prop) (h : wp_X10_letterAt l0 l2 I J Q) : Ctr G yX10_letterAt wsX10_letterAt rm_X10_letterAt [.long l0, .int (iZ l2)] (I, J) (QsI Q) := by
  unfold wp_X10_letterAt at h
  skip
  refine Ctr.ofZ (cc := cX10_letterAt) (nL := 4) (ret := (some .int)) [some (.long l0), none, some (.int (iZ l2)), none] hG (by decide +kernel) rfl (Nat.le_of_ble_eq_true rfl) (Nat.le_of_ble_eq_true rfl) (by simp [lvA, lv_args, Value.category]) ?_
  intro X hX C
  refine wz_lload_n C rfl rfl dX10_letterAt_0 ?_
  refine wz_iload_n C rfl rfl dX10_letterAt_1 ?_
  refine wz_iconst C dX10_letterAt_2 ?_
  refine wz_imul C dX10_letterAt_3 ?_
  refine wd_lushr C dX10_letterAt_4 ?_
  refine wz_ldc2_w C (v := lZ 31) (by decide +kernel) dX10_letterAt_5 ?_
  refine wz_land C rfl dX10_letterAt_8 ?_
  refine wd_l2i C dX10_letterAt_9 ?_
  refine wz_istore_3 C rfl dX10_letterAt_10 ?_
  refine wz_iload_n C rfl rfl dX10_letterAt_11 ?_
  refine wz_if_ne C (tgt := 19) (toInt_rg _) dX10_letterAt_12 (by decide) (fun c => ?_) (fun c => ?_)
  · replace h := h.1 c
    refine wz_iload_n C rfl rfl dX10_letterAt_19 ?_
    refine wz_bipush C (by decide) dX10_letterAt_20 ?_
    refine wz_iadd C dX10_letterAt_22 ?_
    exact wz_iret C dX10_letterAt_23 ⟨_, rfl, h⟩
  · replace h := h.2 c
    refine wz_iconst C dX10_letterAt_15 ?_
    refine wz_goto C dX10_letterAt_16 (tgt := 23) (by decide) ?_
    exact wz_iret C dX10_letterAt_23 ⟨_, rfl, h⟩
theorem in_X10_fail_X10 : ∀ w ∈ wsX100, w ∈ wsX10_fail := by decide +kernel
theorem f_X10_fail_44 : FLk wsX10_fail RX10 44 10 9 := flk 10 9 rfl tyX10_ok nmX10 in_X10_fail_X10 (by decide) (by decide +kernel)
theorem f_X10_fail_32 : FLk wsX10_fail RX10 32 10 3 := flk 10 3 rfl tyX10_ok nmX10 in_X10_fail_X10 (by decide) (by decide +kernel)
theorem f_X10_fail_15 : FLk wsX10_fail RX10 15 10 10 := flk 10 10 rfl tyX10_ok nmX10 in_X10_fail_X10 (by decide) (by decide +kernel)
theorem f_X10_fail_41 : FLk wsX10_fail RX10 41 10 8 := flk 10 8 rfl tyX10_ok nmX10 in_X10_fail_X10 (by decide) (by decide +kernel)
theorem f_X10_fail_19 : FLk wsX10_fail RX10 19 10 11 := flk 10 11 rfl tyX10_ok nmX10 in_X10_fail_X10 (by decide) (by decide +kernel)
def rm_X10_fail : Room := { frames := 0, cells := 0, slots := 0, locals := 0 }
set_option maxHeartbeats 4000000 in
set_option maxRecDepth 100000 in
theorem k_X10_fail (G : KG) (hG : Kok G) (l1 : Int) (I : Ii) (J : Jj) (Q : Int → Ii → Jj → Prop) (h : wp_X10_fail l1 I J Q) : Ctr G yX10_fail wsX10_fail rm_X10_fail [.ref (kadr G 101), .int (iZ l1)] (I, J) (QsB Q) := by
  unfold wp_X10_fail at h
  skip
  refine Ctr.ofZ (cc := cX10_fail) (nL := 2) (ret := (some .boolean)) [some (.ref (kadr G 101)), some (.int (iZ l1))] hG (by decide +kernel) rfl (Nat.le_of_ble_eq_true rfl) (Nat.le_of_ble_eq_true rfl) (by simp [lvA, lv_args, Value.category]) ?_
  intro X hX C
  refine wz_aload_n C rfl rfl dX10_fail_0 ?_
  refine wz_iload_n C rfl rfl dX10_fail_1 ?_
  refine wd_putI C f_X10_fail_44 fp_X10_9 rfl dX10_fail_2 (fun I1 e => ?_)
  replace h := h I1 e
  refine wz_aload_n C rfl rfl dX10_fail_5 ?_
  refine wz_aload_n C rfl rfl dX10_fail_6 ?_
  refine wz_getI C rfl f_X10_fail_32 rfl dX10_fail_7 ?_
  refine wd_putI C f_X10_fail_15 fp_X10_10 rfl dX10_fail_10 (fun I2 e => ?_)
  replace h := h I2 e
  refine wz_aload_n C rfl rfl dX10_fail_13 ?_
  refine wz_aload_n C rfl rfl dX10_fail_14 ?_
  refine wz_getI C rfl f_X10_fail_41 rfl dX10_fail_15 ?_
  refine wd_putI C f_X10_fail_19 fp_X10_11 rfl dX10_fail_18 (fun I3 e => ?_)
  replace h := h I3 e
  refine wz_iconst C dX10_fail_21 ?_
  exact wz_zret C (Or.inl rfl) dX10_fail_22 ⟨_, rfl, (Or.inl rfl), h⟩
theorem in_X11_truncate_X10 : ∀ w ∈ wsX100, w ∈ wsX11_truncate := by decide +kernel
theorem in_X11_truncate_X11 : ∀ w ∈ wsX110, w ∈ wsX11_truncate := by decide +kernel
theorem f_X11_truncate_12 : FLk wsX11_truncate RX11 12 11 0 := flk 11 0 rfl tyX11_ok nmX11 in_X11_truncate_X11 (by decide) (by decide +kernel)
theorem f_X11_truncate_102 : FLk wsX11_truncate RX11 102 10 1 := flk 10 1 rfl tyX10_ok nmX10 in_X11_truncate_X10 (by decide) (by decide +kernel)
def rm_X11_truncate : Room := { frames := 0, cells := 0, slots := 0, locals := 0 }
set_option maxHeartbeats 4000000 in
set_option maxRecDepth 100000 in
theorem bk_X11_truncate_15 (G : KG) (hG : Kok G) (X : KX) (hX : KR X = rm_X11_truncate) (C : Fr G X cX11_truncate 2 yX11_truncate.cls (some .int) wsX11_truncate) (l1 : Int) (Q : Int → Ii → Jj → Prop)  (I : Ii) (J : Jj) (h : B_X11_truncate_15 l1 Q  I J) : Wz G X 2 (QsU G X (QsI Q)) 0 0 15 [none, none] [] I J := by
  unfold B_X11_truncate_15 at h
  exact False.elim h
set_option maxHeartbeats 4000000 in
set_option maxRecDepth 100000 in
theorem k_X11_truncate (G : KG) (hG : Kok G) (l1 : Int) (I : Ii) (J : Jj) (Q : Int → Ii → Jj → Prop) (h : wp_X11_truncate l1 I J Q) : Ctr G yX11_truncate wsX11_truncate rm_X11_truncate [.ref (kadr G 100), .int (iZ l1)] (I, J) (QsI Q) := by
  unfold wp_X11_truncate at h
  skip
  refine Ctr.ofZ (cc := cX11_truncate) (nL := 2) (ret := (some .int)) [some (.ref (kadr G 100)), some (.int (iZ l1))] hG (by decide +kernel) rfl (Nat.le_of_ble_eq_true rfl) (Nat.le_of_ble_eq_true rfl) (by simp [lvA, lv_args, Value.category]) ?_
  intro X hX C
  refine wz_iload_n C rfl rfl dX11_truncate_0 ?_
  obtain ⟨g1, h⟩ := h
  refine wz_if_lt C (tgt := 15) g1 dX11_truncate_1 (by decide) (fun c => ?_) (fun c => ?_)
  · replace h := h.1 c
    exact Wz.drop (bk_X11_truncate_15 G hG X hX C l1 Q I J h) trivial
  · replace h := h.2 c
    refine wz_iload_n C rfl rfl dX11_truncate_4 ?_
    refine wz_aload_n C rfl rfl dX11_truncate_5 ?_
    refine wz_getR C (j := 101) f_X11_truncate_12 rfl dX11_truncate_6 ?_
    refine wz_getI C rfl f_X11_truncate_102 rfl dX11_truncate_9 ?_
    obtain ⟨g2, h⟩ := h
    refine wz_icmp_le C (tgt := 25) g1 g2 dX11_truncate_12 (by decide) (fun c => ?_) (fun c => ?_)
    · replace h := h.1 c
      refine wz_aload_n C rfl rfl dX11_truncate_25 ?_
      refine wz_getR C (j := 101) f_X11_truncate_12 rfl dX11_truncate_26 ?_
      refine wz_iload_n C rfl rfl dX11_truncate_29 ?_
      refine wd_putI C f_X11_truncate_102 fp_X10_1 rfl dX11_truncate_30 (fun I3 e => ?_)
      replace h := h I3 e
      refine wz_iload_n C rfl rfl dX11_truncate_33 ?_
      exact wz_iret C dX11_truncate_34 ⟨_, rfl, h⟩
    · replace h := h.2 c
      exact Wz.drop (bk_X11_truncate_15 G hG X hX C l1 Q I J h) trivial
theorem in_X11_error_X10 : ∀ w ∈ wsX100, w ∈ wsX11_error := by decide +kernel
theorem in_X11_error_X11 : ∀ w ∈ wsX110, w ∈ wsX11_error := by decide +kernel
theorem f_X11_error_12 : FLk wsX11_error RX11 12 11 0 := flk 11 0 rfl tyX11_ok nmX11 in_X11_error_X11 (by decide) (by decide +kernel)
theorem f_X11_error_248 : FLk wsX11_error RX11 248 10 9 := flk 10 9 rfl tyX10_ok nmX10 in_X11_error_X10 (by decide) (by decide +kernel)
theorem f_X11_error_251 : FLk wsX11_error RX11 251 10 10 := flk 10 10 rfl tyX10_ok nmX10 in_X11_error_X10 (by decide) (by decide +kernel)
theorem f_X11_error_254 : FLk wsX11_error RX11 254 10 11 := flk 10 11 rfl tyX10_ok nmX10 in_X11_error_X10 (by decide) (by decide +kernel)
def rm_X11_error : Room := { frames := 0, cells := 0, slots := 0, locals := 0 }
set_option maxHeartbeats 4000000 in
set_option maxRecDepth 100000 in
theorem k_X11_error (G : KG) (hG : Kok G) (l1 : Int) (I : Ii) (J : Jj) (Q : Int → Ii → Jj → Prop) (h : wp_X11_error l1 I J Q) : Ctr G yX11_error wsX11_error rm_X11_error [.ref (kadr G 100), .int (iZ l1)] (I, J) (QsI Q) := by
  unfold wp_X11_error at h
  skip
  refine Ctr.ofZ (cc := cX11_error) (nL := 2) (ret := (some .int)) [some (.ref (kadr G 100)), some (.int (iZ l1))] hG (by decide +kernel) rfl (Nat.le_of_ble_eq_true rfl) (Nat.le_of_ble_eq_true rfl) (by simp [lvA, lv_args, Value.category]) ?_
  intro X hX C
  refine wz_iload_n C rfl rfl dX11_error_0 ?_
  obtain ⟨g1, h⟩ := h
  have c : (l1 < 0 ∨ 2 < l1) ∨ l1 = 0 ∨ l1 = 1 ∨ l1 = 2 := by omega
  rcases c with c | c | c | c
  · replace h := h.1 c
    refine wz_tableOut C (tgt := 52) g1 dX11_error_1 c (by decide) ?_
    exact False.elim h
  · replace h := h.2.1 c
    refine wz_tableIn C (v := 0) (tgt := 28) c dX11_error_1 (by decide) rfl (by decide) ?_
    refine wz_aload_n C rfl rfl dX11_error_28 ?_
    refine wz_getR C (j := 101) f_X11_error_12 rfl dX11_error_29 ?_
    refine wz_getI C rfl f_X11_error_248 rfl dX11_error_32 ?_
    exact wz_iret C dX11_error_35 ⟨_, rfl, h⟩
  · replace h := h.2.2.1 c
    refine wz_tableIn C (v := 1) (tgt := 36) c dX11_error_1 (by decide) rfl (by decide) ?_
    refine wz_aload_n C rfl rfl dX11_error_36 ?_
    refine wz_getR C (j := 101) f_X11_error_12 rfl dX11_error_37 ?_
    refine wz_getI C rfl f_X11_error_251 rfl dX11_error_40 ?_
    exact wz_iret C dX11_error_43 ⟨_, rfl, h⟩
  · replace h := h.2.2.2 c
    refine wz_tableIn C (v := 2) (tgt := 44) c dX11_error_1 (by decide) rfl (by decide) ?_
    refine wz_aload_n C rfl rfl dX11_error_44 ?_
    refine wz_getR C (j := 101) f_X11_error_12 rfl dX11_error_45 ?_
    refine wz_getI C rfl f_X11_error_254 rfl dX11_error_48 ?_
    exact wz_iret C dX11_error_51 ⟨_, rfl, h⟩
