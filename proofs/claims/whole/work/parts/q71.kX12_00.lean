theorem in_X12_thrown_X12 : ∀ w ∈ wsX120, w ∈ wsX12_thrown := by decide +kernel
theorem f_X12_thrown_90 : FLk wsX12_thrown RX12 90 12 0 := flk 12 0 rfl tyX12_ok nmX12 in_X12_thrown_X12 (by decide) (by decide +kernel)
def rm_X12_thrown : Room := { frames := 0, cells := 0, slots := 0, locals := 0 }
set_option maxHeartbeats 4000000 in
set_option maxRecDepth 100000 in
theorem k_X12_thrown (G : KG) (hG : Kok G) (I : Ii) (J : Jj) (Q : Int → Ii → Jj → Prop) (h : wp_X12_thrown I J Q) : Ctr G yX12_thrown wsX12_thrown rm_X12_thrown [.ref (kadr G 0)] (I, J) (QsI Q) := by
  unfold wp_X12_thrown at h
  skip
  refine Ctr.ofZ (cc := cX12_thrown) (nL := 1) (ret := (some .int)) [some (.ref (kadr G 0))] hG (by decide +kernel) rfl (Nat.le_of_ble_eq_true rfl) (Nat.le_of_ble_eq_true rfl) (by simp [lvA, lv_args, Value.category]) ?_
  intro X hX C
  refine wz_aload_n C rfl rfl dX12_thrown_0 ?_
  refine wz_getI C rfl f_X12_thrown_90 rfl dX12_thrown_1 ?_
  exact wz_iret C dX12_thrown_4 ⟨_, rfl, h⟩
def rm_X12_isIn : Room := { frames := 0, cells := 0, slots := 0, locals := 0 }
set_option maxHeartbeats 4000000 in
set_option maxRecDepth 100000 in
theorem k_X12_isIn (G : KG) (hG : Kok G) (l0 : Int64) (l2 : Int64) (l4 : Int64) (I : Ii) (J : Jj) (Q : Int → Ii → Jj → Prop) (h : wp_X12_isIn l0 l2 l4 I J Q) : Ctr G yX12_isIn wsX12_isIn rm_X12_isIn [.long l0, .long l2, .long l4] (I, J) (QsB Q) := by
  unfold wp_X12_isIn at h
  skip
  refine Ctr.ofZ (cc := cX12_isIn) (nL := 6) (ret := (some .boolean)) [some (.long l0), none, some (.long l2), none, some (.long l4), none] hG (by decide +kernel) rfl (Nat.le_of_ble_eq_true rfl) (Nat.le_of_ble_eq_true rfl) (by simp [lvA, lv_args, Value.category]) ?_
  intro X hX C
  refine wz_lload_n C rfl rfl dX12_isIn_0 ?_
  refine wz_lload_n C rfl rfl dX12_isIn_1 ?_
  refine wd_lcmp C dX12_isIn_2 ?_
  refine wz_if_lt C (tgt := 17) (toInt_rg _) dX12_isIn_3 (by decide) (fun c => ?_) (fun c => ?_)
  · replace h := h.1 c
    refine wz_iconst C dX12_isIn_17 ?_
    exact wz_zret C (Or.inl rfl) dX12_isIn_18 ⟨_, rfl, (Or.inl rfl), h⟩
  · replace h := h.2 c
    refine wz_lload_n C rfl rfl dX12_isIn_6 ?_
    refine wz_lload C rfl dX12_isIn_7 ?_
    refine wd_lcmp C dX12_isIn_9 ?_
    refine wz_if_gt C (tgt := 17) (toInt_rg _) dX12_isIn_10 (by decide) (fun c => ?_) (fun c => ?_)
    · replace h := h.1 c
      refine wz_iconst C dX12_isIn_17 ?_
      exact wz_zret C (Or.inl rfl) dX12_isIn_18 ⟨_, rfl, (Or.inl rfl), h⟩
    · replace h := h.2 c
      refine wz_iconst C dX12_isIn_13 ?_
      refine wz_goto C dX12_isIn_14 (tgt := 18) (by decide) ?_
      exact wz_zret C (Or.inr rfl) dX12_isIn_18 ⟨_, rfl, (Or.inr rfl), h⟩
def rm_X12_truth : Room := { frames := 0, cells := 0, slots := 0, locals := 0 }
set_option maxHeartbeats 4000000 in
set_option maxRecDepth 100000 in
theorem k_X12_truth (G : KG) (hG : Kok G) (l0 : Int) (I : Ii) (J : Jj) (Q : Int → Ii → Jj → Prop) (h : wp_X12_truth l0 I J Q) : Ctr G yX12_truth wsX12_truth rm_X12_truth [.int (iZ l0)] (I, J) (QsI Q) := by
  unfold wp_X12_truth at h
  skip
  refine Ctr.ofZ (cc := cX12_truth) (nL := 1) (ret := (some .int)) [some (.int (iZ l0))] hG (by decide +kernel) rfl (Nat.le_of_ble_eq_true rfl) (Nat.le_of_ble_eq_true rfl) (by simp [lvA, lv_args, Value.category]) ?_
  intro X hX C
  refine wz_iload_n C rfl rfl dX12_truth_0 ?_
  obtain ⟨g1, h⟩ := h
  refine wz_if_eq C (tgt := 8) g1 dX12_truth_1 (by decide) (fun c => ?_) (fun c => ?_)
  · replace h := h.1 c
    refine wz_iconst C dX12_truth_8 ?_
    exact wz_iret C dX12_truth_9 ⟨_, rfl, h⟩
  · replace h := h.2 c
    refine wz_iconst C dX12_truth_4 ?_
    refine wz_goto C dX12_truth_5 (tgt := 9) (by decide) ?_
    exact wz_iret C dX12_truth_9 ⟨_, rfl, h⟩
def rm_X12_hasBit : Room := { frames := 0, cells := 0, slots := 0, locals := 0 }
set_option maxHeartbeats 4000000 in
set_option maxRecDepth 100000 in
theorem k_X12_hasBit (G : KG) (hG : Kok G) (l0 : Int) (l1 : Int) (I : Ii) (J : Jj) (Q : Int → Ii → Jj → Prop) (h : wp_X12_hasBit l0 l1 I J Q) : Ctr G yX12_hasBit wsX12_hasBit rm_X12_hasBit [.int (iZ l0), .int (iZ l1)] (I, J) (QsB Q) := by
  unfold wp_X12_hasBit at h
  skip
  refine Ctr.ofZ (cc := cX12_hasBit) (nL := 2) (ret := (some .boolean)) [some (.int (iZ l0)), some (.int (iZ l1))] hG (by decide +kernel) rfl (Nat.le_of_ble_eq_true rfl) (Nat.le_of_ble_eq_true rfl) (by simp [lvA, lv_args, Value.category]) ?_
  intro X hX C
  refine wz_iload_n C rfl rfl dX12_hasBit_0 ?_
  refine wz_iload_n C rfl rfl dX12_hasBit_1 ?_
  refine wd_ishr C dX12_hasBit_2 ?_
  refine wz_iconst C dX12_hasBit_3 ?_
  refine wd_iand C dX12_hasBit_4 ?_
  refine wz_iconst C dX12_hasBit_5 ?_
  refine wz_icmp_ne C (tgt := 13) (toInt_rg _) (by decide) dX12_hasBit_6 (by decide) (fun c => ?_) (fun c => ?_)
  · replace h := h.1 c
    refine wz_iconst C dX12_hasBit_13 ?_
    exact wz_zret C (Or.inl rfl) dX12_hasBit_14 ⟨_, rfl, (Or.inl rfl), h⟩
  · replace h := h.2 c
    refine wz_iconst C dX12_hasBit_9 ?_
    refine wz_goto C dX12_hasBit_10 (tgt := 14) (by decide) ?_
    exact wz_zret C (Or.inr rfl) dX12_hasBit_14 ⟨_, rfl, (Or.inr rfl), h⟩
theorem in_X12_goes_X12 : ∀ w ∈ wsX120, w ∈ wsX12_goes := by decide +kernel
theorem f_X12_goes_90 : FLk wsX12_goes RX12 90 12 0 := flk 12 0 rfl tyX12_ok nmX12 in_X12_goes_X12 (by decide) (by decide +kernel)
theorem fp_X12_0 : FPk 12 0 .int := fun C9 T9 N9 h => by
  have h : some (RX12, TX12, 48) = some (C9, T9, N9) := h
  cases h
  exact ⟨rfl, by decide +kernel⟩
def rm_X12_goes : Room := { frames := 1, cells := 0, slots := 0, locals := 20 }
set_option maxHeartbeats 4000000 in
set_option maxRecDepth 100000 in
theorem bk_X12_goes_10 (G : KG) (hG : Kok G) (X : KX) (hX : KR X = rm_X12_goes) (C : Fr G X cX12_goes 2 yX12_goes.cls (some .boolean) wsX12_goes) (l1 : Int) (Q : Int → Ii → Jj → Prop) (t1 : Int) (I : Ii) (J : Jj) (h : B_X12_goes_10 l1 Q t1 I J) : Wz G X 2 (QsU G X (QsB Q)) 0 0 10 [none, some (.int (iZ l1))] [.int (iZ t1), .ref (kadr G 0)] I J := by
  unfold B_X12_goes_10 at h
  refine wm_callS C (As := [.int (iZ t1)]) (st := [.ref (kadr G 0)]) (a' := 0) (b' := 0) (k_X12_truth G hG t1 I J _ h) 1 gX12_goes_X12_truth rfl (by decide +kernel) (by rw [hX]; exact ⟨Nat.le_of_ble_eq_true rfl, Nat.le_of_ble_eq_true rfl⟩) rfl (Nat.le_of_ble_eq_true rfl) rfl rfl rfl dX12_goes_10 (kk_sI (fun v2 I2 J2 h => ?_))
  refine wd_putI C f_X12_goes_90 fp_X12_0 rfl dX12_goes_13 (fun I3 e => ?_)
  replace h := h I3 e
  refine wz_iload_n C rfl rfl dX12_goes_16 ?_
  exact wz_zret C h.1 dX12_goes_17 ⟨_, rfl, h.1, h.2⟩
set_option maxHeartbeats 4000000 in
set_option maxRecDepth 100000 in
theorem k_X12_goes (G : KG) (hG : Kok G) (l1 : Int) (I : Ii) (J : Jj) (Q : Int → Ii → Jj → Prop) (h : wp_X12_goes l1 I J Q) : Ctr G yX12_goes wsX12_goes rm_X12_goes [.ref (kadr G 0), .int (iZ l1)] (I, J) (QsB Q) := by
  unfold wp_X12_goes at h
  skip
  refine Ctr.ofZ (cc := cX12_goes) (nL := 2) (ret := (some .boolean)) [some (.ref (kadr G 0)), some (.int (iZ l1))] hG (by decide +kernel) rfl (Nat.le_of_ble_eq_true rfl) (Nat.le_of_ble_eq_true rfl) (by simp [lvA, lv_args, Value.category]) ?_
  intro X hX C
  refine wz_aload_n C rfl rfl dX12_goes_0 ?_
  refine wz_iload_n C rfl rfl dX12_goes_1 ?_
  obtain ⟨g1, h⟩ := h
  refine wz_if_ne C (tgt := 9) g1 dX12_goes_2 (by decide) (fun c => ?_) (fun c => ?_)
  · replace h := h.1 c
    refine wz_iconst C dX12_goes_9 ?_
    exact Wz.drop (bk_X12_goes_10 G hG X hX C l1 Q 0 I J h) (And.intro rfl trivial)
  · replace h := h.2 c
    refine wz_iconst C dX12_goes_5 ?_
    refine wz_goto C dX12_goes_6 (tgt := 10) (by decide) ?_
    exact Wz.drop (bk_X12_goes_10 G hG X hX C l1 Q 1 I J h) (And.intro rfl trivial)
theorem in_X12_goesBoth_X12 : ∀ w ∈ wsX120, w ∈ wsX12_goesBoth := by decide +kernel
theorem f_X12_goesBoth_90 : FLk wsX12_goesBoth RX12 90 12 0 := flk 12 0 rfl tyX12_ok nmX12 in_X12_goesBoth_X12 (by decide) (by decide +kernel)
def rm_X12_goesBoth : Room := { frames := 0, cells := 0, slots := 0, locals := 0 }
set_option maxHeartbeats 4000000 in
set_option maxRecDepth 100000 in
theorem bk_X12_goesBoth_18 (G : KG) (hG : Kok G) (X : KX) (hX : KR X = rm_X12_goesBoth) (C : Fr G X cX12_goesBoth 3 yX12_goesBoth.cls (some .boolean) wsX12_goesBoth) (l1 : Int) (l2 : Int) (Q : Int → Ii → Jj → Prop) (t1 : Int) (I : Ii) (J : Jj) (h : B_X12_goesBoth_18 l1 l2 Q t1 I J) : Wz G X 3 (QsU G X (QsB Q)) 0 0 18 [some (.ref (kadr G 0)), none, none] [.int (iZ t1), .ref (kadr G 0)] I J := by
  unfold B_X12_goesBoth_18 at h
  refine wd_putI C f_X12_goesBoth_90 fp_X12_0 rfl dX12_goesBoth_18 (fun I3 e => ?_)
  replace h := h I3 e
  refine wz_aload_n C rfl rfl dX12_goesBoth_21 ?_
  refine wz_getI C rfl f_X12_goesBoth_90 rfl dX12_goesBoth_22 ?_
  obtain ⟨g4, h⟩ := h
  refine wz_if_ne C (tgt := 32) g4 dX12_goesBoth_25 (by decide) (fun c => ?_) (fun c => ?_)
  · replace h := h.1 c
    refine wz_iconst C dX12_goesBoth_32 ?_
    exact wz_zret C (Or.inl rfl) dX12_goesBoth_33 ⟨_, rfl, (Or.inl rfl), h⟩
  · replace h := h.2 c
    refine wz_iconst C dX12_goesBoth_28 ?_
    refine wz_goto C dX12_goesBoth_29 (tgt := 33) (by decide) ?_
    exact wz_zret C (Or.inr rfl) dX12_goesBoth_33 ⟨_, rfl, (Or.inr rfl), h⟩
set_option maxHeartbeats 4000000 in
set_option maxRecDepth 100000 in
theorem k_X12_goesBoth (G : KG) (hG : Kok G) (l1 : Int) (l2 : Int) (I : Ii) (J : Jj) (Q : Int → Ii → Jj → Prop) (h : wp_X12_goesBoth l1 l2 I J Q) : Ctr G yX12_goesBoth wsX12_goesBoth rm_X12_goesBoth [.ref (kadr G 0), .int (iZ l1), .int (iZ l2)] (I, J) (QsB Q) := by
  unfold wp_X12_goesBoth at h
  skip
  refine Ctr.ofZ (cc := cX12_goesBoth) (nL := 3) (ret := (some .boolean)) [some (.ref (kadr G 0)), some (.int (iZ l1)), some (.int (iZ l2))] hG (by decide +kernel) rfl (Nat.le_of_ble_eq_true rfl) (Nat.le_of_ble_eq_true rfl) (by simp [lvA, lv_args, Value.category]) ?_
  intro X hX C
  refine wz_aload_n C rfl rfl dX12_goesBoth_0 ?_
  refine wz_iload_n C rfl rfl dX12_goesBoth_1 ?_
  obtain ⟨g1, h⟩ := h
  refine wz_if_ne C (tgt := 9) g1 dX12_goesBoth_2 (by decide) (fun c => ?_) (fun c => ?_)
  · replace h := h.1 c
    refine wz_iload_n C rfl rfl dX12_goesBoth_9 ?_
    obtain ⟨g2, h⟩ := h
    refine wz_if_ne C (tgt := 17) g2 dX12_goesBoth_10 (by decide) (fun c => ?_) (fun c => ?_)
    · replace h := h.1 c
      refine wz_iconst C dX12_goesBoth_17 ?_
      exact Wz.drop (bk_X12_goesBoth_18 G hG X hX C l1 l2 Q 0 I J h) (And.intro rfl trivial)
    · replace h := h.2 c
      refine wz_iconst C dX12_goesBoth_13 ?_
      refine wz_goto C dX12_goesBoth_14 (tgt := 18) (by decide) ?_
      exact Wz.drop (bk_X12_goesBoth_18 G hG X hX C l1 l2 Q 2 I J h) (And.intro rfl trivial)
  · replace h := h.2 c
    refine wz_iconst C dX12_goesBoth_5 ?_
    refine wz_goto C dX12_goesBoth_6 (tgt := 18) (by decide) ?_
    exact Wz.drop (bk_X12_goesBoth_18 G hG X hX C l1 l2 Q 1 I J h) (And.intro rfl trivial)
theorem in_X12_four_X12 : ∀ w ∈ wsX120, w ∈ wsX12_four := by decide +kernel
theorem f_X12_four_7 : FLk wsX12_four RX12 7 12 1 := flk 12 1 rfl tyX12_ok nmX12 in_X12_four_X12 (by decide) (by decide +kernel)
theorem f_X12_four_97 : FLk wsX12_four RX12 97 12 2 := flk 12 2 rfl tyX12_ok nmX12 in_X12_four_X12 (by decide) (by decide +kernel)
theorem fp_X12_2 : FPk 12 2 .int := fun C9 T9 N9 h => by
  have h : some (RX12, TX12, 48) = some (C9, T9, N9) := h
  cases h
  exact ⟨rfl, by decide +kernel⟩
def rm_X12_four : Room := { frames := 0, cells := 0, slots := 0, locals := 0 }
set_option maxHeartbeats 4000000 in
set_option maxRecDepth 100000 in
theorem lk_X12_four_3 (G : KG) (hG : Kok G) (X : KX) (hX : KR X = rm_X12_four) (C : Fr G X cX12_four 3 yX12_four.cls none wsX12_four) (l1 : Int) (Q : Ii → Jj → Prop) : ∀ (n : Nat) (l2 : Int) (I : Ii) (J : Jj), L_X12_four_3 l1 Q n l2 I J → Wz G X 3 (QsU G X (QsV Q)) 0 0 3 [some (.ref (kadr G 0)), some (.int (iZ l1)), some (.int (iZ l2))] [] I J := by
  intro n
  induction n with
  | zero => intro l2 I J h; exact False.elim h
  | succ n w3 =>
    intro l2 I J h
    have h : Lb_X12_four_3 l1 Q (L_X12_four_3 l1 Q n) l2 I J := h
    unfold Lb_X12_four_3 at h
    generalize L_X12_four_3 l1 Q n = r3 at h w3
    refine wz_iload_n C rfl rfl dX12_four_3 ?_
    obtain ⟨g1, h⟩ := h
    refine wz_if_lt C (tgt := 39) g1 dX12_four_4 (by decide) (fun c => ?_) (fun c => ?_)
    · replace h := h.1 c
      exact wz_vret C dX12_four_39 ⟨rfl, h⟩
    · replace h := h.2 c
      refine wz_aload_n C rfl rfl dX12_four_7 ?_
      refine wz_getR C (j := 1) f_X12_four_7 rfl dX12_four_8 ?_
      refine wz_aload_n C rfl rfl dX12_four_11 ?_
      refine wz_getI C rfl f_X12_four_97 rfl dX12_four_12 ?_
      refine wz_iload_n C rfl rfl dX12_four_15 ?_
      refine wz_iload_n C rfl rfl dX12_four_16 ?_
      refine wd_ishr C dX12_four_17 ?_
      refine wz_sipush C (by decide) dX12_four_18 ?_
      refine wd_iand C dX12_four_21 ?_
      obtain ⟨g2, h⟩ := h
      refine wd_iastore C ((I 0 2).toNat) (n := 800) rfl (zN g2) (zL g2) (by decide) dX12_four_22 (fun I3 e => ?_)
      replace h := h I3 e
      refine wz_aload_n C rfl rfl dX12_four_23 ?_
      refine wz_dup C rfl dX12_four_24 ?_
      refine wz_getI C rfl f_X12_four_97 rfl dX12_four_25 ?_
      refine wz_iconst C dX12_four_28 ?_
      refine wz_iadd C dX12_four_29 ?_
      refine wd_putI C f_X12_four_97 fp_X12_2 rfl dX12_four_30 (fun I4 e => ?_)
      replace h := h I4 e
      refine wz_iinc_2 C rfl dX12_four_33 ?_
      refine wz_goto C dX12_four_36 (tgt := 3) (by decide) ?_
      exact w3 (l2 + (-8)) I4 J h
set_option maxHeartbeats 4000000 in
set_option maxRecDepth 100000 in
theorem k_X12_four (G : KG) (hG : Kok G) (l1 : Int) (I : Ii) (J : Jj) (Q : Ii → Jj → Prop) (h : wp_X12_four l1 I J Q) : Ctr G yX12_four wsX12_four rm_X12_four [.ref (kadr G 0), .int (iZ l1)] (I, J) (QsV Q) := by
  unfold wp_X12_four at h
  skip
  refine Ctr.ofZ (cc := cX12_four) (nL := 3) (ret := none) [some (.ref (kadr G 0)), some (.int (iZ l1)), none] hG (by decide +kernel) rfl (Nat.le_of_ble_eq_true rfl) (Nat.le_of_ble_eq_true rfl) (by simp [lvA, lv_args, Value.category]) ?_
  intro X hX C
  refine wz_bipush C (by decide) dX12_four_0 ?_
  refine wz_istore_2 C rfl dX12_four_2 ?_
  obtain ⟨n, h⟩ := h
  exact lk_X12_four_3 G hG X hX C l1 Q n 24 I J h
theorem in_X12_truncate_X12 : ∀ w ∈ wsX120, w ∈ wsX12_truncate := by decide +kernel
theorem f_X12_truncate_97 : FLk wsX12_truncate RX12 97 12 2 := flk 12 2 rfl tyX12_ok nmX12 in_X12_truncate_X12 (by decide) (by decide +kernel)
def rm_X12_truncate : Room := { frames := 2, cells := 0, slots := 0, locals := 41 }
set_option maxHeartbeats 4000000 in
set_option maxRecDepth 100000 in
theorem k_X12_truncate (G : KG) (hG : Kok G) (l1 : Int) (I : Ii) (J : Jj) (Q : Int → Ii → Jj → Prop) (h : wp_X12_truncate l1 I J Q) : Ctr G yX12_truncate wsX12_truncate rm_X12_truncate [.ref (kadr G 0), .int (iZ l1)] (I, J) (QsI Q) := by
  unfold wp_X12_truncate at h
  skip
  refine Ctr.ofZ (cc := cX12_truncate) (nL := 2) (ret := (some .int)) [some (.ref (kadr G 0)), some (.int (iZ l1))] hG (by decide +kernel) rfl (Nat.le_of_ble_eq_true rfl) (Nat.le_of_ble_eq_true rfl) (by simp [lvA, lv_args, Value.category]) ?_
  intro X hX C
  refine wz_aload_n C rfl rfl dX12_truncate_0 ?_
  refine wz_iload_n C rfl rfl dX12_truncate_1 ?_
  refine wd_i2l C dX12_truncate_2 ?_
  refine wz_lconst C (v := lZ 0) (by decide) dX12_truncate_3 ?_
  refine wz_aload_n C rfl rfl dX12_truncate_4 ?_
  refine wz_getI C rfl f_X12_truncate_97 rfl dX12_truncate_5 ?_
  refine wd_i2l C dX12_truncate_8 ?_
  refine wm_callS C (As := [.long (i2lZ l1), .long (lZ 0), .long (i2lZ (I 0 2))]) (st := [.ref (kadr G 0)]) (a' := 0) (b' := 0) (k_X12_isIn G hG (i2lZ l1) (lZ 0) (i2lZ (I 0 2)) I J _ h) 3 gX12_truncate_X12_isIn rfl (by decide +kernel) (by rw [hX]; exact ⟨Nat.le_of_ble_eq_true rfl, Nat.le_of_ble_eq_true rfl⟩) rfl (Nat.le_of_ble_eq_true rfl) rfl rfl rfl dX12_truncate_9 (kk_sB (fun v1 I1 J1 hb1 h => ?_))
  refine wm_callV C (o := 0) (As := [.int (iZ v1)]) (st := []) (a' := 0) (b' := 0) rfl rfl (k_X12_goes G hG v1 I1 J1 _ h) 1 gX12_truncate_X12_goes rfl (by decide +kernel) (by rw [hX]; exact ⟨Nat.le_of_ble_eq_true rfl, Nat.le_of_ble_eq_true rfl⟩) rfl (Nat.le_of_ble_eq_true rfl) rfl rfl rfl dX12_truncate_12 (kk_sB (fun v2 I2 J2 hb2 h => ?_))
  refine wz_if_ne C (tgt := 20) (rgB hb2) dX12_truncate_15 (by decide) (fun c => ?_) (fun c => ?_)
  · replace h := h.1 c
    refine wz_aload_n C rfl rfl dX12_truncate_20 ?_
    refine wz_iload_n C rfl rfl dX12_truncate_21 ?_
    refine wd_putI C f_X12_truncate_97 fp_X12_2 rfl dX12_truncate_22 (fun I3 e => ?_)
    replace h := h I3 e
    refine wz_iload_n C rfl rfl dX12_truncate_25 ?_
    exact wz_iret C dX12_truncate_26 ⟨_, rfl, h⟩
  · replace h := h.2 c
    refine wz_iconst C dX12_truncate_18 ?_
    exact wz_iret C dX12_truncate_19 ⟨_, rfl, h⟩
theorem in_X12_here_X12 : ∀ w ∈ wsX120, w ∈ wsX12_here := by decide +kernel
theorem f_X12_here_112 : FLk wsX12_here RX12 112 12 4 := flk 12 4 rfl tyX12_ok nmX12 in_X12_here_X12 (by decide) (by decide +kernel)
theorem f_X12_here_115 : FLk wsX12_here RX12 115 12 3 := flk 12 3 rfl tyX12_ok nmX12 in_X12_here_X12 (by decide) (by decide +kernel)
theorem f_X12_here_7 : FLk wsX12_here RX12 7 12 1 := flk 12 1 rfl tyX12_ok nmX12 in_X12_here_X12 (by decide) (by decide +kernel)
def rm_X12_here : Room := { frames := 0, cells := 0, slots := 0, locals := 0 }
set_option maxHeartbeats 4000000 in
set_option maxRecDepth 100000 in
theorem k_X12_here (G : KG) (hG : Kok G) (l1 : Int) (I : Ii) (J : Jj) (Q : Int → Ii → Jj → Prop) (h : wp_X12_here l1 I J Q) : Ctr G yX12_here wsX12_here rm_X12_here [.ref (kadr G 0), .int (iZ l1)] (I, J) (QsI Q) := by
  unfold wp_X12_here at h
  skip
  refine Ctr.ofZ (cc := cX12_here) (nL := 2) (ret := (some .int)) [some (.ref (kadr G 0)), some (.int (iZ l1))] hG (by decide +kernel) rfl (Nat.le_of_ble_eq_true rfl) (Nat.le_of_ble_eq_true rfl) (by simp [lvA, lv_args, Value.category]) ?_
  intro X hX C
  refine wz_aload_n C rfl rfl dX12_here_0 ?_
  refine wz_getI C rfl f_X12_here_112 rfl dX12_here_1 ?_
  refine wz_iload_n C rfl rfl dX12_here_4 ?_
  refine wz_iadd C dX12_here_5 ?_
  refine wz_aload_n C rfl rfl dX12_here_6 ?_
  refine wz_getI C rfl f_X12_here_115 rfl dX12_here_7 ?_
  obtain ⟨g1, h⟩ := h
  obtain ⟨g2, h⟩ := h
  refine wz_icmp_ge C (tgt := 27) g1 g2 dX12_here_10 (by decide) (fun c => ?_) (fun c => ?_)
  · replace h := h.1 c
    refine wz_iconst C dX12_here_27 ?_
    exact wz_iret C dX12_here_28 ⟨_, rfl, h⟩
  · replace h := h.2 c
    refine wz_aload_n C rfl rfl dX12_here_13 ?_
    refine wz_getR C (j := 1) f_X12_here_7 rfl dX12_here_14 ?_
    refine wz_aload_n C rfl rfl dX12_here_17 ?_
    refine wz_getI C rfl f_X12_here_112 rfl dX12_here_18 ?_
    refine wz_iload_n C rfl rfl dX12_here_21 ?_
    refine wz_iadd C dX12_here_22 ?_
    obtain ⟨g3, h⟩ := h
    refine wz_iaload C (((I 0 4) + l1).toNat) (n := 800) rfl (zN g3) (zL g3) (by decide) rfl dX12_here_23 ?_
    refine wz_goto C dX12_here_24 (tgt := 28) (by decide) ?_
    exact wz_iret C dX12_here_28 ⟨_, rfl, h⟩
def rm_X12_isLetter : Room := { frames := 0, cells := 0, slots := 0, locals := 0 }
set_option maxHeartbeats 4000000 in
set_option maxRecDepth 100000 in
theorem k_X12_isLetter (G : KG) (hG : Kok G) (l0 : Int) (I : Ii) (J : Jj) (Q : Int → Ii → Jj → Prop) (h : wp_X12_isLetter l0 I J Q) : Ctr G yX12_isLetter wsX12_isLetter rm_X12_isLetter [.int (iZ l0)] (I, J) (QsB Q) := by
  unfold wp_X12_isLetter at h
  skip
  refine Ctr.ofZ (cc := cX12_isLetter) (nL := 1) (ret := (some .boolean)) [some (.int (iZ l0))] hG (by decide +kernel) rfl (Nat.le_of_ble_eq_true rfl) (Nat.le_of_ble_eq_true rfl) (by simp [lvA, lv_args, Value.category]) ?_
  intro X hX C
  refine wz_iload_n C rfl rfl dX12_isLetter_0 ?_
  refine wz_bipush C (by decide) dX12_isLetter_1 ?_
  obtain ⟨g1, h⟩ := h
  refine wz_icmp_lt C (tgt := 16) g1 (by decide) dX12_isLetter_3 (by decide) (fun c => ?_) (fun c => ?_)
  · replace h := h.1 c
    refine wz_iconst C dX12_isLetter_16 ?_
    exact wz_zret C (Or.inl rfl) dX12_isLetter_17 ⟨_, rfl, (Or.inl rfl), h⟩
  · replace h := h.2 c
    refine wz_iload_n C rfl rfl dX12_isLetter_6 ?_
    refine wz_bipush C (by decide) dX12_isLetter_7 ?_
    refine wz_icmp_gt C (tgt := 16) g1 (by decide) dX12_isLetter_9 (by decide) (fun c => ?_) (fun c => ?_)
    · replace h := h.1 c
      refine wz_iconst C dX12_isLetter_16 ?_
      exact wz_zret C (Or.inl rfl) dX12_isLetter_17 ⟨_, rfl, (Or.inl rfl), h⟩
    · replace h := h.2 c
      refine wz_iconst C dX12_isLetter_12 ?_
      refine wz_goto C dX12_isLetter_13 (tgt := 17) (by decide) ?_
      exact wz_zret C (Or.inr rfl) dX12_isLetter_17 ⟨_, rfl, (Or.inr rfl), h⟩
def rm_X12_isDigit : Room := { frames := 0, cells := 0, slots := 0, locals := 0 }
set_option maxHeartbeats 4000000 in
set_option maxRecDepth 100000 in
theorem k_X12_isDigit (G : KG) (hG : Kok G) (l0 : Int) (I : Ii) (J : Jj) (Q : Int → Ii → Jj → Prop) (h : wp_X12_isDigit l0 I J Q) : Ctr G yX12_isDigit wsX12_isDigit rm_X12_isDigit [.int (iZ l0)] (I, J) (QsB Q) := by
  unfold wp_X12_isDigit at h
  skip
  refine Ctr.ofZ (cc := cX12_isDigit) (nL := 1) (ret := (some .boolean)) [some (.int (iZ l0))] hG (by decide +kernel) rfl (Nat.le_of_ble_eq_true rfl) (Nat.le_of_ble_eq_true rfl) (by simp [lvA, lv_args, Value.category]) ?_
  intro X hX C
  refine wz_iload_n C rfl rfl dX12_isDigit_0 ?_
  refine wz_bipush C (by decide) dX12_isDigit_1 ?_
  obtain ⟨g1, h⟩ := h
  refine wz_icmp_lt C (tgt := 16) g1 (by decide) dX12_isDigit_3 (by decide) (fun c => ?_) (fun c => ?_)
  · replace h := h.1 c
    refine wz_iconst C dX12_isDigit_16 ?_
    exact wz_zret C (Or.inl rfl) dX12_isDigit_17 ⟨_, rfl, (Or.inl rfl), h⟩
  · replace h := h.2 c
    refine wz_iload_n C rfl rfl dX12_isDigit_6 ?_
    refine wz_bipush C (by decide) dX12_isDigit_7 ?_
    refine wz_icmp_gt C (tgt := 16) g1 (by decide) dX12_isDigit_9 (by decide) (fun c => ?_) (fun c => ?_)
    · replace h := h.1 c
      refine wz_iconst C dX12_isDigit_16 ?_
      exact wz_zret C (Or.inl rfl) dX12_isDigit_17 ⟨_, rfl, (Or.inl rfl), h⟩
    · replace h := h.2 c
      refine wz_iconst C dX12_isDigit_12 ?_
      refine wz_goto C dX12_isDigit_13 (tgt := 17) (by decide) ?_
      exact wz_zret C (Or.inr rfl) dX12_isDigit_17 ⟨_, rfl, (Or.inr rfl), h⟩
theorem in_X12_goOn_X12 : ∀ w ∈ wsX120, w ∈ wsX12_goOn := by decide +kernel
theorem f_X12_goOn_112 : FLk wsX12_goOn RX12 112 12 4 := flk 12 4 rfl tyX12_ok nmX12 in_X12_goOn_X12 (by decide) (by decide +kernel)
theorem f_X12_goOn_122 : FLk wsX12_goOn RX12 122 12 5 := flk 12 5 rfl tyX12_ok nmX12 in_X12_goOn_X12 (by decide) (by decide +kernel)
theorem fp_X12_5 : FPk 12 5 .int := fun C9 T9 N9 h => by
  have h : some (RX12, TX12, 48) = some (C9, T9, N9) := h
  cases h
  exact ⟨rfl, by decide +kernel⟩
theorem f_X12_goOn_125 : FLk wsX12_goOn RX12 125 12 14 := flk 12 14 rfl tyX12_ok nmX12 in_X12_goOn_X12 (by decide) (by decide +kernel)
theorem fp_X12_14 : FPk 12 14 .long := fun C9 T9 N9 h => by
  have h : some (RX12, TX12, 48) = some (C9, T9, N9) := h
  cases h
  exact ⟨rfl, by decide +kernel⟩
theorem f_X12_goOn_129 : FLk wsX12_goOn RX12 129 12 7 := flk 12 7 rfl tyX12_ok nmX12 in_X12_goOn_X12 (by decide) (by decide +kernel)
theorem fp_X12_7 : FPk 12 7 .int := fun C9 T9 N9 h => by
  have h : some (RX12, TX12, 48) = some (C9, T9, N9) := h
  cases h
  exact ⟨rfl, by decide +kernel⟩
theorem f_X12_goOn_132 : FLk wsX12_goOn RX12 132 12 6 := flk 12 6 rfl tyX12_ok nmX12 in_X12_goOn_X12 (by decide) (by decide +kernel)
theorem fp_X12_6 : FPk 12 6 .int := fun C9 T9 N9 h => by
  have h : some (RX12, TX12, 48) = some (C9, T9, N9) := h
  cases h
  exact ⟨rfl, by decide +kernel⟩
theorem fp_X12_4 : FPk 12 4 .int := fun C9 T9 N9 h => by
  have h : some (RX12, TX12, 48) = some (C9, T9, N9) := h
  cases h
  exact ⟨rfl, by decide +kernel⟩
def rm_X12_goOn : Room := { frames := 1, cells := 0, slots := 0, locals := 21 }
set_option maxHeartbeats 4000000 in
set_option maxRecDepth 100000 in
theorem bk_X12_goOn_20 (G : KG) (hG : Kok G) (X : KX) (hX : KR X = rm_X12_goOn) (C : Fr G X cX12_goOn 3 yX12_goOn.cls none wsX12_goOn) (Q : Ii → Jj → Prop) (r0 : Ii → Jj → Prop) (w0 : ∀  (I : Ii) (J : Jj), r0  I J → Wz G X 3 (QsU G X (QsV Q)) 0 0 0 [some (.ref (kadr G 0)), none, none] [] I J)  (I : Ii) (J : Jj) (h : B_X12_goOn_20 Q r0  I J) : Wz G X 3 (QsU G X (QsV Q)) 0 0 20 [some (.ref (kadr G 0)), none, none] [] I J := by
  unfold B_X12_goOn_20 at h
  refine wz_aload_n C rfl rfl dX12_goOn_20 ?_
  refine wz_dup C rfl dX12_goOn_21 ?_
  refine wz_getI C rfl f_X12_goOn_112 rfl dX12_goOn_22 ?_
  refine wz_iconst C dX12_goOn_25 ?_
  refine wz_iadd C dX12_goOn_26 ?_
  refine wd_putI C f_X12_goOn_112 fp_X12_4 rfl dX12_goOn_27 (fun I22 e => ?_)
  replace h := h I22 e
  refine wz_goto C dX12_goOn_30 (tgt := 0) (by decide) ?_
  exact w0 I22 J h
set_option maxHeartbeats 4000000 in
set_option maxRecDepth 100000 in
theorem bk_X12_goOn_239 (G : KG) (hG : Kok G) (X : KX) (hX : KR X = rm_X12_goOn) (C : Fr G X cX12_goOn 3 yX12_goOn.cls none wsX12_goOn) (Q : Ii → Jj → Prop) (l2 : Int) (I : Ii) (J : Jj) (h : B_X12_goOn_239 Q l2 I J) : Wz G X 3 (QsU G X (QsV Q)) 0 0 239 [some (.ref (kadr G 0)), none, some (.int (iZ l2))] [] I J := by
  unfold B_X12_goOn_239 at h
  refine wz_aload_n C rfl rfl dX12_goOn_239 ?_
  refine wz_dup C rfl dX12_goOn_240 ?_
  refine wz_getI C rfl f_X12_goOn_112 rfl dX12_goOn_241 ?_
  refine wz_iload_n C rfl rfl dX12_goOn_244 ?_
  refine wz_iadd C dX12_goOn_245 ?_
  refine wd_putI C f_X12_goOn_112 fp_X12_4 rfl dX12_goOn_246 (fun I23 e => ?_)
  replace h := h I23 e
  exact wz_vret C dX12_goOn_249 ⟨rfl, h⟩
set_option maxHeartbeats 4000000 in
set_option maxRecDepth 100000 in
theorem lk_X12_goOn_76 (G : KG) (hG : Kok G) (X : KX) (hX : KR X = rm_X12_goOn) (C : Fr G X cX12_goOn 3 yX12_goOn.cls none wsX12_goOn) (Q : Ii → Jj → Prop) : ∀ (n : Nat) (l2 : Int) (I : Ii) (J : Jj), L_X12_goOn_76 Q n l2 I J → Wz G X 3 (QsU G X (QsV Q)) 0 0 76 [some (.ref (kadr G 0)), none, some (.int (iZ l2))] [] I J := by
  intro n
  induction n with
  | zero => intro l2 I J h; exact False.elim h
  | succ n w76 =>
    intro l2 I J h
    have h : Lb_X12_goOn_76 Q (L_X12_goOn_76 Q n) l2 I J := h
    unfold Lb_X12_goOn_76 at h
    generalize L_X12_goOn_76 Q n = r76 at h w76
    refine wz_aload_n C rfl rfl dX12_goOn_76 ?_
    refine wz_iload_n C rfl rfl dX12_goOn_77 ?_
    refine wm_callV C (o := 0) (As := [.int (iZ l2)]) (st := []) (a' := 0) (b' := 0) rfl rfl (k_X12_here G hG l2 I J _ h) 1 gX12_goOn_X12_here rfl (by decide +kernel) (by rw [hX]; exact ⟨Nat.le_of_ble_eq_true rfl, Nat.le_of_ble_eq_true rfl⟩) rfl (Nat.le_of_ble_eq_true rfl) rfl rfl rfl dX12_goOn_78 (kk_sI (fun v32 I32 J32 h => ?_))
    refine wm_callS C (As := [.int (iZ v32)]) (st := []) (a' := 0) (b' := 0) (k_X12_isLetter G hG v32 I32 J32 _ h) 1 gX12_goOn_X12_isLetter rfl (by decide +kernel) (by rw [hX]; exact ⟨Nat.le_of_ble_eq_true rfl, Nat.le_of_ble_eq_true rfl⟩) rfl (Nat.le_of_ble_eq_true rfl) rfl rfl rfl dX12_goOn_81 (kk_sB (fun v33 I33 J33 hb33 h => ?_))
    refine wz_if_eq C (tgt := 121) (rgB hb33) dX12_goOn_84 (by decide) (fun c => ?_) (fun c => ?_)
    · replace h := h.1 c
      refine wz_aload_n C rfl rfl dX12_goOn_121 ?_
      refine wz_iload_n C rfl rfl dX12_goOn_122 ?_
      refine wz_bipush C (by decide) dX12_goOn_123 ?_
      obtain ⟨g34, h⟩ := h
      refine wz_icmp_le C (tgt := 132) g34 (by decide) dX12_goOn_125 (by decide) (fun c => ?_) (fun c => ?_)
      · replace h := h.1 c
        refine wz_iconst C dX12_goOn_132 ?_
        refine wd_putI C f_X12_goOn_132 fp_X12_6 rfl dX12_goOn_133 (fun I35 e => ?_)
        replace h := h I35 e
        refine wz_goto C dX12_goOn_136 (tgt := 239) (by decide) ?_
        exact bk_X12_goOn_239 G hG X hX C Q l2 I35 J33 h
      · replace h := h.2 c
        refine wz_iconst C dX12_goOn_128 ?_
        refine wz_goto C dX12_goOn_129 (tgt := 133) (by decide) ?_
        refine wd_putI C f_X12_goOn_132 fp_X12_6 rfl dX12_goOn_133 (fun I36 e => ?_)
        replace h := h I36 e
        refine wz_goto C dX12_goOn_136 (tgt := 239) (by decide) ?_
        exact bk_X12_goOn_239 G hG X hX C Q l2 I36 J33 h
    · replace h := h.2 c
      refine wz_iload_n C rfl rfl dX12_goOn_87 ?_
      refine wz_bipush C (by decide) dX12_goOn_88 ?_
      obtain ⟨g37, h⟩ := h
      refine wz_icmp_ge C (tgt := 115) g37 (by decide) dX12_goOn_90 (by decide) (fun c => ?_) (fun c => ?_)
      · replace h := h.1 c
        refine wz_iinc_2 C rfl dX12_goOn_115 ?_
        refine wz_goto C dX12_goOn_118 (tgt := 76) (by decide) ?_
        exact w76 (l2 + 1) I33 J33 h
      · replace h := h.2 c
        refine wz_aload_n C rfl rfl dX12_goOn_93 ?_
        refine wz_aload_n C rfl rfl dX12_goOn_94 ?_
        refine wz_getJ C rfl f_X12_goOn_125 rfl dX12_goOn_95 ?_
        refine wz_iconst C dX12_goOn_98 ?_
        refine wd_lshl C dX12_goOn_99 ?_
        refine wz_aload_n C rfl rfl dX12_goOn_100 ?_
        refine wz_iload_n C rfl rfl dX12_goOn_101 ?_
        refine wm_callV C (o := 0) (As := [.int (iZ l2)]) (st := [.long (shlL (J33 0 14) 5), .ref (kadr G 0)]) (a' := 0) (b' := 0) rfl rfl (k_X12_here G hG l2 I33 J33 _ h) 1 gX12_goOn_X12_here rfl (by decide +kernel) (by rw [hX]; exact ⟨Nat.le_of_ble_eq_true rfl, Nat.le_of_ble_eq_true rfl⟩) rfl (Nat.le_of_ble_eq_true rfl) rfl rfl rfl dX12_goOn_102 (kk_sI (fun v38 I38 J38 h => ?_))
        refine wz_bipush C (by decide) dX12_goOn_105 ?_
        refine wz_isub C dX12_goOn_107 ?_
        refine wz_iconst C dX12_goOn_108 ?_
        refine wz_iadd C dX12_goOn_109 ?_
        refine wd_i2l C dX12_goOn_110 ?_
        refine wz_lor C rfl dX12_goOn_111 ?_
        refine wd_putJ C f_X12_goOn_125 fp_X12_14 rfl dX12_goOn_112 (fun J39 e => ?_)
        replace h := h J39 e
        refine wz_iinc_2 C rfl dX12_goOn_115 ?_
        refine wz_goto C dX12_goOn_118 (tgt := 76) (by decide) ?_
        exact w76 (l2 + 1) I38 J39 h
set_option maxHeartbeats 4000000 in
set_option maxRecDepth 100000 in
theorem lk_X12_goOn_146 (G : KG) (hG : Kok G) (X : KX) (hX : KR X = rm_X12_goOn) (C : Fr G X cX12_goOn 3 yX12_goOn.cls none wsX12_goOn) (Q : Ii → Jj → Prop) : ∀ (n : Nat) (l2 : Int) (I : Ii) (J : Jj), L_X12_goOn_146 Q n l2 I J → Wz G X 3 (QsU G X (QsV Q)) 0 0 146 [some (.ref (kadr G 0)), none, some (.int (iZ l2))] [] I J := by
  intro n
  induction n with
  | zero => intro l2 I J h; exact False.elim h
  | succ n w146 =>
    intro l2 I J h
    have h : Lb_X12_goOn_146 Q (L_X12_goOn_146 Q n) l2 I J := h
    unfold Lb_X12_goOn_146 at h
    generalize L_X12_goOn_146 Q n = r146 at h w146
    refine wz_aload_n C rfl rfl dX12_goOn_146 ?_
    refine wz_iload_n C rfl rfl dX12_goOn_147 ?_
    refine wm_callV C (o := 0) (As := [.int (iZ l2)]) (st := []) (a' := 0) (b' := 0) rfl rfl (k_X12_here G hG l2 I J _ h) 1 gX12_goOn_X12_here rfl (by decide +kernel) (by rw [hX]; exact ⟨Nat.le_of_ble_eq_true rfl, Nat.le_of_ble_eq_true rfl⟩) rfl (Nat.le_of_ble_eq_true rfl) rfl rfl rfl dX12_goOn_148 (kk_sI (fun v24 I24 J24 h => ?_))
    refine wm_callS C (As := [.int (iZ v24)]) (st := []) (a' := 0) (b' := 0) (k_X12_isDigit G hG v24 I24 J24 _ h) 1 gX12_goOn_X12_isDigit rfl (by decide +kernel) (by rw [hX]; exact ⟨Nat.le_of_ble_eq_true rfl, Nat.le_of_ble_eq_true rfl⟩) rfl (Nat.le_of_ble_eq_true rfl) rfl rfl rfl dX12_goOn_151 (kk_sB (fun v25 I25 J25 hb25 h => ?_))
    refine wz_if_eq C (tgt := 188) (rgB hb25) dX12_goOn_154 (by decide) (fun c => ?_) (fun c => ?_)
    · replace h := h.1 c
      refine wz_aload_n C rfl rfl dX12_goOn_188 ?_
      refine wz_iload_n C rfl rfl dX12_goOn_189 ?_
      refine wz_iconst C dX12_goOn_190 ?_
      obtain ⟨g26, h⟩ := h
      refine wz_icmp_le C (tgt := 198) g26 (by decide) dX12_goOn_191 (by decide) (fun c => ?_) (fun c => ?_)
      · replace h := h.1 c
        refine wz_iconst C dX12_goOn_198 ?_
        refine wd_putI C f_X12_goOn_132 fp_X12_6 rfl dX12_goOn_199 (fun I27 e => ?_)
        replace h := h I27 e
        refine wz_goto C dX12_goOn_202 (tgt := 239) (by decide) ?_
        exact bk_X12_goOn_239 G hG X hX C Q l2 I27 J25 h
      · replace h := h.2 c
        refine wz_iconst C dX12_goOn_194 ?_
        refine wz_goto C dX12_goOn_195 (tgt := 199) (by decide) ?_
        refine wd_putI C f_X12_goOn_132 fp_X12_6 rfl dX12_goOn_199 (fun I28 e => ?_)
        replace h := h I28 e
        refine wz_goto C dX12_goOn_202 (tgt := 239) (by decide) ?_
        exact bk_X12_goOn_239 G hG X hX C Q l2 I28 J25 h
    · replace h := h.2 c
      refine wz_iload_n C rfl rfl dX12_goOn_157 ?_
      refine wz_iconst C dX12_goOn_158 ?_
      obtain ⟨g29, h⟩ := h
      refine wz_icmp_ge C (tgt := 182) g29 (by decide) dX12_goOn_159 (by decide) (fun c => ?_) (fun c => ?_)
      · replace h := h.1 c
        refine wz_iinc_2 C rfl dX12_goOn_182 ?_
        refine wz_goto C dX12_goOn_185 (tgt := 146) (by decide) ?_
        exact w146 (l2 + 1) I25 J25 h
      · replace h := h.2 c
        refine wz_aload_n C rfl rfl dX12_goOn_162 ?_
        refine wz_bipush C (by decide) dX12_goOn_163 ?_
        refine wz_aload_n C rfl rfl dX12_goOn_165 ?_
        refine wz_getI C rfl f_X12_goOn_129 rfl dX12_goOn_166 ?_
        refine wz_imul C dX12_goOn_169 ?_
        refine wz_aload_n C rfl rfl dX12_goOn_170 ?_
        refine wz_iload_n C rfl rfl dX12_goOn_171 ?_
        refine wm_callV C (o := 0) (As := [.int (iZ l2)]) (st := [.int (iZ (10 * (I25 0 7))), .ref (kadr G 0)]) (a' := 0) (b' := 0) rfl rfl (k_X12_here G hG l2 I25 J25 _ h) 1 gX12_goOn_X12_here rfl (by decide +kernel) (by rw [hX]; exact ⟨Nat.le_of_ble_eq_true rfl, Nat.le_of_ble_eq_true rfl⟩) rfl (Nat.le_of_ble_eq_true rfl) rfl rfl rfl dX12_goOn_172 (kk_sI (fun v30 I30 J30 h => ?_))
        refine wz_iadd C dX12_goOn_175 ?_
        refine wz_bipush C (by decide) dX12_goOn_176 ?_
        refine wz_isub C dX12_goOn_178 ?_
        refine wd_putI C f_X12_goOn_129 fp_X12_7 rfl dX12_goOn_179 (fun I31 e => ?_)
        replace h := h I31 e
        refine wz_iinc_2 C rfl dX12_goOn_182 ?_
        refine wz_goto C dX12_goOn_185 (tgt := 146) (by decide) ?_
        exact w146 (l2 + 1) I31 J30 h
set_option maxHeartbeats 4000000 in
set_option maxRecDepth 100000 in
theorem lk_X12_goOn_0 (G : KG) (hG : Kok G) (X : KX) (hX : KR X = rm_X12_goOn) (C : Fr G X cX12_goOn 3 yX12_goOn.cls none wsX12_goOn) (Q : Ii → Jj → Prop) : ∀ (n : Nat)  (I : Ii) (J : Jj), L_X12_goOn_0 Q n  I J → Wz G X 3 (QsU G X (QsV Q)) 0 0 0 [some (.ref (kadr G 0)), none, none] [] I J := by
  intro n
  induction n with
  | zero => intro  I J h; exact False.elim h
  | succ n w0 =>
    intro  I J h
    have h : Lb_X12_goOn_0 Q (L_X12_goOn_0 Q n)  I J := h
    unfold Lb_X12_goOn_0 at h
    generalize L_X12_goOn_0 Q n = r0 at h w0
    refine wz_aload_n C rfl rfl dX12_goOn_0 ?_
    refine wz_iconst C dX12_goOn_1 ?_
    refine wm_callV C (o := 0) (As := [.int (iZ 0)]) (st := []) (a' := 0) (b' := 0) rfl rfl (k_X12_here G hG 0 I J _ h) 1 gX12_goOn_X12_here rfl (by decide +kernel) (by rw [hX]; exact ⟨Nat.le_of_ble_eq_true rfl, Nat.le_of_ble_eq_true rfl⟩) rfl (Nat.le_of_ble_eq_true rfl) rfl rfl rfl dX12_goOn_2 (kk_sI (fun v1 I1 J1 h => ?_))
    refine wz_bipush C (by decide) dX12_goOn_5 ?_
    obtain ⟨g2, h⟩ := h
    refine wz_icmp_eq C (tgt := 20) g2 (by decide) dX12_goOn_7 (by decide) (fun c => ?_) (fun c => ?_)
    · replace h := h.1 c
      exact bk_X12_goOn_20 G hG X hX C Q r0 w0 I1 J1 h
    · replace h := h.2 c
      refine wz_aload_n C rfl rfl dX12_goOn_10 ?_
      refine wz_iconst C dX12_goOn_11 ?_
      refine wm_callV C (o := 0) (As := [.int (iZ 0)]) (st := []) (a' := 0) (b' := 0) rfl rfl (k_X12_here G hG 0 I1 J1 _ h) 1 gX12_goOn_X12_here rfl (by decide +kernel) (by rw [hX]; exact ⟨Nat.le_of_ble_eq_true rfl, Nat.le_of_ble_eq_true rfl⟩) rfl (Nat.le_of_ble_eq_true rfl) rfl rfl rfl dX12_goOn_12 (kk_sI (fun v3 I3 J3 h => ?_))
      refine wz_bipush C (by decide) dX12_goOn_15 ?_
      obtain ⟨g4, h⟩ := h
      refine wz_icmp_ne C (tgt := 33) g4 (by decide) dX12_goOn_17 (by decide) (fun c => ?_) (fun c => ?_)
      · replace h := h.1 c
        refine wz_aload_n C rfl rfl dX12_goOn_33 ?_
        refine wz_aload_n C rfl rfl dX12_goOn_34 ?_
        refine wz_getI C rfl f_X12_goOn_112 rfl dX12_goOn_35 ?_
        refine wd_putI C f_X12_goOn_122 fp_X12_5 rfl dX12_goOn_38 (fun I5 e => ?_)
        replace h := h I5 e
        refine wz_aload_n C rfl rfl dX12_goOn_41 ?_
        refine wz_lconst C (v := lZ 0) (by decide) dX12_goOn_42 ?_
        refine wd_putJ C f_X12_goOn_125 fp_X12_14 rfl dX12_goOn_43 (fun J6 e => ?_)
        replace h := h J6 e
        refine wz_aload_n C rfl rfl dX12_goOn_46 ?_
        refine wz_iconst C dX12_goOn_47 ?_
        refine wd_putI C f_X12_goOn_129 fp_X12_7 rfl dX12_goOn_48 (fun I7 e => ?_)
        replace h := h I7 e
        refine wz_aload_n C rfl rfl dX12_goOn_51 ?_
        refine wz_iconst C dX12_goOn_52 ?_
        refine wm_callV C (o := 0) (As := [.int (iZ 0)]) (st := []) (a' := 0) (b' := 0) rfl rfl (k_X12_here G hG 0 I7 J6 _ h) 1 gX12_goOn_X12_here rfl (by decide +kernel) (by rw [hX]; exact ⟨Nat.le_of_ble_eq_true rfl, Nat.le_of_ble_eq_true rfl⟩) rfl (Nat.le_of_ble_eq_true rfl) rfl rfl rfl dX12_goOn_53 (kk_sI (fun v8 I8 J8 h => ?_))
        refine wz_istore_1 C rfl dX12_goOn_56 ?_
        refine wz_iconst C dX12_goOn_57 ?_
        refine wz_istore_2 C rfl dX12_goOn_58 ?_
        refine wz_iload_n C rfl rfl dX12_goOn_59 ?_
        obtain ⟨g9, h⟩ := h
        refine wz_if_ge C (tgt := 69) g9 dX12_goOn_60 (by decide) (fun c => ?_) (fun c => ?_)
        · replace h := h.1 c
          refine wz_iload_n C rfl rfl dX12_goOn_69 ?_
          refine wm_callS C (As := [.int (iZ v8)]) (st := []) (a' := 0) (b' := 0) (k_X12_isLetter G hG v8 I8 J8 _ h) 1 gX12_goOn_X12_isLetter rfl (by decide +kernel) (by rw [hX]; exact ⟨Nat.le_of_ble_eq_true rfl, Nat.le_of_ble_eq_true rfl⟩) rfl (Nat.le_of_ble_eq_true rfl) rfl rfl rfl dX12_goOn_70 (kk_sB (fun v10 I10 J10 hb10 h => ?_))
          refine wz_if_eq C (tgt := 139) (rgB hb10) dX12_goOn_73 (by decide) (fun c => ?_) (fun c => ?_)
          · replace h := h.1 c
            refine wz_iload_n C rfl rfl dX12_goOn_139 ?_
            refine wm_callS C (As := [.int (iZ v8)]) (st := []) (a' := 0) (b' := 0) (k_X12_isDigit G hG v8 I10 J10 _ h) 1 gX12_goOn_X12_isDigit rfl (by decide +kernel) (by rw [hX]; exact ⟨Nat.le_of_ble_eq_true rfl, Nat.le_of_ble_eq_true rfl⟩) rfl (Nat.le_of_ble_eq_true rfl) rfl rfl rfl dX12_goOn_140 (kk_sB (fun v11 I11 J11 hb11 h => ?_))
            refine wz_if_eq C (tgt := 205) (rgB hb11) dX12_goOn_143 (by decide) (fun c => ?_) (fun c => ?_)
            · replace h := h.1 c
              refine wz_aload_n C rfl rfl dX12_goOn_205 ?_
              refine wz_iload_n C rfl rfl dX12_goOn_206 ?_
              refine wz_bipush C (by decide) dX12_goOn_207 ?_
              obtain ⟨g12, h⟩ := h
              refine wz_icmp_eq C (tgt := 224) g12 (by decide) dX12_goOn_209 (by decide) (fun c => ?_) (fun c => ?_)
              · replace h := h.1 c
                refine wz_iconst C dX12_goOn_224 ?_
                refine wz_goto C dX12_goOn_225 (tgt := 229) (by decide) ?_
                refine wd_putI C f_X12_goOn_132 fp_X12_6 rfl dX12_goOn_229 (fun I13 e => ?_)
                replace h := h I13 e
                refine wz_aload_n C rfl rfl dX12_goOn_232 ?_
                refine wz_iload_n C rfl rfl dX12_goOn_233 ?_
                refine wd_putI C f_X12_goOn_129 fp_X12_7 rfl dX12_goOn_234 (fun I14 e => ?_)
                replace h := h I14 e
                refine wz_iconst C dX12_goOn_237 ?_
                refine wz_istore_2 C rfl dX12_goOn_238 ?_
                exact Wz.drop (bk_X12_goOn_239 G hG X hX C Q 1 I14 J11 h) (And.intro rfl (And.intro rfl trivial))
              · replace h := h.2 c
                refine wz_iload_n C rfl rfl dX12_goOn_212 ?_
                refine wz_bipush C (by decide) dX12_goOn_213 ?_
                refine wz_icmp_eq C (tgt := 224) g12 (by decide) dX12_goOn_215 (by decide) (fun c => ?_) (fun c => ?_)
                · replace h := h.1 c
                  refine wz_iconst C dX12_goOn_224 ?_
                  refine wz_goto C dX12_goOn_225 (tgt := 229) (by decide) ?_
                  refine wd_putI C f_X12_goOn_132 fp_X12_6 rfl dX12_goOn_229 (fun I15 e => ?_)
                  replace h := h I15 e
                  refine wz_aload_n C rfl rfl dX12_goOn_232 ?_
                  refine wz_iload_n C rfl rfl dX12_goOn_233 ?_
                  refine wd_putI C f_X12_goOn_129 fp_X12_7 rfl dX12_goOn_234 (fun I16 e => ?_)
                  replace h := h I16 e
                  refine wz_iconst C dX12_goOn_237 ?_
                  refine wz_istore_2 C rfl dX12_goOn_238 ?_
                  exact Wz.drop (bk_X12_goOn_239 G hG X hX C Q 1 I16 J11 h) (And.intro rfl (And.intro rfl trivial))
                · replace h := h.2 c
                  refine wz_iload_n C rfl rfl dX12_goOn_218 ?_
                  refine wz_bipush C (by decide) dX12_goOn_219 ?_
                  refine wz_icmp_ne C (tgt := 228) g12 (by decide) dX12_goOn_221 (by decide) (fun c => ?_) (fun c => ?_)
                  · replace h := h.1 c
                    refine wz_iconst C dX12_goOn_228 ?_
                    refine wd_putI C f_X12_goOn_132 fp_X12_6 rfl dX12_goOn_229 (fun I17 e => ?_)
                    replace h := h I17 e
                    refine wz_aload_n C rfl rfl dX12_goOn_232 ?_
                    refine wz_iload_n C rfl rfl dX12_goOn_233 ?_
                    refine wd_putI C f_X12_goOn_129 fp_X12_7 rfl dX12_goOn_234 (fun I18 e => ?_)
                    replace h := h I18 e
                    refine wz_iconst C dX12_goOn_237 ?_
                    refine wz_istore_2 C rfl dX12_goOn_238 ?_
                    exact Wz.drop (bk_X12_goOn_239 G hG X hX C Q 1 I18 J11 h) (And.intro rfl (And.intro rfl trivial))
                  · replace h := h.2 c
                    refine wz_iconst C dX12_goOn_224 ?_
                    refine wz_goto C dX12_goOn_225 (tgt := 229) (by decide) ?_
                    refine wd_putI C f_X12_goOn_132 fp_X12_6 rfl dX12_goOn_229 (fun I19 e => ?_)
                    replace h := h I19 e
                    refine wz_aload_n C rfl rfl dX12_goOn_232 ?_
                    refine wz_iload_n C rfl rfl dX12_goOn_233 ?_
                    refine wd_putI C f_X12_goOn_129 fp_X12_7 rfl dX12_goOn_234 (fun I20 e => ?_)
                    replace h := h I20 e
                    refine wz_iconst C dX12_goOn_237 ?_
                    refine wz_istore_2 C rfl dX12_goOn_238 ?_
                    exact Wz.drop (bk_X12_goOn_239 G hG X hX C Q 1 I20 J11 h) (And.intro rfl (And.intro rfl trivial))
            · replace h := h.2 c
              obtain ⟨n, h⟩ := h
              exact Wz.drop (lk_X12_goOn_146 G hG X hX C Q n 0 I11 J11 h) (And.intro rfl (And.intro rfl trivial))
          · replace h := h.2 c
            obtain ⟨n, h⟩ := h
            exact Wz.drop (lk_X12_goOn_76 G hG X hX C Q n 0 I10 J10 h) (And.intro rfl (And.intro rfl trivial))
        · replace h := h.2 c
          refine wz_aload_n C rfl rfl dX12_goOn_63 ?_
          refine wz_iconst C dX12_goOn_64 ?_
          refine wd_putI C f_X12_goOn_132 fp_X12_6 rfl dX12_goOn_65 (fun I21 e => ?_)
          replace h := h I21 e
          exact wz_vret C dX12_goOn_68 ⟨rfl, h⟩
      · replace h := h.2 c
        exact bk_X12_goOn_20 G hG X hX C Q r0 w0 I3 J3 h
set_option maxHeartbeats 4000000 in
set_option maxRecDepth 100000 in
theorem k_X12_goOn (G : KG) (hG : Kok G) (I : Ii) (J : Jj) (Q : Ii → Jj → Prop) (h : wp_X12_goOn I J Q) : Ctr G yX12_goOn wsX12_goOn rm_X12_goOn [.ref (kadr G 0)] (I, J) (QsV Q) := by
  unfold wp_X12_goOn at h
  skip
  refine Ctr.ofZ (cc := cX12_goOn) (nL := 3) (ret := none) [some (.ref (kadr G 0)), none, none] hG (by decide +kernel) rfl (Nat.le_of_ble_eq_true rfl) (Nat.le_of_ble_eq_true rfl) (by simp [lvA, lv_args, Value.category]) ?_
  intro X hX C
  obtain ⟨n, h⟩ := h
  exact lk_X12_goOn_0 G hG X hX C Q n I J h
