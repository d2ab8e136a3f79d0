def rm_X12_isIn : Room := { frames := 0, cells := 0, slots := 0, locals := 0 }
set_option maxHeartbeats 4000000 in
set_option maxRecDepth 100000 in
theorem k_X12_isIn (G : KG) (hG : Kok G) (I : Ii) (J : Jj) (v a b : Int) (hv : -9223372036854775808 ≤ v ∧ v < 9223372036854775808) (ha : -9223372036854775808 ≤ a ∧ a < 9223372036854775808) (hb : -9223372036854775808 ≤ b ∧ b < 9223372036854775808) : Ctr G yX12_isIn wsX12_isIn rm_X12_isIn [.long (lZ v), .long (lZ a), .long (lZ b)] (I, J) (QpB I J (a ≤ v ∧ v ≤ b)) := by
  refine Ctr.ofZ (cc := cX12_isIn) (nL := 6) (ret := (some .boolean)) [some (.long (lZ v)), none, some (.long (lZ a)), none, some (.long (lZ b)), none] hG (by decide +kernel) rfl (by decide) (by decide) (by simp [lvA, lv_args, Value.category]) ?_
  intro X hX C
  refine wz_lload_n C rfl rfl dX12_isIn_0 ?_
  refine wz_lload_n C rfl rfl dX12_isIn_1 ?_
  refine wz_lcmp C (by omega) (by omega) dX12_isIn_2 ?_
  refine wz_if_lt C (tgt := 17) (cmpZ_rg _ _) dX12_isIn_3 (by decide) (fun c3 => ?_) (fun c3 => ?_)
  ·
    simp only [cmpZ_lt, cmpZ_gt, cmpZ_le, cmpZ_ge, cmpZ_eq] at c3
    refine wz_iconst C dX12_isIn_17 ?_
    exact wz_zret C (by omega) dX12_isIn_18 (by first | exact qB1 (by omega) | exact qB0 (by omega))
  ·
    simp only [cmpZ_lt, cmpZ_gt, cmpZ_le, cmpZ_ge, cmpZ_eq] at c3
    refine wz_lload_n C rfl rfl dX12_isIn_6 ?_
    refine wz_lload C rfl dX12_isIn_7 ?_
    refine wz_lcmp C (by omega) (by omega) dX12_isIn_9 ?_
    refine wz_if_gt C (tgt := 17) (cmpZ_rg _ _) dX12_isIn_10 (by decide) (fun c10 => ?_) (fun c10 => ?_)
    ·
      simp only [cmpZ_lt, cmpZ_gt, cmpZ_le, cmpZ_ge, cmpZ_eq] at c10
      refine wz_iconst C dX12_isIn_17 ?_
      exact wz_zret C (by omega) dX12_isIn_18 (by first | exact qB1 (by omega) | exact qB0 (by omega))
    ·
      simp only [cmpZ_lt, cmpZ_gt, cmpZ_le, cmpZ_ge, cmpZ_eq] at c10
      refine wz_iconst C dX12_isIn_13 ?_
      refine wz_goto C dX12_isIn_14 (tgt := 18) (by decide) ?_
      exact wz_zret C (by omega) dX12_isIn_18 (by first | exact qB1 (by omega) | exact qB0 (by omega))
def rm_X12_truth : Room := { frames := 0, cells := 0, slots := 0, locals := 0 }
set_option maxHeartbeats 4000000 in
set_option maxRecDepth 100000 in
theorem k_X12_truth (G : KG) (hG : Kok G) (I : Ii) (J : Jj) (z : Int) (hz : z = 0 ∨ z = 1) : Ctr G yX12_truth wsX12_truth rm_X12_truth [.int (iZ (z))] (I, J) (QpE I J z) := by
  refine Ctr.ofZ (cc := cX12_truth) (nL := 1) (ret := (some .int)) [some (.int (iZ (z)))] hG (by decide +kernel) rfl (by decide) (by decide) (by simp [lvA, lv_args, Value.category]) ?_
  intro X hX C
  refine wz_iload_n C rfl rfl dX12_truth_0 ?_
  refine wz_if_eq C (tgt := 8) (by omega) dX12_truth_1 (by decide) (fun c1 => ?_) (fun c1 => ?_)
  ·
    refine wz_iconst C dX12_truth_8 ?_
    exact wz_iret C dX12_truth_9 (qE (by omega))
  ·
    refine wz_iconst C dX12_truth_4 ?_
    refine wz_goto C dX12_truth_5 (tgt := 9) (by decide) ?_
    exact wz_iret C dX12_truth_9 (qE (by omega))
theorem in_X12_thrown_X12 : ∀ w ∈ wsX120, w ∈ wsX12_thrown := by decide +kernel
theorem f_X12_thrown_90 : FLk wsX12_thrown RX12 90 12 0 := flk 12 0 rfl tyX12_ok nmX12 in_X12_thrown_X12 (by decide) (by decide +kernel)
def rm_X12_thrown : Room := { frames := 0, cells := 0, slots := 0, locals := 0 }
set_option maxHeartbeats 4000000 in
set_option maxRecDepth 100000 in
theorem k_X12_thrown (G : KG) (hG : Kok G) (I : Ii) (J : Jj)  : Ctr G yX12_thrown wsX12_thrown rm_X12_thrown [.ref (kadr G 0)] (I, J) (QpE I J (I 0 0)) := by
  refine Ctr.ofZ (cc := cX12_thrown) (nL := 1) (ret := (some .int)) [some (.ref (kadr G 0))] hG (by decide +kernel) rfl (by decide) (by decide) (by simp [lvA, lv_args, Value.category]) ?_
  intro X hX C
  refine wz_aload_n C rfl rfl dX12_thrown_0 ?_
  refine wz_getI C rfl f_X12_thrown_90 rfl dX12_thrown_1 ?_
  exact wz_iret C dX12_thrown_4 (qE rfl)
theorem in_X12_isCut_X12 : ∀ w ∈ wsX120, w ∈ wsX12_isCut := by decide +kernel
theorem f_X12_isCut_26 : FLk wsX12_isCut RX12 26 12 15 := flk 12 15 rfl tyX12_ok nmX12 in_X12_isCut_X12 (by decide) (by decide +kernel)
def rm_X12_isCut : Room := { frames := 0, cells := 0, slots := 0, locals := 0 }
set_option maxHeartbeats 4000000 in
set_option maxRecDepth 100000 in
theorem k_X12_isCut (G : KG) (hG : Kok G) (I : Ii) (J : Jj) (e : Nat) (he : e < 40) (hM : MS (I 2)) : Ctr G yX12_isCut wsX12_isCut rm_X12_isCut [.ref (kadr G 0), .int (iZ ((e : Int)))] (I, J) (QpB I J (cutE (I 2) e)) := by
  refine Ctr.ofZ (cc := cX12_isCut) (nL := 2) (ret := (some .boolean)) [some (.ref (kadr G 0)), some (.int (iZ ((e : Int))))] hG (by decide +kernel) rfl (by decide) (by decide) (by simp [lvA, lv_args, Value.category]) ?_
  intro X hX C
  refine wz_aload_n C rfl rfl dX12_isCut_0 ?_
  refine wz_getR C (j := 2) f_X12_isCut_26 rfl dX12_isCut_1 ?_
  refine wz_bipush C (by decide) dX12_isCut_4 ?_
  refine wz_aload_n C rfl rfl dX12_isCut_6 ?_
  refine wz_getR C (j := 2) f_X12_isCut_26 rfl dX12_isCut_7 ?_
  refine wz_bipush C (by decide) dX12_isCut_10 ?_
  refine wz_iload_n C rfl rfl dX12_isCut_12 ?_
  refine wz_iadd C dX12_isCut_13 ?_
  have b14 := ms_a hM e (by omega)
  refine wz_iaload C (110 + e) rfl (by omega) (by omega) (by decide) rfl dX12_isCut_14 ?_
  refine wz_iadd C dX12_isCut_15 ?_
  have b16 := ms_p hM ((I 2 (110 + e)).toNat) (by omega)
  refine wz_iaload C (21 + ((I 2 (110 + e)).toNat)) rfl (by omega) (by omega) (by decide) rfl dX12_isCut_16 ?_
  refine wz_aload_n C rfl rfl dX12_isCut_17 ?_
  refine wz_getR C (j := 2) f_X12_isCut_26 rfl dX12_isCut_18 ?_
  refine wz_bipush C (by decide) dX12_isCut_21 ?_
  refine wz_aload_n C rfl rfl dX12_isCut_23 ?_
  refine wz_getR C (j := 2) f_X12_isCut_26 rfl dX12_isCut_24 ?_
  refine wz_sipush C (by decide) dX12_isCut_27 ?_
  refine wz_iload_n C rfl rfl dX12_isCut_30 ?_
  refine wz_iadd C dX12_isCut_31 ?_
  have b32 := ms_b hM e (by omega)
  refine wz_iaload C (150 + e) rfl (by omega) (by omega) (by decide) rfl dX12_isCut_32 ?_
  refine wz_iadd C dX12_isCut_33 ?_
  have b34 := ms_p hM ((I 2 (150 + e)).toNat) (by omega)
  refine wz_iaload C (21 + ((I 2 (150 + e)).toNat)) rfl (by omega) (by omega) (by decide) rfl dX12_isCut_34 ?_
  refine wz_icmp_eq C (tgt := 42) (by omega) (by omega) dX12_isCut_35 (by decide) (fun c35 => ?_) (fun c35 => ?_)
  ·
    refine wz_iconst C dX12_isCut_42 ?_
    exact wz_zret C (by omega) dX12_isCut_43 (by first | exact qB1 (by unfold cutE; omega) | exact qB0 (by unfold cutE; omega))
  ·
    refine wz_iconst C dX12_isCut_38 ?_
    refine wz_goto C dX12_isCut_39 (tgt := 43) (by decide) ?_
    exact wz_zret C (by omega) dX12_isCut_43 (by first | exact qB1 (by unfold cutE; omega) | exact qB0 (by unfold cutE; omega))
theorem in_X12_allWeight_X12 : ∀ w ∈ wsX120, w ∈ wsX12_allWeight := by decide +kernel
theorem f_X12_allWeight_26 : FLk wsX12_allWeight RX12 26 12 15 := flk 12 15 rfl tyX12_ok nmX12 in_X12_allWeight_X12 (by decide) (by decide +kernel)
def rm_X12_allWeight : Room := { frames := 0, cells := 0, slots := 0, locals := 0 }
set_option maxHeartbeats 4000000 in
set_option maxRecDepth 100000 in
theorem k_X12_allWeight (G : KG) (hG : Kok G) (I : Ii) (J : Jj) (hM : MS (I 2)) : Ctr G yX12_allWeight wsX12_allWeight rm_X12_allWeight [.ref (kadr G 0)] (I, J) (QpE I J (allW (I 2))) := by
  refine Ctr.ofZ (cc := cX12_allWeight) (nL := 3) (ret := (some .int)) [some (.ref (kadr G 0)), none, none] hG (by decide +kernel) rfl (by decide) (by decide) (by simp [lvA, lv_args, Value.category]) ?_
  intro X hX C
  refine wz_iconst C dX12_allWeight_0 ?_
  refine wz_istore_1 C rfl dX12_allWeight_1 ?_
  refine wz_iconst C dX12_allWeight_2 ?_
  refine wz_istore_2 C rfl dX12_allWeight_3 ?_
  have L4 : ∀ (n : Nat) (v : Nat) (t : Int) (hv : v ≤ (I 2 0).toNat) (ht : t = sm (fun v => I 2 (7 + v)) v) (hn : 15 ≤ v + n), Wz G X 3 _ 0 0 4 [some (.ref (kadr G 0)), some (.int (iZ (t))), some (.int (iZ ((v : Int))))] [] I J := by
    intro n
    induction n with
    | zero =>
      intro v t hv ht hn
      exact absurd hn (by omega)
    | succ n ih4 =>
      intro v t hv ht hn
      have b0 := ms_0 hM
      have hs := sm_bound (f := fun v => I 2 (7 + v)) (c := 99) (n := v) (fun k hk => ms_w hM k (by omega))
      refine wz_iload_n C rfl rfl dX12_allWeight_4 ?_
      refine wz_aload_n C rfl rfl dX12_allWeight_5 ?_
      refine wz_getR C (j := 2) f_X12_allWeight_26 rfl dX12_allWeight_6 ?_
      refine wz_iconst C dX12_allWeight_9 ?_
      have b10 := ms_0 hM
      refine wz_iaload C 0 rfl (by omega) (by omega) (by decide) rfl dX12_allWeight_10 ?_
      refine wz_icmp_ge C (tgt := 32) (by omega) (by omega) dX12_allWeight_11 (by decide) (fun c11 => ?_) (fun c11 => ?_)
      ·
        refine wz_iload_n C rfl rfl dX12_allWeight_32 ?_
        exact wz_iret C dX12_allWeight_33 (qE (by rw [ht]; unfold allW; congr 1; omega))
      ·
        refine wz_iload_n C rfl rfl dX12_allWeight_14 ?_
        refine wz_aload_n C rfl rfl dX12_allWeight_15 ?_
        refine wz_getR C (j := 2) f_X12_allWeight_26 rfl dX12_allWeight_16 ?_
        refine wz_bipush C (by decide) dX12_allWeight_19 ?_
        refine wz_iload_n C rfl rfl dX12_allWeight_21 ?_
        refine wz_iadd C dX12_allWeight_22 ?_
        have b23 := ms_w hM v (by omega)
        refine wz_iaload C (7 + v) rfl (by omega) (by omega) (by decide) rfl dX12_allWeight_23 ?_
        refine wz_iadd C dX12_allWeight_24 ?_
        refine wz_istore_1 C rfl dX12_allWeight_25 ?_
        refine wz_iinc_2 C rfl dX12_allWeight_26 ?_
        refine wz_goto C dX12_allWeight_29 (tgt := 4) (by decide) ?_
        exact ih4 (v + 1) _ (by omega) (by rw [ht]; rfl) (by omega)
  exact L4 15 0 0 (by omega) rfl (by omega)
