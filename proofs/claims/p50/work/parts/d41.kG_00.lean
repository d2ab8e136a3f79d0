theorem in_X12_grown8_J4 : ∀ w ∈ wsJ40, w ∈ wsX12_grown := by decide +kernel
theorem in_X12_grown8_X12 : ∀ w ∈ wsX120, w ∈ wsX12_grown := by decide +kernel
theorem f_X12_grown8_7 : FLk wsX12_grown RX12 7 15 1 := flk 15 1 rfl tyX12_ok nmX12 in_X12_grown8_X12 (by decide) (by decide +kernel)
theorem fp_X12_1 : FPk 15 1 .int := fun C9 T9 N9 h => by
  have h : some (RX12, TX12, 13) = some (C9, T9, N9) := h
  cases h
  exact ⟨rfl, by decide +kernel⟩
theorem f_X12_grown8_79 : FLk wsX12_grown RX12 79 15 2 := flk 15 2 rfl tyX12_ok nmX12 in_X12_grown8_X12 (by decide) (by decide +kernel)
theorem fp_X12_2 : FPk 15 2 .int := fun C9 T9 N9 h => by
  have h : some (RX12, TX12, 13) = some (C9, T9, N9) := h
  cases h
  exact ⟨rfl, by decide +kernel⟩
theorem f_X12_grown8_84 : FLk wsX12_grown RX12 84 15 3 := flk 15 3 rfl tyX12_ok nmX12 in_X12_grown8_X12 (by decide) (by decide +kernel)
theorem f_X12_grown8_87 : FLk wsX12_grown RX12 87 15 0 := flk 15 0 rfl tyX12_ok nmX12 in_X12_grown8_X12 (by decide) (by decide +kernel)
theorem fp_X12_0 : FPk 15 0 .int := fun C9 T9 N9 h => by
  have h : some (RX12, TX12, 13) = some (C9, T9, N9) := h
  cases h
  exact ⟨rfl, by decide +kernel⟩
theorem f_X12_grown8_13 : FLk wsX12_grown RX12 13 15 5 := flk 15 5 rfl tyX12_ok nmX12 in_X12_grown8_X12 (by decide) (by decide +kernel)
theorem f_X12_grown8_28 : FLk wsX12_grown RX12 28 15 9 := flk 15 9 rfl tyX12_ok nmX12 in_X12_grown8_X12 (by decide) (by decide +kernel)
theorem f_X12_grown8_100 : FLk wsX12_grown RX12 100 15 4 := flk 15 4 rfl tyX12_ok nmX12 in_X12_grown8_X12 (by decide) (by decide +kernel)
theorem f_X12_grown8_20 : FLk wsX12_grown RX12 20 15 7 := flk 15 7 rfl tyX12_ok nmX12 in_X12_grown8_X12 (by decide) (by decide +kernel)
theorem f_X12_grown8_23 : FLk wsX12_grown RX12 23 15 8 := flk 15 8 rfl tyX12_ok nmX12 in_X12_grown8_X12 (by decide) (by decide +kernel)
theorem fp_X12_4 : FPk 15 4 .int := fun C9 T9 N9 h => by
  have h : some (RX12, TX12, 13) = some (C9, T9, N9) := h
  cases h
  exact ⟨rfl, by decide +kernel⟩
theorem f_X12_grown8_34 : FLk wsX12_grown RX12 34 15 10 := flk 15 10 rfl tyX12_ok nmX12 in_X12_grown8_X12 (by decide) (by decide +kernel)
theorem f_X12_grown8_43 : FLk wsX12_grown RX12 43 15 12 := flk 15 12 rfl tyX12_ok nmX12 in_X12_grown8_X12 (by decide) (by decide +kernel)
theorem fp_X12_12 : FPk 15 12 (.object "java/lang/String") := fun C9 T9 N9 h => by
  have h : some (RX12, TX12, 13) = some (C9, T9, N9) := h
  cases h
  exact ⟨rfl, by decide +kernel⟩
def rm_X12_grown8 : Room := { frames := 7, cells := 777, slots := 1046600, locals := 228 }
set_option maxHeartbeats 4000000 in
set_option maxRecDepth 100000 in
theorem bk_X12_grown8_223 (G : KG) (hG : Kok G) (hW : KWx G) {sL : Nat} {xs : Nat → Int} (hT : KScr G sL xs) (X : KX) (hX : KR X = rm_X12_grown8) (C : Fr G X cX12_grown 7 yX12_grown.cls (some (.object "ShareGraphLaw$World")) wsX12_grown) (aH bH : Nat) (haH : 612 ≤ aH ∧ 835854 ≤ bH) (Q : Nat → Ii → Jj → Prop) (r142 : Nat → Int → Ii → Jj → Prop) (w142 : ∀ (p2 : Nat) (l3 : Int) (I : Ii) (J : Jj), r142 p2 l3 I J → Wz G X 7 (QsU G X (QsK G Q)) aH bH 142 [some (.ref (kadr G 998)), some (.ref (kadr G 1000)), some (.ref (kadr G p2)), some (.int (iZ l3)), none, none, none] [] I J) (p2 : Nat) (l3 : Int) (u0 : Nat) (u1 : Nat) (I : Ii) (J : Jj) (h : B_X12_grown8_223 sL xs Q r142 p2 l3 u0 u1 I J) : Wz G X 7 (QsU G X (QsK G Q)) (aH + 1) (bH + 2000) 223 [some (.ref (kadr G 998)), some (.ref (kadr G 1000)), some (.ref (kadr G p2)), some (.int (iZ l3)), none, none, none] [.ref (kadr G u1), .ref (kadr G u0)] I J := by
  unfold B_X12_grown8_223 at h
  obtain ⟨g105, h⟩ := h
  refine Wz.know (fun hs9 hl9 => ?_)
  refine wm_callV C (S := (I, J)) (o := u0) (As := [.ref (kadr G u1)]) (st := []) (a' := aH + 0) (b' := bH + 0) (sK6 hs9 hl9 g105) rfl (k_J4_append_15ec4 G hG hW u0 u1 I J _ h) 1 gX12_grown_J4_append_15ec4 rfl (by decide +kernel) (by rw [hX]; exact ⟨Nat.le_of_ble_eq_true rfl, Nat.le_of_ble_eq_true rfl⟩) rfl (Nat.le_of_ble_eq_true rfl) (by show 1 + (aH + 0) = aH + 1; omega) (by show 2000 + (bH + 0) = bH + 2000; omega) rfl dX12_grown_223 (kk_sK (fun v104 I104 J104 h => ?_))
  refine wz_pop C rfl dX12_grown_226 ?_
  refine wz_iinc_3 C rfl dX12_grown_227 ?_
  refine wz_goto C dX12_grown_230 (tgt := 142) (by decide) ?_
  exact Wz.less (a0 := aH) (b0 := bH) (by omega) (by omega) (w142 p2 (l3 + 1) I104 J104 h)
set_option maxHeartbeats 4000000 in
set_option maxRecDepth 100000 in
theorem bk_X12_grown8_195 (G : KG) (hG : Kok G) (hW : KWx G) {sL : Nat} {xs : Nat → Int} (hT : KScr G sL xs) (X : KX) (hX : KR X = rm_X12_grown8) (C : Fr G X cX12_grown 7 yX12_grown.cls (some (.object "ShareGraphLaw$World")) wsX12_grown) (aH bH : Nat) (haH : 612 ≤ aH ∧ 835854 ≤ bH) (Q : Nat → Ii → Jj → Prop) (r142 : Nat → Int → Ii → Jj → Prop) (w142 : ∀ (p2 : Nat) (l3 : Int) (I : Ii) (J : Jj), r142 p2 l3 I J → Wz G X 7 (QsU G X (QsK G Q)) aH bH 142 [some (.ref (kadr G 998)), some (.ref (kadr G 1000)), some (.ref (kadr G p2)), some (.int (iZ l3)), none, none, none] [] I J) (p2 : Nat) (l3 : Int) (u0 : Nat) (t2 : Int) (t3 : Int) (t5 : Int) (t6 : Int) (I : Ii) (J : Jj) (h : B_X12_grown8_195 sL xs Q r142 p2 l3 u0 t2 t3 t5 t6 I J) : Wz G X 7 (QsU G X (QsK G Q)) (aH + 2) (bH + 4000) 195 [some (.ref (kadr G 998)), some (.ref (kadr G 1000)), some (.ref (kadr G p2)), some (.int (iZ l3)), none, none, none] [.int (iZ t6), .int (iZ t5), .ref (kadr G 998), .int (iZ t3), .int (iZ t2), .ref (kadr G 1001), .ref (kadr G u0)] I J := by
  unfold B_X12_grown8_195 at h
  refine wm_callSN C (As := [.ref (kadr G 998), .int (iZ t5), .int (iZ t6)]) (st := [.int (iZ t3), .int (iZ t2), .ref (kadr G 1001), .ref (kadr G u0)]) (a' := aH + 2) (b' := bH + 4000) (host := "ShareGraphLaw") (k_L_pick G hG hW hT t5 t6 I J _ h) 3 gX12_grown_L_pick_n64 (by decide +kernel) (by decide +kernel) (by decide +kernel) rfl (by decide +kernel) (by rw [hX]; exact ⟨Nat.le_of_ble_eq_true rfl, Nat.le_of_ble_eq_true rfl⟩) rfl (Nat.le_of_ble_eq_true rfl) (by show 0 + (aH + 2) = aH + 2; omega) (by show 0 + (bH + 4000) = bH + 4000; omega) rfl dX12_grown_195 (kk_sI (fun v89 I89 J89 h => ?_))
  refine wz_iadd C dX12_grown_198 ?_
  refine wy_dup_x2 C rfl rfl rfl dX12_grown_199 ?_
  obtain ⟨g90, h⟩ := h
  refine wd_iastore C t2.toNat (n := 14) (sRw rfl (by decide)) (zN g90) (zL g90) (by decide) dX12_grown_200 (fun I91 e => ?_)
  replace h := h I91 e
  obtain ⟨g93, h⟩ := h
  refine Wz.know (fun hs9 hl9 => ?_)
  refine wm_callV C (S := (I91, J89)) (o := u0) (As := [.int (iZ (t3 + v89))]) (st := []) (a' := aH + 1) (b' := bH + 2000) (sK6 hs9 hl9 g93) rfl (k_J4_append_bf812 G hG hW u0 (t3 + v89) I91 J89 _ h) 1 gX12_grown_J4_append_bf812 rfl (by decide +kernel) (by rw [hX]; exact ⟨Nat.le_of_ble_eq_true rfl, Nat.le_of_ble_eq_true rfl⟩) rfl (Nat.le_of_ble_eq_true rfl) (by show 1 + (aH + 1) = aH + 2; omega) (by show 2000 + (bH + 2000) = bH + 4000; omega) rfl dX12_grown_201 (kk_sK (fun v92 I92 J92 h => ?_))
  refine wz_aload_n C rfl rfl dX12_grown_204 ?_
  refine wz_bipush C (by decide) dX12_grown_205 ?_
  refine wz_iload_n C rfl rfl dX12_grown_207 ?_
  refine wz_iadd C dX12_grown_208 ?_
  refine wz_iconst C dX12_grown_209 ?_
  refine wm_callSN C (As := [.ref (kadr G 998), .int (iZ ((40 : Int) + l3)), .int (iZ 3)]) (st := [.ref (kadr G v92)]) (a' := aH + 1) (b' := bH + 2000) (host := "ShareGraphLaw") (k_L_pick G hG hW hT ((40 : Int) + l3) 3 I92 J92 _ h) 3 gX12_grown_L_pick_n64 (by decide +kernel) (by decide +kernel) (by decide +kernel) rfl (by decide +kernel) (by rw [hX]; exact ⟨Nat.le_of_ble_eq_true rfl, Nat.le_of_ble_eq_true rfl⟩) rfl (Nat.le_of_ble_eq_true rfl) (by show 0 + (aH + 1) = aH + 1; omega) (by show 0 + (bH + 2000) = bH + 2000; omega) rfl dX12_grown_210 (kk_sI (fun v94 I94 J94 h => ?_))
  obtain ⟨g95, h⟩ := h
  refine wz_if_ne C (tgt := 221) g95 dX12_grown_213 (by decide) (fun c => ?_) (fun c => ?_)
  · replace h := h.1 c
    refine wy_ldcS C hW (tx := ";") (q := 902) (by decide +kernel) dX12_grown_221 ?_
    exact Wz.less (a0 := aH + 1) (b0 := bH + 2000) (by omega) (by omega) (bk_X12_grown8_223 G hG hW hT X hX C aH bH haH Q r142 w142 p2 l3 v92 902 I94 J94 h)
  · replace h := h.2 c
    refine wy_ldcS C hW (tx := " ;\n") (q := 912) (by decide +kernel) dX12_grown_216 ?_
    refine wz_goto C dX12_grown_218 (tgt := 223) (by decide) ?_
    exact Wz.less (a0 := aH + 1) (b0 := bH + 2000) (by omega) (by omega) (bk_X12_grown8_223 G hG hW hT X hX C aH bH haH Q r142 w142 p2 l3 v92 912 I94 J94 h)
set_option maxHeartbeats 4000000 in
set_option maxRecDepth 100000 in
theorem lk_X12_grown8_435 (G : KG) (hG : Kok G) (hW : KWx G) {sL : Nat} {xs : Nat → Int} (hT : KScr G sL xs) (X : KX) (hX : KR X = rm_X12_grown8) (C : Fr G X cX12_grown 7 yX12_grown.cls (some (.object "ShareGraphLaw$World")) wsX12_grown) (Q : Nat → Ii → Jj → Prop) : ∀ (n : Nat) (p2 : Nat) (p3 : Nat) (l4 : Int) (I : Ii) (J : Jj), L_X12_grown8_435 sL xs Q n p2 p3 l4 I J → Wz G X 7 (QsU G X (QsK G Q)) 3 2304 435 [none, some (.ref (kadr G 1000)), some (.ref (kadr G p2)), some (.ref (kadr G p3)), some (.int (iZ l4)), none, none] [] I J := by
  intro n
  induction n with
  | zero => intro p2 p3 l4 I J h; exact False.elim h
  | succ n w435 =>
    intro p2 p3 l4 I J h
    have h : Lb_X12_grown8_435 sL xs Q (L_X12_grown8_435 sL xs Q n) p2 p3 l4 I J := h
    unfold Lb_X12_grown8_435 at h
    generalize L_X12_grown8_435 sL xs Q n = r435 at h w435
    refine wz_iload C rfl dX12_grown_435 ?_
    refine wz_aload_n C rfl rfl dX12_grown_437 ?_
    refine wz_getI C rfl f_X12_grown8_87 (sOw rfl (by decide)) dX12_grown_438 ?_
    obtain ⟨g96, h⟩ := h
    obtain ⟨g97, h⟩ := h
    refine wz_icmp_ge C (tgt := 458) g96 g97 dX12_grown_441 (by decide) (fun c => ?_) (fun c => ?_)
    · replace h := h.1 c
      refine wz_aload_n C rfl rfl dX12_grown_458 ?_
      refine wz_getR C (j := 1020) f_X12_grown8_34 (sOw rfl (by decide)) (by decide) dX12_grown_459 ?_
      refine wz_aload_n C rfl rfl dX12_grown_462 ?_
      refine wm_callF C (o := 1020) (As := [.ref (kadr G p3)]) (st := []) (a' := 2) (b' := 2004) (spAL (Or.inl rfl)) rfl hW.fadd (k_Jx4a65c_add_9ea2d G hG hW 1020 p3 I J (Or.inl rfl) _ h) 1 gX12_grown_Jx4a65c_add_9ea2d_f105Jx4a65c rfl (by decide +kernel) (by rw [hX]; exact ⟨Nat.le_of_ble_eq_true rfl, Nat.le_of_ble_eq_true rfl⟩) rfl (Nat.le_of_ble_eq_true rfl) (by show 1 + (2) = 3; omega) (by show 300 + (2004) = 2304; omega) rfl dX12_grown_463 (kk_sB (fun v98 I98 J98 hb98 h => ?_))
      refine wz_pop C rfl dX12_grown_468 ?_
      refine wz_aload_n C rfl rfl dX12_grown_469 ?_
      refine wz_aload_n C rfl rfl dX12_grown_470 ?_
      obtain ⟨g100, h⟩ := h
      refine Wz.know (fun hs9 hl9 => ?_)
      refine wm_callV C (S := (I98, J98)) (o := p2) (As := []) (st := [.ref (kadr G 1000)]) (a' := 0) (b' := 0) (sK6 hs9 hl9 g100) rfl (k_J4_toString_0e30d G hG hW p2 I98 J98 _ h) 0 gX12_grown_J4_toString_0e30d rfl (by decide +kernel) (by rw [hX]; exact ⟨Nat.le_of_ble_eq_true rfl, Nat.le_of_ble_eq_true rfl⟩) rfl (Nat.le_of_ble_eq_true rfl) (by show 2 + (0) = 2; omega) (by show 2004 + (0) = 2004; omega) rfl dX12_grown_471 (kk_sK (fun v99 I99 J99 h => ?_))
      refine wy_putT C f_X12_grown8_43 fp_X12_12 dX12_grown_474 (fun I101 e => ?_)
      replace h := h I101 e
      refine wz_aload_n C rfl rfl dX12_grown_477 ?_
      exact wy_aret C (Or.inl ⟨_, rfl⟩) dX12_grown_478 ⟨_, rfl, h⟩
    · replace h := h.2 c
      refine wz_aload_n C rfl rfl dX12_grown_444 ?_
      refine wz_iload C rfl dX12_grown_445 ?_
      refine wz_iconst C dX12_grown_447 ?_
      refine wz_iload C rfl dX12_grown_448 ?_
      refine wd_ishl C dX12_grown_450 ?_
      obtain ⟨g102, h⟩ := h
      refine wy_iast C g102 dX12_grown_451 (fun I103 e => ?_)
      replace h := h I103 e
      refine wz_iinc_4 C rfl dX12_grown_452 ?_
      refine wz_goto C dX12_grown_455 (tgt := 435) (by decide) ?_
      exact Wz.less (a0 := 3) (b0 := 2304) (by omega) (by omega) (w435 p2 p3 (l4 + 1) I103 J h)
set_option maxHeartbeats 4000000 in
set_option maxRecDepth 100000 in
theorem lk_X12_grown8_235 (G : KG) (hG : Kok G) (hW : KWx G) {sL : Nat} {xs : Nat → Int} (hT : KScr G sL xs) (X : KX) (hX : KR X = rm_X12_grown8) (C : Fr G X cX12_grown 7 yX12_grown.cls (some (.object "ShareGraphLaw$World")) wsX12_grown) (Q : Nat → Ii → Jj → Prop) : ∀ (n : Nat) (p2 : Nat) (l3 : Int) (I : Ii) (J : Jj), L_X12_grown8_235 sL xs Q n p2 l3 I J → Wz G X 7 (QsU G X (QsK G Q)) (n * 19 + 4) (n * 26048 + 2318) 235 [some (.ref (kadr G 998)), some (.ref (kadr G 1000)), some (.ref (kadr G p2)), some (.int (iZ l3)), none, none, none] [] I J := by
  intro n
  induction n with
  | zero => intro p2 l3 I J h; exact False.elim h
  | succ n w235 =>
    intro p2 l3 I J h
    have h : Lb_X12_grown8_235 sL xs Q (L_X12_grown8_235 sL xs Q n) p2 l3 I J := h
    unfold Lb_X12_grown8_235 at h
    generalize L_X12_grown8_235 sL xs Q n = r235 at h w235
    refine Wz.less (a0 := n * 19 + 4 + 19) (b0 := n * 26048 + 2318 + 26048) (by omega) (by omega) ?_
    have haH : 4 ≤ n * 19 + 4 ∧ 2318 ≤ n * 26048 + 2318 := by omega
    generalize n * 19 + 4 = aH at w235 haH ⊢
    generalize n * 26048 + 2318 = bH at w235 haH ⊢
    refine wz_iload_n C rfl rfl dX12_grown_235 ?_
    refine wz_iconst C dX12_grown_236 ?_
    refine wz_aload_n C rfl rfl dX12_grown_237 ?_
    refine wz_getI C rfl f_X12_grown8_87 (sOw rfl (by decide)) dX12_grown_238 ?_
    refine wz_imul C dX12_grown_241 ?_
    obtain ⟨g48, h⟩ := h
    obtain ⟨g49, h⟩ := h
    refine wz_icmp_ge C (tgt := 425) g48 g49 dX12_grown_242 (by decide) (fun c => ?_) (fun c => ?_)
    · replace h := h.1 c
      refine wz_aload_n C rfl rfl dX12_grown_425 ?_
      refine wz_getI C rfl f_X12_grown8_87 (sOw rfl (by decide)) dX12_grown_426 ?_
      obtain ⟨g50, h⟩ := h
      refine wy_newI C 14 g50 (by decide) (by decide +kernel) dX12_grown_429 (a' := aH + 18) (b' := bH + 26034) (by omega) (by omega) (fun I51 e => ?_)
      replace h := h I51 e
      replace h := h _ rfl
      refine wz_astore_3 C rfl dX12_grown_431 ?_
      refine wz_iconst C dX12_grown_432 ?_
      refine wz_istore_4 C rfl dX12_grown_433 ?_
      obtain ⟨n, h⟩ := h
      exact Wz.less (a0 := 3) (b0 := 2304) (by omega) (by omega) (Wz.drop (lk_X12_grown8_435 G hG hW hT X hX C Q n p2 ((I 999 0).toNat) 0 I51 J h) (And.intro rfl (And.intro rfl (And.intro rfl (And.intro rfl trivial)))))
    · replace h := h.2 c
      refine wz_aload_n C rfl rfl dX12_grown_245 ?_
      refine wz_bipush C (by decide) dX12_grown_246 ?_
      refine wz_iload_n C rfl rfl dX12_grown_248 ?_
      refine wz_iadd C dX12_grown_249 ?_
      refine wz_aload_n C rfl rfl dX12_grown_250 ?_
      refine wz_getI C rfl f_X12_grown8_87 (sOw rfl (by decide)) dX12_grown_251 ?_
      refine wm_callSN C (As := [.ref (kadr G 998), .int (iZ ((60 : Int) + l3)), .int (iZ (I 1000 0))]) (st := []) (a' := aH + 19) (b' := bH + 26048) (host := "ShareGraphLaw") (k_L_pick G hG hW hT ((60 : Int) + l3) (I 1000 0) I J _ h) 3 gX12_grown_L_pick_n64 (by decide +kernel) (by decide +kernel) (by decide +kernel) rfl (by decide +kernel) (by rw [hX]; exact ⟨Nat.le_of_ble_eq_true rfl, Nat.le_of_ble_eq_true rfl⟩) rfl (Nat.le_of_ble_eq_true rfl) (by show 0 + (aH + 19) = aH + 19; omega) (by show 0 + (bH + 26048) = bH + 26048; omega) rfl dX12_grown_254 (kk_sI (fun v53 I53 J53 h => ?_))
      refine wz_istore_4 C rfl dX12_grown_257 ?_
      refine wz_aload_n C rfl rfl dX12_grown_259 ?_
      refine wz_bipush C (by decide) dX12_grown_260 ?_
      refine wz_iload_n C rfl rfl dX12_grown_262 ?_
      refine wz_iadd C dX12_grown_263 ?_
      refine wz_aload_n C rfl rfl dX12_grown_264 ?_
      refine wz_getI C rfl f_X12_grown8_87 (sOw rfl (by decide)) dX12_grown_265 ?_
      refine wm_callSN C (As := [.ref (kadr G 998), .int (iZ ((110 : Int) + l3)), .int (iZ (I53 1000 0))]) (st := []) (a' := aH + 19) (b' := bH + 26048) (host := "ShareGraphLaw") (k_L_pick G hG hW hT ((110 : Int) + l3) (I53 1000 0) I53 J53 _ h) 3 gX12_grown_L_pick_n64 (by decide +kernel) (by decide +kernel) (by decide +kernel) rfl (by decide +kernel) (by rw [hX]; exact ⟨Nat.le_of_ble_eq_true rfl, Nat.le_of_ble_eq_true rfl⟩) rfl (Nat.le_of_ble_eq_true rfl) (by show 0 + (aH + 19) = aH + 19; omega) (by show 0 + (bH + 26048) = bH + 26048; omega) rfl dX12_grown_268 (kk_sI (fun v54 I54 J54 h => ?_))
      refine wz_istore_5 C rfl dX12_grown_271 ?_
      refine wz_iload C rfl dX12_grown_273 ?_
      refine wz_iload C rfl dX12_grown_275 ?_
      obtain ⟨g55, h⟩ := h
      obtain ⟨g56, h⟩ := h
      refine wz_icmp_eq C (tgt := 419) g55 g56 dX12_grown_277 (by decide) (fun c => ?_) (fun c => ?_)
      · replace h := h.1 c
        refine wz_iinc_3 C rfl dX12_grown_419 ?_
        refine wz_goto C dX12_grown_422 (tgt := 235) (by decide) ?_
        exact Wz.less (a0 := aH) (b0 := bH) (by omega) (by omega) (Wz.drop (w235 p2 (l3 + 1) I54 J54 h) (And.intro rfl (And.intro rfl (And.intro rfl (And.intro rfl trivial)))))
      · replace h := h.2 c
        refine wz_aload_n C rfl rfl dX12_grown_280 ?_
        refine wz_getR C (j := 1005) f_X12_grown8_28 (sOw rfl (by decide)) (by decide) dX12_grown_281 ?_
        refine wz_iload C rfl dX12_grown_284 ?_
        obtain ⟨g57, h⟩ := h
        refine wy_aald6 C g57 dX12_grown_286 ?_
        refine wz_iload C rfl dX12_grown_287 ?_
        obtain ⟨g58, h⟩ := h
        refine wz_iaload C v54.toNat (n := 14) (sRw_tab g57) (zN g58) (zL g58) (by decide) rfl dX12_grown_289 ?_
        obtain ⟨g59, h⟩ := h
        refine wz_if_gt C (tgt := 419) g59 dX12_grown_290 (by decide) (fun c => ?_) (fun c => ?_)
        · replace h := h.1 c
          refine wz_iinc_3 C rfl dX12_grown_419 ?_
          refine wz_goto C dX12_grown_422 (tgt := 235) (by decide) ?_
          exact Wz.less (a0 := aH) (b0 := bH) (by omega) (by omega) (Wz.drop (w235 p2 (l3 + 1) I54 J54 h) (And.intro rfl (And.intro rfl (And.intro rfl (And.intro rfl trivial)))))
        · replace h := h.2 c
          refine wz_aload_n C rfl rfl dX12_grown_293 ?_
          refine wz_getI C rfl f_X12_grown8_100 (sOw rfl (by decide)) dX12_grown_294 ?_
          refine wz_bipush C (by decide) dX12_grown_297 ?_
          obtain ⟨g60, h⟩ := h
          refine wz_icmp_ne C (tgt := 305) g60 (by decide) dX12_grown_299 (by decide) (fun c => ?_) (fun c => ?_)
          · replace h := h.1 c
            refine wz_iconst C dX12_grown_305 ?_
            refine wz_aload_n C rfl rfl dX12_grown_306 ?_
            refine wz_sipush C (by decide) dX12_grown_307 ?_
            refine wz_iload_n C rfl rfl dX12_grown_310 ?_
            refine wz_iadd C dX12_grown_311 ?_
            refine wz_bipush C (by decide) dX12_grown_312 ?_
            refine wm_callSN C (As := [.ref (kadr G 998), .int (iZ ((160 : Int) + l3)), .int (iZ 9)]) (st := [.int (iZ 1)]) (a' := aH + 19) (b' := bH + 26048) (host := "ShareGraphLaw") (k_L_pick G hG hW hT ((160 : Int) + l3) 9 I54 J54 _ h) 3 gX12_grown_L_pick_n64 (by decide +kernel) (by decide +kernel) (by decide +kernel) rfl (by decide +kernel) (by rw [hX]; exact ⟨Nat.le_of_ble_eq_true rfl, Nat.le_of_ble_eq_true rfl⟩) rfl (Nat.le_of_ble_eq_true rfl) (by show 0 + (aH + 19) = aH + 19; omega) (by show 0 + (bH + 26048) = bH + 26048; omega) rfl dX12_grown_314 (kk_sI (fun v61 I61 J61 h => ?_))
            refine wz_iadd C dX12_grown_317 ?_
            refine wz_istore_6 C rfl dX12_grown_318 ?_
            refine wz_aload_n C rfl rfl dX12_grown_320 ?_
            refine wz_getR C (j := 1005) f_X12_grown8_28 (sOw rfl (by decide)) (by decide) dX12_grown_321 ?_
            refine wz_iload C rfl dX12_grown_324 ?_
            obtain ⟨g62, h⟩ := h
            refine wy_aald6 C g62 dX12_grown_326 ?_
            refine wz_iload C rfl dX12_grown_327 ?_
            refine wz_iload C rfl dX12_grown_329 ?_
            obtain ⟨g63, h⟩ := h
            refine wd_iastore C v54.toNat (n := 14) (sRw_tab g62) (zN g63) (zL g63) (by decide) dX12_grown_331 (fun I64 e => ?_)
            replace h := h I64 e
            refine wz_aload_n C rfl rfl dX12_grown_332 ?_
            refine wz_getR C (j := 1005) f_X12_grown8_28 (sOw rfl (by decide)) (by decide) dX12_grown_333 ?_
            refine wz_iload C rfl dX12_grown_336 ?_
            obtain ⟨g65, h⟩ := h
            refine wy_aald6 C g65 dX12_grown_338 ?_
            refine wz_iload C rfl dX12_grown_339 ?_
            refine wz_iload C rfl dX12_grown_341 ?_
            obtain ⟨g66, h⟩ := h
            refine wd_iastore C v53.toNat (n := 14) (sRw_tab g65) (zN g66) (zL g66) (by decide) dX12_grown_343 (fun I67 e => ?_)
            replace h := h I67 e
            refine wz_aload_n C rfl rfl dX12_grown_344 ?_
            refine wz_getR C (j := 1003) f_X12_grown8_20 (sOw rfl (by decide)) (by decide) dX12_grown_345 ?_
            refine wz_aload_n C rfl rfl dX12_grown_348 ?_
            refine wz_getI C rfl f_X12_grown8_100 (sOw rfl (by decide)) dX12_grown_349 ?_
            refine wz_iload C rfl dX12_grown_352 ?_
            obtain ⟨g68, h⟩ := h
            refine wd_iastore C ((I67 1000 4).toNat) (n := 40) (sRw rfl (by decide)) (zN g68) (zL g68) (by decide) dX12_grown_354 (fun I69 e => ?_)
            replace h := h I69 e
            refine wz_aload_n C rfl rfl dX12_grown_355 ?_
            refine wz_getR C (j := 1004) f_X12_grown8_23 (sOw rfl (by decide)) (by decide) dX12_grown_356 ?_
            refine wz_aload_n C rfl rfl dX12_grown_359 ?_
            refine wz_getI C rfl f_X12_grown8_100 (sOw rfl (by decide)) dX12_grown_360 ?_
            refine wz_iload C rfl dX12_grown_363 ?_
            obtain ⟨g70, h⟩ := h
            refine wd_iastore C ((I69 1000 4).toNat) (n := 40) (sRw rfl (by decide)) (zN g70) (zL g70) (by decide) dX12_grown_365 (fun I71 e => ?_)
            replace h := h I71 e
            refine wz_aload_n C rfl rfl dX12_grown_366 ?_
            refine wz_dup C rfl dX12_grown_367 ?_
            refine wz_getI C rfl f_X12_grown8_100 (sOw rfl (by decide)) dX12_grown_368 ?_
            refine wz_iconst C dX12_grown_371 ?_
            refine wz_iadd C dX12_grown_372 ?_
            refine wd_putI C f_X12_grown8_100 fp_X12_4 (sOw rfl (by decide)) dX12_grown_373 (fun I72 e => ?_)
            replace h := h I72 e
            refine wz_aload_n C rfl rfl dX12_grown_376 ?_
            refine wy_ldcS C hW (tx := "edge ") (q := 914) (by decide +kernel) dX12_grown_377 ?_
            obtain ⟨g74, h⟩ := h
            refine Wz.know (fun hs9 hl9 => ?_)
            refine wm_callV C (S := (I72, J61)) (o := p2) (As := [.ref (kadr G 914)]) (st := []) (a' := aH + 18) (b' := bH + 24048) (sK6 hs9 hl9 g74) rfl (k_J4_append_15ec4 G hG hW p2 914 I72 J61 _ h) 1 gX12_grown_J4_append_15ec4 rfl (by decide +kernel) (by rw [hX]; exact ⟨Nat.le_of_ble_eq_true rfl, Nat.le_of_ble_eq_true rfl⟩) rfl (Nat.le_of_ble_eq_true rfl) (by show 1 + (aH + 18) = aH + 19; omega) (by show 2000 + (bH + 24048) = bH + 26048; omega) rfl dX12_grown_379 (kk_sK (fun v73 I73 J73 h => ?_))
            refine wz_iload C rfl dX12_grown_382 ?_
            refine wm_callSo C (As := [.int (iZ v53)]) (st := [.ref (kadr G v73)]) (a' := aH + 12) (b' := bH + 18024) (k_X12_name G hG hW v53 I73 J73 _ h) 1 (goodIn_wsS gX12_grown_X12_name) (by decide +kernel) (by decide +kernel) (by decide +kernel) rfl (by decide +kernel) (by rw [hX]; exact ⟨Nat.le_of_ble_eq_true rfl, Nat.le_of_ble_eq_true rfl⟩) rfl (Nat.le_of_ble_eq_true rfl) (by show 6 + (aH + 12) = aH + 18; omega) (by show 6024 + (bH + 18024) = bH + 24048; omega) rfl dX12_grown_384 (kk_sK (fun v75 I75 J75 h => ?_))
            obtain ⟨g77, h⟩ := h
            refine Wz.know (fun hs9 hl9 => ?_)
            refine wm_callV C (S := (I75, J75)) (o := v73) (As := [.ref (kadr G v75)]) (st := []) (a' := aH + 11) (b' := bH + 16024) (sK6 hs9 hl9 g77) rfl (k_J4_append_15ec4 G hG hW v73 v75 I75 J75 _ h) 1 gX12_grown_J4_append_15ec4 rfl (by decide +kernel) (by rw [hX]; exact ⟨Nat.le_of_ble_eq_true rfl, Nat.le_of_ble_eq_true rfl⟩) rfl (Nat.le_of_ble_eq_true rfl) (by show 1 + (aH + 11) = aH + 12; omega) (by show 2000 + (bH + 16024) = bH + 18024; omega) rfl dX12_grown_387 (kk_sK (fun v76 I76 J76 h => ?_))
            refine wy_ldcS C hW (tx := " ") (q := 910) (by decide +kernel) dX12_grown_390 ?_
            obtain ⟨g79, h⟩ := h
            refine Wz.know (fun hs9 hl9 => ?_)
            refine wm_callV C (S := (I76, J76)) (o := v76) (As := [.ref (kadr G 910)]) (st := []) (a' := aH + 10) (b' := bH + 14024) (sK6 hs9 hl9 g79) rfl (k_J4_append_15ec4 G hG hW v76 910 I76 J76 _ h) 1 gX12_grown_J4_append_15ec4 rfl (by decide +kernel) (by rw [hX]; exact ⟨Nat.le_of_ble_eq_true rfl, Nat.le_of_ble_eq_true rfl⟩) rfl (Nat.le_of_ble_eq_true rfl) (by show 1 + (aH + 10) = aH + 11; omega) (by show 2000 + (bH + 14024) = bH + 16024; omega) rfl dX12_grown_392 (kk_sK (fun v78 I78 J78 h => ?_))
            refine wz_iload C rfl dX12_grown_395 ?_
            refine wm_callSo C (As := [.int (iZ v54)]) (st := [.ref (kadr G v78)]) (a' := aH + 4) (b' := bH + 8000) (k_X12_name G hG hW v54 I78 J78 _ h) 1 (goodIn_wsS gX12_grown_X12_name) (by decide +kernel) (by decide +kernel) (by decide +kernel) rfl (by decide +kernel) (by rw [hX]; exact ⟨Nat.le_of_ble_eq_true rfl, Nat.le_of_ble_eq_true rfl⟩) rfl (Nat.le_of_ble_eq_true rfl) (by show 6 + (aH + 4) = aH + 10; omega) (by show 6024 + (bH + 8000) = bH + 14024; omega) rfl dX12_grown_397 (kk_sK (fun v80 I80 J80 h => ?_))
            obtain ⟨g82, h⟩ := h
            refine Wz.know (fun hs9 hl9 => ?_)
            refine wm_callV C (S := (I80, J80)) (o := v78) (As := [.ref (kadr G v80)]) (st := []) (a' := aH + 3) (b' := bH + 6000) (sK6 hs9 hl9 g82) rfl (k_J4_append_15ec4 G hG hW v78 v80 I80 J80 _ h) 1 gX12_grown_J4_append_15ec4 rfl (by decide +kernel) (by rw [hX]; exact ⟨Nat.le_of_ble_eq_true rfl, Nat.le_of_ble_eq_true rfl⟩) rfl (Nat.le_of_ble_eq_true rfl) (by show 1 + (aH + 3) = aH + 4; omega) (by show 2000 + (bH + 6000) = bH + 8000; omega) rfl dX12_grown_400 (kk_sK (fun v81 I81 J81 h => ?_))
            refine wy_ldcS C hW (tx := " ") (q := 910) (by decide +kernel) dX12_grown_403 ?_
            obtain ⟨g84, h⟩ := h
            refine Wz.know (fun hs9 hl9 => ?_)
            refine wm_callV C (S := (I81, J81)) (o := v81) (As := [.ref (kadr G 910)]) (st := []) (a' := aH + 2) (b' := bH + 4000) (sK6 hs9 hl9 g84) rfl (k_J4_append_15ec4 G hG hW v81 910 I81 J81 _ h) 1 gX12_grown_J4_append_15ec4 rfl (by decide +kernel) (by rw [hX]; exact ⟨Nat.le_of_ble_eq_true rfl, Nat.le_of_ble_eq_true rfl⟩) rfl (Nat.le_of_ble_eq_true rfl) (by show 1 + (aH + 2) = aH + 3; omega) (by show 2000 + (bH + 4000) = bH + 6000; omega) rfl dX12_grown_405 (kk_sK (fun v83 I83 J83 h => ?_))
            refine wz_iload C rfl dX12_grown_408 ?_
            obtain ⟨g86, h⟩ := h
            refine Wz.know (fun hs9 hl9 => ?_)
            refine wm_callV C (S := (I83, J83)) (o := v83) (As := [.int (iZ ((1 : Int) + v61))]) (st := []) (a' := aH + 1) (b' := bH + 2000) (sK6 hs9 hl9 g86) rfl (k_J4_append_bf812 G hG hW v83 ((1 : Int) + v61) I83 J83 _ h) 1 gX12_grown_J4_append_bf812 rfl (by decide +kernel) (by rw [hX]; exact ⟨Nat.le_of_ble_eq_true rfl, Nat.le_of_ble_eq_true rfl⟩) rfl (Nat.le_of_ble_eq_true rfl) (by show 1 + (aH + 1) = aH + 2; omega) (by show 2000 + (bH + 2000) = bH + 4000; omega) rfl dX12_grown_410 (kk_sK (fun v85 I85 J85 h => ?_))
            refine wy_ldcS C hW (tx := ";") (q := 902) (by decide +kernel) dX12_grown_413 ?_
            obtain ⟨g88, h⟩ := h
            refine Wz.know (fun hs9 hl9 => ?_)
            refine wm_callV C (S := (I85, J85)) (o := v85) (As := [.ref (kadr G 902)]) (st := []) (a' := aH + 0) (b' := bH + 0) (sK6 hs9 hl9 g88) rfl (k_J4_append_15ec4 G hG hW v85 902 I85 J85 _ h) 1 gX12_grown_J4_append_15ec4 rfl (by decide +kernel) (by rw [hX]; exact ⟨Nat.le_of_ble_eq_true rfl, Nat.le_of_ble_eq_true rfl⟩) rfl (Nat.le_of_ble_eq_true rfl) (by show 1 + (aH + 0) = aH + 1; omega) (by show 2000 + (bH + 0) = bH + 2000; omega) rfl dX12_grown_415 (kk_sK (fun v87 I87 J87 h => ?_))
            refine wz_pop C rfl dX12_grown_418 ?_
            refine wz_iinc_3 C rfl dX12_grown_419 ?_
            refine wz_goto C dX12_grown_422 (tgt := 235) (by decide) ?_
            exact Wz.less (a0 := aH) (b0 := bH) (by omega) (by omega) (Wz.drop (w235 p2 (l3 + 1) I87 J87 h) (And.intro rfl (And.intro rfl (And.intro rfl (And.intro rfl trivial)))))
          · replace h := h.2 c
            refine wz_goto C dX12_grown_302 (tgt := 419) (by decide) ?_
            refine wz_iinc_3 C rfl dX12_grown_419 ?_
            refine wz_goto C dX12_grown_422 (tgt := 235) (by decide) ?_
            exact Wz.less (a0 := aH) (b0 := bH) (by omega) (by omega) (Wz.drop (w235 p2 (l3 + 1) I54 J54 h) (And.intro rfl (And.intro rfl (And.intro rfl (And.intro rfl trivial)))))
set_option maxHeartbeats 4000000 in
set_option maxRecDepth 100000 in
theorem lk_X12_grown8_142 (G : KG) (hG : Kok G) (hW : KWx G) {sL : Nat} {xs : Nat → Int} (hT : KScr G sL xs) (X : KX) (hX : KR X = rm_X12_grown8) (C : Fr G X cX12_grown 7 yX12_grown.cls (some (.object "ShareGraphLaw$World")) wsX12_grown) (Q : Nat → Ii → Jj → Prop) : ∀ (n : Nat) (p2 : Nat) (l3 : Int) (I : Ii) (J : Jj), L_X12_grown8_142 sL xs Q n p2 l3 I J → Wz G X 7 (QsU G X (QsK G Q)) (n * 11 + 612) (n * 16024 + 835854) 142 [some (.ref (kadr G 998)), some (.ref (kadr G 1000)), some (.ref (kadr G p2)), some (.int (iZ l3)), none, none, none] [] I J := by
  intro n
  induction n with
  | zero => intro p2 l3 I J h; exact False.elim h
  | succ n w142 =>
    intro p2 l3 I J h
    have h : Lb_X12_grown8_142 sL xs Q (L_X12_grown8_142 sL xs Q n) p2 l3 I J := h
    unfold Lb_X12_grown8_142 at h
    generalize L_X12_grown8_142 sL xs Q n = r142 at h w142
    refine Wz.less (a0 := n * 11 + 612 + 11) (b0 := n * 16024 + 835854 + 16024) (by omega) (by omega) ?_
    have haH : 612 ≤ n * 11 + 612 ∧ 835854 ≤ n * 16024 + 835854 := by omega
    generalize n * 11 + 612 = aH at w142 haH ⊢
    generalize n * 16024 + 835854 = bH at w142 haH ⊢
    refine wz_iload_n C rfl rfl dX12_grown_142 ?_
    refine wz_aload_n C rfl rfl dX12_grown_143 ?_
    refine wz_getI C rfl f_X12_grown8_87 (sOw rfl (by decide)) dX12_grown_144 ?_
    obtain ⟨g37, h⟩ := h
    obtain ⟨g38, h⟩ := h
    refine wz_icmp_ge C (tgt := 233) g37 g38 dX12_grown_147 (by decide) (fun c => ?_) (fun c => ?_)
    · replace h := h.1 c
      refine wz_iconst C dX12_grown_233 ?_
      refine wz_istore_3 C rfl dX12_grown_234 ?_
      obtain ⟨n, hn, h⟩ := h
      exact Wz.less (a0 := n * 19 + 4) (b0 := n * 26048 + 2318) (by omega) (by omega) (lk_X12_grown8_235 G hG hW hT X hX C Q n p2 0 I J h)
    · replace h := h.2 c
      refine wz_aload_n C rfl rfl dX12_grown_150 ?_
      refine wy_ldcS C hW (tx := "vertex ") (q := 908) (by decide +kernel) dX12_grown_151 ?_
      obtain ⟨g40, h⟩ := h
      refine Wz.know (fun hs9 hl9 => ?_)
      refine wm_callV C (S := (I, J)) (o := p2) (As := [.ref (kadr G 908)]) (st := []) (a' := aH + 10) (b' := bH + 14024) (sK6 hs9 hl9 g40) rfl (k_J4_append_15ec4 G hG hW p2 908 I J _ h) 1 gX12_grown_J4_append_15ec4 rfl (by decide +kernel) (by rw [hX]; exact ⟨Nat.le_of_ble_eq_true rfl, Nat.le_of_ble_eq_true rfl⟩) rfl (Nat.le_of_ble_eq_true rfl) (by show 1 + (aH + 10) = aH + 11; omega) (by show 2000 + (bH + 14024) = bH + 16024; omega) rfl dX12_grown_153 (kk_sK (fun v39 I39 J39 h => ?_))
      refine wz_iload_n C rfl rfl dX12_grown_156 ?_
      refine wm_callSo C (As := [.int (iZ l3)]) (st := [.ref (kadr G v39)]) (a' := aH + 4) (b' := bH + 8000) (k_X12_name G hG hW l3 I39 J39 _ h) 1 (goodIn_wsS gX12_grown_X12_name) (by decide +kernel) (by decide +kernel) (by decide +kernel) rfl (by decide +kernel) (by rw [hX]; exact ⟨Nat.le_of_ble_eq_true rfl, Nat.le_of_ble_eq_true rfl⟩) rfl (Nat.le_of_ble_eq_true rfl) (by show 6 + (aH + 4) = aH + 10; omega) (by show 6024 + (bH + 8000) = bH + 14024; omega) rfl dX12_grown_157 (kk_sK (fun v41 I41 J41 h => ?_))
      obtain ⟨g43, h⟩ := h
      refine Wz.know (fun hs9 hl9 => ?_)
      refine wm_callV C (S := (I41, J41)) (o := v39) (As := [.ref (kadr G v41)]) (st := []) (a' := aH + 3) (b' := bH + 6000) (sK6 hs9 hl9 g43) rfl (k_J4_append_15ec4 G hG hW v39 v41 I41 J41 _ h) 1 gX12_grown_J4_append_15ec4 rfl (by decide +kernel) (by rw [hX]; exact ⟨Nat.le_of_ble_eq_true rfl, Nat.le_of_ble_eq_true rfl⟩) rfl (Nat.le_of_ble_eq_true rfl) (by show 1 + (aH + 3) = aH + 4; omega) (by show 2000 + (bH + 6000) = bH + 8000; omega) rfl dX12_grown_160 (kk_sK (fun v42 I42 J42 h => ?_))
      refine wy_ldcS C hW (tx := " ") (q := 910) (by decide +kernel) dX12_grown_163 ?_
      obtain ⟨g45, h⟩ := h
      refine Wz.know (fun hs9 hl9 => ?_)
      refine wm_callV C (S := (I42, J42)) (o := v42) (As := [.ref (kadr G 910)]) (st := []) (a' := aH + 2) (b' := bH + 4000) (sK6 hs9 hl9 g45) rfl (k_J4_append_15ec4 G hG hW v42 910 I42 J42 _ h) 1 gX12_grown_J4_append_15ec4 rfl (by decide +kernel) (by rw [hX]; exact ⟨Nat.le_of_ble_eq_true rfl, Nat.le_of_ble_eq_true rfl⟩) rfl (Nat.le_of_ble_eq_true rfl) (by show 1 + (aH + 2) = aH + 3; omega) (by show 2000 + (bH + 4000) = bH + 6000; omega) rfl dX12_grown_165 (kk_sK (fun v44 I44 J44 h => ?_))
      refine wz_aload_n C rfl rfl dX12_grown_168 ?_
      refine wz_getR C (j := 1001) f_X12_grown8_13 (sOw rfl (by decide)) (by decide) dX12_grown_169 ?_
      refine wz_iload_n C rfl rfl dX12_grown_172 ?_
      refine wz_iconst C dX12_grown_173 ?_
      refine wz_aload_n C rfl rfl dX12_grown_174 ?_
      refine wz_bipush C (by decide) dX12_grown_175 ?_
      refine wz_iload_n C rfl rfl dX12_grown_177 ?_
      refine wz_iadd C dX12_grown_178 ?_
      refine wz_aload_n C rfl rfl dX12_grown_179 ?_
      refine wz_bipush C (by decide) dX12_grown_180 ?_
      refine wz_iconst C dX12_grown_182 ?_
      refine wm_callSN C (As := [.ref (kadr G 998), .int (iZ 8), .int (iZ 2)]) (st := [.int (iZ ((20 : Int) + l3)), .ref (kadr G 998), .int (iZ 1), .int (iZ l3), .ref (kadr G 1001), .ref (kadr G v44)]) (a' := aH + 2) (b' := bH + 4000) (host := "ShareGraphLaw") (k_L_pick G hG hW hT 8 2 I44 J44 _ h) 3 gX12_grown_L_pick_n64 (by decide +kernel) (by decide +kernel) (by decide +kernel) rfl (by decide +kernel) (by rw [hX]; exact ⟨Nat.le_of_ble_eq_true rfl, Nat.le_of_ble_eq_true rfl⟩) rfl (Nat.le_of_ble_eq_true rfl) (by show 0 + (aH + 2) = aH + 2; omega) (by show 0 + (bH + 4000) = bH + 4000; omega) rfl dX12_grown_183 (kk_sI (fun v46 I46 J46 h => ?_))
      obtain ⟨g47, h⟩ := h
      refine wz_if_ne C (tgt := 193) g47 dX12_grown_186 (by decide) (fun c => ?_) (fun c => ?_)
      · replace h := h.1 c
        refine wz_bipush C (by decide) dX12_grown_193 ?_
        exact Wz.less (a0 := aH + 2) (b0 := bH + 4000) (by omega) (by omega) (bk_X12_grown8_195 G hG hW hT X hX C aH bH haH Q r142 w142 p2 l3 v44 l3 1 ((20 : Int) + l3) 12 I46 J46 h)
      · replace h := h.2 c
        refine wz_iconst C dX12_grown_189 ?_
        refine wz_goto C dX12_grown_190 (tgt := 195) (by decide) ?_
        exact Wz.less (a0 := aH + 2) (b0 := bH + 4000) (by omega) (by omega) (bk_X12_grown8_195 G hG hW hT X hX C aH bH haH Q r142 w142 p2 l3 v44 l3 1 ((20 : Int) + l3) 3 I46 J46 h)
set_option maxHeartbeats 4000000 in
set_option maxRecDepth 100000 in
theorem bk_X12_grown8_126 (G : KG) (hG : Kok G) (hW : KWx G) {sL : Nat} {xs : Nat → Int} (hT : KScr G sL xs) (X : KX) (hX : KR X = rm_X12_grown8) (C : Fr G X cX12_grown 7 yX12_grown.cls (some (.object "ShareGraphLaw$World")) wsX12_grown) (Q : Nat → Ii → Jj → Prop) (p2 : Nat) (I : Ii) (J : Jj) (h : B_X12_grown8_126 sL xs Q p2 I J) : Wz G X 7 (QsU G X (QsK G Q)) 744 1028142 126 [some (.ref (kadr G 998)), some (.ref (kadr G 1000)), some (.ref (kadr G p2)), none, none, none, none] [] I J := by
  unfold B_X12_grown8_126 at h
  refine wz_aload_n C rfl rfl dX12_grown_126 ?_
  refine wz_iconst C dX12_grown_127 ?_
  refine wz_aload_n C rfl rfl dX12_grown_128 ?_
  refine wz_bipush C (by decide) dX12_grown_129 ?_
  refine wz_bipush C (by decide) dX12_grown_131 ?_
  refine wm_callSN C (As := [.ref (kadr G 998), .int (iZ 7), .int (iZ 9)]) (st := [.int (iZ 2), .ref (kadr G 1000)]) (a' := 744) (b' := 1028142) (host := "ShareGraphLaw") (k_L_pick G hG hW hT 7 9 I J _ h) 3 gX12_grown_L_pick_n64 (by decide +kernel) (by decide +kernel) (by decide +kernel) rfl (by decide +kernel) (by rw [hX]; exact ⟨Nat.le_of_ble_eq_true rfl, Nat.le_of_ble_eq_true rfl⟩) rfl (Nat.le_of_ble_eq_true rfl) (by show 0 + (744) = 744; omega) (by show 0 + (1028142) = 1028142; omega) rfl dX12_grown_133 (kk_sI (fun v35 I35 J35 h => ?_))
  refine wz_iadd C dX12_grown_136 ?_
  refine wd_putI C f_X12_grown8_87 fp_X12_0 (sOw rfl (by decide)) dX12_grown_137 (fun I36 e => ?_)
  replace h := h I36 e
  refine wz_iconst C dX12_grown_140 ?_
  refine wz_istore_3 C rfl dX12_grown_141 ?_
  obtain ⟨n, hn, h⟩ := h
  exact Wz.less (a0 := n * 11 + 612) (b0 := n * 16024 + 835854) (by omega) (by omega) (lk_X12_grown8_142 G hG hW hT X hX C Q n p2 0 I36 J35 h)
set_option maxHeartbeats 4000000 in
set_option maxRecDepth 100000 in
theorem bk_X12_grown8_89 (G : KG) (hG : Kok G) (hW : KWx G) {sL : Nat} {xs : Nat → Int} (hT : KScr G sL xs) (X : KX) (hX : KR X = rm_X12_grown8) (C : Fr G X cX12_grown 7 yX12_grown.cls (some (.object "ShareGraphLaw$World")) wsX12_grown) (Q : Nat → Ii → Jj → Prop) (p2 : Nat) (I : Ii) (J : Jj) (h : B_X12_grown8_89 sL xs Q p2 I J) : Wz G X 7 (QsU G X (QsK G Q)) 747 1034142 89 [some (.ref (kadr G 998)), some (.ref (kadr G 1000)), some (.ref (kadr G p2)), none, none, none, none] [] I J := by
  unfold B_X12_grown8_89 at h
  refine wz_aload_n C rfl rfl dX12_grown_89 ?_
  refine wz_iconst C dX12_grown_90 ?_
  refine wz_iconst C dX12_grown_91 ?_
  refine wm_callSN C (As := [.ref (kadr G 998), .int (iZ 5), .int (iZ 2)]) (st := []) (a' := 747) (b' := 1034142) (host := "ShareGraphLaw") (k_L_pick G hG hW hT 5 2 I J _ h) 3 gX12_grown_L_pick_n64 (by decide +kernel) (by decide +kernel) (by decide +kernel) rfl (by decide +kernel) (by rw [hX]; exact ⟨Nat.le_of_ble_eq_true rfl, Nat.le_of_ble_eq_true rfl⟩) rfl (Nat.le_of_ble_eq_true rfl) (by show 0 + (747) = 747; omega) (by show 0 + (1034142) = 1034142; omega) rfl dX12_grown_92 (kk_sI (fun v25 I25 J25 h => ?_))
  obtain ⟨g26, h⟩ := h
  refine wz_if_ne C (tgt := 126) g26 dX12_grown_95 (by decide) (fun c => ?_) (fun c => ?_)
  · replace h := h.1 c
    exact Wz.less (a0 := 744) (b0 := 1028142) (by omega) (by omega) (bk_X12_grown8_126 G hG hW hT X hX C Q p2 I25 J25 h)
  · replace h := h.2 c
    refine wz_aload_n C rfl rfl dX12_grown_98 ?_
    refine wy_ldcS C hW (tx := "credit ") (q := 906) (by decide +kernel) dX12_grown_99 ?_
    obtain ⟨g28, h⟩ := h
    refine Wz.know (fun hs9 hl9 => ?_)
    refine wm_callV C (S := (I25, J25)) (o := p2) (As := [.ref (kadr G 906)]) (st := []) (a' := 746) (b' := 1032142) (sK6 hs9 hl9 g28) rfl (k_J4_append_15ec4 G hG hW p2 906 I25 J25 _ h) 1 gX12_grown_J4_append_15ec4 rfl (by decide +kernel) (by rw [hX]; exact ⟨Nat.le_of_ble_eq_true rfl, Nat.le_of_ble_eq_true rfl⟩) rfl (Nat.le_of_ble_eq_true rfl) (by show 1 + (746) = 747; omega) (by show 2000 + (1032142) = 1034142; omega) rfl dX12_grown_101 (kk_sK (fun v27 I27 J27 h => ?_))
    refine wz_aload_n C rfl rfl dX12_grown_104 ?_
    refine wz_aload_n C rfl rfl dX12_grown_105 ?_
    refine wz_bipush C (by decide) dX12_grown_106 ?_
    refine wz_bipush C (by decide) dX12_grown_108 ?_
    refine wm_callSN C (As := [.ref (kadr G 998), .int (iZ 6), .int (iZ 30)]) (st := [.ref (kadr G 1000), .ref (kadr G v27)]) (a' := 746) (b' := 1032142) (host := "ShareGraphLaw") (k_L_pick G hG hW hT 6 30 I27 J27 _ h) 3 gX12_grown_L_pick_n64 (by decide +kernel) (by decide +kernel) (by decide +kernel) rfl (by decide +kernel) (by rw [hX]; exact ⟨Nat.le_of_ble_eq_true rfl, Nat.le_of_ble_eq_true rfl⟩) rfl (Nat.le_of_ble_eq_true rfl) (by show 0 + (746) = 746; omega) (by show 0 + (1032142) = 1032142; omega) rfl dX12_grown_110 (kk_sI (fun v29 I29 J29 h => ?_))
    refine wy_dup_x1 C rfl rfl dX12_grown_113 ?_
    refine wd_putI C f_X12_grown8_84 fp_X12_3 (sOw rfl (by decide)) dX12_grown_114 (fun I30 e => ?_)
    replace h := h I30 e
    obtain ⟨g32, h⟩ := h
    refine Wz.know (fun hs9 hl9 => ?_)
    refine wm_callV C (S := (I30, J29)) (o := v27) (As := [.int (iZ v29)]) (st := []) (a' := 745) (b' := 1030142) (sK6 hs9 hl9 g32) rfl (k_J4_append_bf812 G hG hW v27 v29 I30 J29 _ h) 1 gX12_grown_J4_append_bf812 rfl (by decide +kernel) (by rw [hX]; exact ⟨Nat.le_of_ble_eq_true rfl, Nat.le_of_ble_eq_true rfl⟩) rfl (Nat.le_of_ble_eq_true rfl) (by show 1 + (745) = 746; omega) (by show 2000 + (1030142) = 1032142; omega) rfl dX12_grown_117 (kk_sK (fun v31 I31 J31 h => ?_))
    refine wy_ldcS C hW (tx := ";") (q := 902) (by decide +kernel) dX12_grown_120 ?_
    obtain ⟨g34, h⟩ := h
    refine Wz.know (fun hs9 hl9 => ?_)
    refine wm_callV C (S := (I31, J31)) (o := v31) (As := [.ref (kadr G 902)]) (st := []) (a' := 744) (b' := 1028142) (sK6 hs9 hl9 g34) rfl (k_J4_append_15ec4 G hG hW v31 902 I31 J31 _ h) 1 gX12_grown_J4_append_15ec4 rfl (by decide +kernel) (by rw [hX]; exact ⟨Nat.le_of_ble_eq_true rfl, Nat.le_of_ble_eq_true rfl⟩) rfl (Nat.le_of_ble_eq_true rfl) (by show 1 + (744) = 745; omega) (by show 2000 + (1028142) = 1030142; omega) rfl dX12_grown_122 (kk_sK (fun v33 I33 J33 h => ?_))
    refine wz_pop C rfl dX12_grown_125 ?_
    exact Wz.less (a0 := 744) (b0 := 1028142) (by omega) (by omega) (bk_X12_grown8_126 G hG hW hT X hX C Q p2 I33 J33 h)
set_option maxHeartbeats 4000000 in
set_option maxRecDepth 100000 in
theorem bk_X12_grown8_53 (G : KG) (hG : Kok G) (hW : KWx G) {sL : Nat} {xs : Nat → Int} (hT : KScr G sL xs) (X : KX) (hX : KR X = rm_X12_grown8) (C : Fr G X cX12_grown 7 yX12_grown.cls (some (.object "ShareGraphLaw$World")) wsX12_grown) (Q : Nat → Ii → Jj → Prop) (p2 : Nat) (I : Ii) (J : Jj) (h : B_X12_grown8_53 sL xs Q p2 I J) : Wz G X 7 (QsU G X (QsK G Q)) 750 1040142 53 [some (.ref (kadr G 998)), some (.ref (kadr G 1000)), some (.ref (kadr G p2)), none, none, none, none] [] I J := by
  unfold B_X12_grown8_53 at h
  refine wz_aload_n C rfl rfl dX12_grown_53 ?_
  refine wz_iconst C dX12_grown_54 ?_
  refine wz_iconst C dX12_grown_55 ?_
  refine wm_callSN C (As := [.ref (kadr G 998), .int (iZ 3), .int (iZ 2)]) (st := []) (a' := 750) (b' := 1040142) (host := "ShareGraphLaw") (k_L_pick G hG hW hT 3 2 I J _ h) 3 gX12_grown_L_pick_n64 (by decide +kernel) (by decide +kernel) (by decide +kernel) rfl (by decide +kernel) (by rw [hX]; exact ⟨Nat.le_of_ble_eq_true rfl, Nat.le_of_ble_eq_true rfl⟩) rfl (Nat.le_of_ble_eq_true rfl) (by show 0 + (750) = 750; omega) (by show 0 + (1040142) = 1040142; omega) rfl dX12_grown_56 (kk_sI (fun v15 I15 J15 h => ?_))
  obtain ⟨g16, h⟩ := h
  refine wz_if_ne C (tgt := 89) g16 dX12_grown_59 (by decide) (fun c => ?_) (fun c => ?_)
  · replace h := h.1 c
    exact Wz.less (a0 := 747) (b0 := 1034142) (by omega) (by omega) (bk_X12_grown8_89 G hG hW hT X hX C Q p2 I15 J15 h)
  · replace h := h.2 c
    refine wz_aload_n C rfl rfl dX12_grown_62 ?_
    refine wy_ldcS C hW (tx := "slack ") (q := 904) (by decide +kernel) dX12_grown_63 ?_
    obtain ⟨g18, h⟩ := h
    refine Wz.know (fun hs9 hl9 => ?_)
    refine wm_callV C (S := (I15, J15)) (o := p2) (As := [.ref (kadr G 904)]) (st := []) (a' := 749) (b' := 1038142) (sK6 hs9 hl9 g18) rfl (k_J4_append_15ec4 G hG hW p2 904 I15 J15 _ h) 1 gX12_grown_J4_append_15ec4 rfl (by decide +kernel) (by rw [hX]; exact ⟨Nat.le_of_ble_eq_true rfl, Nat.le_of_ble_eq_true rfl⟩) rfl (Nat.le_of_ble_eq_true rfl) (by show 1 + (749) = 750; omega) (by show 2000 + (1038142) = 1040142; omega) rfl dX12_grown_65 (kk_sK (fun v17 I17 J17 h => ?_))
    refine wz_aload_n C rfl rfl dX12_grown_68 ?_
    refine wz_aload_n C rfl rfl dX12_grown_69 ?_
    refine wz_iconst C dX12_grown_70 ?_
    refine wz_bipush C (by decide) dX12_grown_71 ?_
    refine wm_callSN C (As := [.ref (kadr G 998), .int (iZ 4), .int (iZ 9)]) (st := [.ref (kadr G 1000), .ref (kadr G v17)]) (a' := 749) (b' := 1038142) (host := "ShareGraphLaw") (k_L_pick G hG hW hT 4 9 I17 J17 _ h) 3 gX12_grown_L_pick_n64 (by decide +kernel) (by decide +kernel) (by decide +kernel) rfl (by decide +kernel) (by rw [hX]; exact ⟨Nat.le_of_ble_eq_true rfl, Nat.le_of_ble_eq_true rfl⟩) rfl (Nat.le_of_ble_eq_true rfl) (by show 0 + (749) = 749; omega) (by show 0 + (1038142) = 1038142; omega) rfl dX12_grown_73 (kk_sI (fun v19 I19 J19 h => ?_))
    refine wy_dup_x1 C rfl rfl dX12_grown_76 ?_
    refine wd_putI C f_X12_grown8_79 fp_X12_2 (sOw rfl (by decide)) dX12_grown_77 (fun I20 e => ?_)
    replace h := h I20 e
    obtain ⟨g22, h⟩ := h
    refine Wz.know (fun hs9 hl9 => ?_)
    refine wm_callV C (S := (I20, J19)) (o := v17) (As := [.int (iZ v19)]) (st := []) (a' := 748) (b' := 1036142) (sK6 hs9 hl9 g22) rfl (k_J4_append_bf812 G hG hW v17 v19 I20 J19 _ h) 1 gX12_grown_J4_append_bf812 rfl (by decide +kernel) (by rw [hX]; exact ⟨Nat.le_of_ble_eq_true rfl, Nat.le_of_ble_eq_true rfl⟩) rfl (Nat.le_of_ble_eq_true rfl) (by show 1 + (748) = 749; omega) (by show 2000 + (1036142) = 1038142; omega) rfl dX12_grown_80 (kk_sK (fun v21 I21 J21 h => ?_))
    refine wy_ldcS C hW (tx := ";") (q := 902) (by decide +kernel) dX12_grown_83 ?_
    obtain ⟨g24, h⟩ := h
    refine Wz.know (fun hs9 hl9 => ?_)
    refine wm_callV C (S := (I21, J21)) (o := v21) (As := [.ref (kadr G 902)]) (st := []) (a' := 747) (b' := 1034142) (sK6 hs9 hl9 g24) rfl (k_J4_append_15ec4 G hG hW v21 902 I21 J21 _ h) 1 gX12_grown_J4_append_15ec4 rfl (by decide +kernel) (by rw [hX]; exact ⟨Nat.le_of_ble_eq_true rfl, Nat.le_of_ble_eq_true rfl⟩) rfl (Nat.le_of_ble_eq_true rfl) (by show 1 + (747) = 748; omega) (by show 2000 + (1034142) = 1036142; omega) rfl dX12_grown_85 (kk_sK (fun v23 I23 J23 h => ?_))
    refine wz_pop C rfl dX12_grown_88 ?_
    exact Wz.less (a0 := 747) (b0 := 1034142) (by omega) (by omega) (bk_X12_grown8_89 G hG hW hT X hX C Q p2 I23 J23 h)
set_option maxHeartbeats 4000000 in
set_option maxRecDepth 100000 in
theorem k_X12_grown8 (G : KG) (hG : Kok G) (hW : KWx G) {sL : Nat} {xs : Nat → Int} (hT : KScr G sL xs) (X : KX) (hX : KR X = rm_X12_grown8) (C : Fr G X cX12_grown 7 yX12_grown.cls (some (.object "ShareGraphLaw$World")) wsX12_grown) (I : Ii) (J : Jj) (Q : Nat → Ii → Jj → Prop) (h : wp_X12_grown8 sL xs I J Q) : Wz G X 7 (QsU G X (QsK G Q)) 755 1046162 8 [some (.ref (kadr G 998)), some (.ref (kadr G 1000)), none, none, none, none, none] [] I J := by
  unfold wp_X12_grown8 at h
  obtain ⟨g1, h⟩ := h
  refine wy_newC C (t := 6) (ci := 1) (Or.inr ⟨rfl, rfl⟩) tyJ4 rfl in_X12_grown8_J4 tyJ4_ok (by decide +kernel) (by decide +kernel) (by decide +kernel) dfJ4 g1 dX12_grown_8 (a' := 754) (b' := 1046158) (by omega) (by omega) (fun I2 e => ?_)
  replace h := h I2 e
  replace h := h _ rfl
  refine wz_dup C rfl dX12_grown_11 ?_
  refine wm_callI C (q := kadr G ((I 999 0).toNat)) (As := []) (st := [.ref (kadr G ((I 999 0).toNat))]) (a' := 753) (b' := 1046142) (k_J4_init_da8c8 G hG hW ((I 999 0).toNat) I2 J _ h) 0 gX12_grown_J4_init_da8c8 (by decide +kernel) (by decide +kernel) (by decide +kernel) rfl rfl (by decide +kernel) (by rw [hX]; exact ⟨Nat.le_of_ble_eq_true rfl, Nat.le_of_ble_eq_true rfl⟩) rfl (Nat.le_of_ble_eq_true rfl) (by show 1 + (753) = 754; omega) (by show 16 + (1046142) = 1046158; omega) rfl dX12_grown_12 (kk_sV (fun I4 J4 h => ?_))
  refine wz_astore_2 C rfl dX12_grown_15 ?_
  refine wz_aload_n C rfl rfl dX12_grown_16 ?_
  refine wz_iconst C dX12_grown_17 ?_
  refine wz_iconst C dX12_grown_18 ?_
  refine wm_callSN C (As := [.ref (kadr G 998), .int (iZ 1), .int (iZ 2)]) (st := []) (a' := 753) (b' := 1046142) (host := "ShareGraphLaw") (k_L_pick G hG hW hT 1 2 I4 J4 _ h) 3 gX12_grown_L_pick_n64 (by decide +kernel) (by decide +kernel) (by decide +kernel) rfl (by decide +kernel) (by rw [hX]; exact ⟨Nat.le_of_ble_eq_true rfl, Nat.le_of_ble_eq_true rfl⟩) rfl (Nat.le_of_ble_eq_true rfl) (by show 0 + (753) = 753; omega) (by show 0 + (1046142) = 1046142; omega) rfl dX12_grown_19 (kk_sI (fun v5 I5 J5 h => ?_))
  obtain ⟨g6, h⟩ := h
  refine wz_if_ne C (tgt := 53) g6 dX12_grown_22 (by decide) (fun c => ?_) (fun c => ?_)
  · replace h := h.1 c
    exact Wz.less (a0 := 750) (b0 := 1040142) (by omega) (by omega) (bk_X12_grown8_53 G hG hW hT X hX C Q ((I 999 0).toNat) I5 J5 h)
  · replace h := h.2 c
    refine wz_aload_n C rfl rfl dX12_grown_25 ?_
    refine wy_ldcS C hW (tx := "parts ") (q := 900) (by decide +kernel) dX12_grown_26 ?_
    obtain ⟨g8, h⟩ := h
    refine Wz.know (fun hs9 hl9 => ?_)
    refine wm_callV C (S := (I5, J5)) (o := (I 999 0).toNat) (As := [.ref (kadr G 900)]) (st := []) (a' := 752) (b' := 1044142) (sK6 hs9 hl9 g8) rfl (k_J4_append_15ec4 G hG hW ((I 999 0).toNat) 900 I5 J5 _ h) 1 gX12_grown_J4_append_15ec4 rfl (by decide +kernel) (by rw [hX]; exact ⟨Nat.le_of_ble_eq_true rfl, Nat.le_of_ble_eq_true rfl⟩) rfl (Nat.le_of_ble_eq_true rfl) (by show 1 + (752) = 753; omega) (by show 2000 + (1044142) = 1046142; omega) rfl dX12_grown_28 (kk_sK (fun v7 I7 J7 h => ?_))
    refine wz_aload_n C rfl rfl dX12_grown_31 ?_
    refine wz_iconst C dX12_grown_32 ?_
    refine wz_aload_n C rfl rfl dX12_grown_33 ?_
    refine wz_iconst C dX12_grown_34 ?_
    refine wz_iconst C dX12_grown_35 ?_
    refine wm_callSN C (As := [.ref (kadr G 998), .int (iZ 2), .int (iZ 3)]) (st := [.int (iZ 2), .ref (kadr G 1000), .ref (kadr G v7)]) (a' := 752) (b' := 1044142) (host := "ShareGraphLaw") (k_L_pick G hG hW hT 2 3 I7 J7 _ h) 3 gX12_grown_L_pick_n64 (by decide +kernel) (by decide +kernel) (by decide +kernel) rfl (by decide +kernel) (by rw [hX]; exact ⟨Nat.le_of_ble_eq_true rfl, Nat.le_of_ble_eq_true rfl⟩) rfl (Nat.le_of_ble_eq_true rfl) (by show 0 + (752) = 752; omega) (by show 0 + (1044142) = 1044142; omega) rfl dX12_grown_36 (kk_sI (fun v9 I9 J9 h => ?_))
    refine wz_iadd C dX12_grown_39 ?_
    refine wy_dup_x1 C rfl rfl dX12_grown_40 ?_
    refine wd_putI C f_X12_grown8_7 fp_X12_1 (sOw rfl (by decide)) dX12_grown_41 (fun I10 e => ?_)
    replace h := h I10 e
    obtain ⟨g12, h⟩ := h
    refine Wz.know (fun hs9 hl9 => ?_)
    refine wm_callV C (S := (I10, J9)) (o := v7) (As := [.int (iZ ((2 : Int) + v9))]) (st := []) (a' := 751) (b' := 1042142) (sK6 hs9 hl9 g12) rfl (k_J4_append_bf812 G hG hW v7 ((2 : Int) + v9) I10 J9 _ h) 1 gX12_grown_J4_append_bf812 rfl (by decide +kernel) (by rw [hX]; exact ⟨Nat.le_of_ble_eq_true rfl, Nat.le_of_ble_eq_true rfl⟩) rfl (Nat.le_of_ble_eq_true rfl) (by show 1 + (751) = 752; omega) (by show 2000 + (1042142) = 1044142; omega) rfl dX12_grown_44 (kk_sK (fun v11 I11 J11 h => ?_))
    refine wy_ldcS C hW (tx := ";") (q := 902) (by decide +kernel) dX12_grown_47 ?_
    obtain ⟨g14, h⟩ := h
    refine Wz.know (fun hs9 hl9 => ?_)
    refine wm_callV C (S := (I11, J11)) (o := v11) (As := [.ref (kadr G 902)]) (st := []) (a' := 750) (b' := 1040142) (sK6 hs9 hl9 g14) rfl (k_J4_append_15ec4 G hG hW v11 902 I11 J11 _ h) 1 gX12_grown_J4_append_15ec4 rfl (by decide +kernel) (by rw [hX]; exact ⟨Nat.le_of_ble_eq_true rfl, Nat.le_of_ble_eq_true rfl⟩) rfl (Nat.le_of_ble_eq_true rfl) (by show 1 + (750) = 751; omega) (by show 2000 + (1040142) = 1042142; omega) rfl dX12_grown_49 (kk_sK (fun v13 I13 J13 h => ?_))
    refine wz_pop C rfl dX12_grown_52 ?_
    exact Wz.less (a0 := 750) (b0 := 1040142) (by omega) (by omega) (bk_X12_grown8_53 G hG hW hT X hX C Q ((I 999 0).toNat) I13 J13 h)
