def rm_L_pick : Room := { frames := 1, cells := 0, slots := 0, locals := 21 }
set_option maxHeartbeats 4000000 in
set_option maxRecDepth 100000 in
theorem k_L_pick (G : KG) (hG : Kok G) (hW : KWx G) {sL : Nat} {xs : Nat → Int} (hT : KScr G sL xs) (l1 : Int) (l2 : Int) (I : Ii) (J : Jj) (Q : Int → Ii → Jj → Prop) (h : wp_L_pick sL xs l1 l2 I J Q) : Ctr G yL_pick wsL_pick rm_L_pick [.ref (kadr G 998), .int (iZ l1), .int (iZ l2)] (I, J) (QsI Q) := by
  unfold wp_L_pick at h
  refine Ctr.ofZ (cc := cL_pick) (nL := 3) (ret := (some .int)) [some (.ref (kadr G 998)), some (.int (iZ l1)), some (.int (iZ l2))] hG (by decide +kernel) rfl (Nat.le_of_ble_eq_true rfl) (Nat.le_of_ble_eq_true rfl) (by simp [lvA, lv_args, Value.category]) ?_
  intro X hX C
  refine (?_ : Wz G X 3 (QsU G X (QsI Q)) 0 0 0 [some (.ref (kadr G 998)), some (.int (iZ l1)), some (.int (iZ l2))] [] I J)
  refine wz_aload_n C rfl rfl dL_pick_0 ?_
  refine wz_iload_n C rfl rfl dL_pick_1 ?_
  refine wm_callSo C (As := [.ref (kadr G 998), .int (iZ l1)]) (st := []) (a' := 0) (b' := 0) (k_L_cell G hG hW hT l1 I J _ h) 2 (goodIn_wsS gL_pick_L_cell) (by decide +kernel) (by decide +kernel) (by decide +kernel) rfl (by decide +kernel) (by rw [hX]; exact ⟨Nat.le_of_ble_eq_true rfl, Nat.le_of_ble_eq_true rfl⟩) rfl (Nat.le_of_ble_eq_true rfl) (by show 0 + (0) = 0; omega) (by show 0 + (0) = 0; omega) rfl dL_pick_2 (kk_sI (fun v1 I1 J1 h => ?_))
  refine wz_ldc C (n := 2147483647) (v := 2147483647) (by decide) (by decide +kernel) dL_pick_5 ?_
  refine wd_iand C dL_pick_7 ?_
  refine wz_iload_n C rfl rfl dL_pick_8 ?_
  obtain ⟨g2, h⟩ := h
  refine wd_irem C g2 dL_pick_9 ?_
  exact wz_iret C dL_pick_10 ⟨_, rfl, h⟩
def rm_L_feeds : Room := { frames := 4, cells := 40, slots := 200, locals := 93 }
set_option maxHeartbeats 4000000 in
set_option maxRecDepth 100000 in
theorem lk_L_feeds_20 (G : KG) (hGC : KokC G) (hG : Kok G) (hW : KWx G) {sL : Nat} {xs : Nat → Int} (hT : KScr G sL xs) (X : KX) (hX : KR X = rm_L_feeds) (C : Fr G X cL_feeds 6 yL_feeds.cls (some .boolean) wsL_feeds) (aH bH : Nat) (haH : 0 ≤ aH ∧ 0 ≤ bH) (k1 : Nat) (Q : Int → Ii → Jj → Prop) (r4 : Int → Int → Ii → Jj → Prop) (w4 : ∀ (l2 : Int) (l3 : Int) (I : Ii) (J : Jj), r4 l2 l3 I J → Wz G X 6 (QsU G X (QsB Q)) aH bH 4 [some (.ref (kadr G 100)), some (.ref (kadr G k1)), some (.int (iZ l2)), some (.int (iZ l3)), none, none] [] I J) : ∀ (n : Nat) (l3 : Int) (p4 : Nat) (l5 : Int) (I : Ii) (J : Jj), L_L_feeds_20 sL xs k1 Q r4 n l3 p4 l5 I J → Wz G X 6 (QsU G X (QsB Q)) (aH + 0) (bH + 0) 20 [some (.ref (kadr G 100)), some (.ref (kadr G k1)), none, some (.int (iZ l3)), some (.ref (kadr G p4)), some (.int (iZ l5))] [] I J := by
  intro n
  induction n with
  | zero => intro l3 p4 l5 I J h; exact False.elim h
  | succ n w20 =>
    intro l3 p4 l5 I J h
    have h : Lb_L_feeds_20 sL xs k1 Q r4 (L_L_feeds_20 sL xs k1 Q r4 n) l3 p4 l5 I J := h
    unfold Lb_L_feeds_20 at h
    generalize L_L_feeds_20 sL xs k1 Q r4 n = r20 at h w20
    refine wz_iload C rfl dL_feeds_20 ?_
    refine wz_bipush C (by decide) dL_feeds_22 ?_
    obtain ⟨g21, h⟩ := h
    refine wz_icmp_ge C (tgt := 75) g21 (by decide) dL_feeds_24 (by decide) (fun c => ?_) (fun c => ?_)
    · replace h := h.1 c
      refine wz_aload_n C rfl rfl dL_feeds_75 ?_
      refine wz_aload C rfl dL_feeds_76 ?_
      refine wz_iconst C dL_feeds_78 ?_
      obtain ⟨g22, h⟩ := h
      refine wy_iald C g22 dL_feeds_79 ?_
      refine wz_aload C rfl dL_feeds_80 ?_
      refine wz_iconst C dL_feeds_82 ?_
      obtain ⟨g23, h⟩ := h
      refine wy_iald C g23 dL_feeds_83 ?_
      refine wz_aload C rfl dL_feeds_84 ?_
      refine wz_iconst C dL_feeds_86 ?_
      obtain ⟨g24, h⟩ := h
      refine wy_iald C g24 dL_feeds_87 ?_
      refine wz_aload C rfl dL_feeds_88 ?_
      refine wz_iconst C dL_feeds_90 ?_
      obtain ⟨g25, h⟩ := h
      refine wy_iald C g25 dL_feeds_91 ?_
      refine wz_aload C rfl dL_feeds_92 ?_
      refine wz_iconst C dL_feeds_94 ?_
      obtain ⟨g26, h⟩ := h
      refine wy_iald C g26 dL_feeds_95 ?_
      refine wm_callV C (S := (I, J)) (o := 100) (As := [.int (iZ (I p4 ((0 : Int).toNat))), .int (iZ (I p4 ((1 : Int).toNat))), .int (iZ (I p4 ((2 : Int).toNat))), .int (iZ (I p4 ((3 : Int).toNat))), .int (iZ (I p4 ((4 : Int).toNat)))]) (st := []) (a' := aH + 0) (b' := bH + 0) (shK_c hGC.2 rfl) rfl (k_X11_feed G hGC (I p4 ((0 : Int).toNat)) (I p4 ((1 : Int).toNat)) (I p4 ((2 : Int).toNat)) (I p4 ((3 : Int).toNat)) (I p4 ((4 : Int).toNat)) I J _ h) 5 gL_feeds_X11_feed rfl (by decide +kernel) (by rw [hX]; exact ⟨Nat.le_of_ble_eq_true rfl, Nat.le_of_ble_eq_true rfl⟩) rfl (Nat.le_of_ble_eq_true rfl) (by show 0 + (aH + 0) = aH + 0; omega) (by show 0 + (bH + 0) = bH + 0; omega) rfl dL_feeds_96 (kk_sI (fun v27 I27 J27 h => ?_))
      refine wz_istore_2 C rfl dL_feeds_99 ?_
      refine wz_iinc_3 C rfl dL_feeds_100 ?_
      refine wz_goto C dL_feeds_103 (tgt := 4) (by decide) ?_
      exact Wz.less (a0 := aH) (b0 := bH) (by omega) (by omega) (Wz.drop (w4 v27 (l3 + 20) I27 J27 h) (And.intro rfl (And.intro rfl (And.intro rfl (And.intro rfl trivial)))))
    · replace h := h.2 c
      refine wz_aload C rfl dL_feeds_27 ?_
      refine wz_iload C rfl dL_feeds_29 ?_
      refine wz_iconst C dL_feeds_31 ?_
      obtain ⟨g28, h⟩ := h
      refine wd_idiv C g28 dL_feeds_32 ?_
      refine wz_aload C rfl dL_feeds_33 ?_
      refine wz_iload C rfl dL_feeds_35 ?_
      refine wz_iconst C dL_feeds_37 ?_
      obtain ⟨g29, h⟩ := h
      refine wd_idiv C g29 dL_feeds_38 ?_
      obtain ⟨g30, h⟩ := h
      refine wy_iald C g30 dL_feeds_39 ?_
      refine wz_bipush C (by decide) dL_feeds_40 ?_
      refine wd_ishl C dL_feeds_42 ?_
      refine wz_iload_n C rfl rfl dL_feeds_43 ?_
      refine wz_iload C rfl dL_feeds_44 ?_
      refine wz_iadd C dL_feeds_46 ?_
      refine wz_aload_n C rfl rfl dL_feeds_47 ?_
      obtain ⟨g32, h⟩ := h
      refine wy_callT C hW (o := k1) (As := []) (st := [.int (iZ (l3 + l5)), .int (iZ (shlZ (I p4 ((l5 / 4).toNat)) 8)), .int (iZ (l5 / 4)), .ref (kadr G p4)]) (a' := aH + 0) (b' := bH + 0) g32 (k_J0_length_8abf5 G hG hW k1 I J _ h) 0 gL_feeds_J0_length_8abf5 rfl (by decide +kernel) (by rw [hX]; exact ⟨Nat.le_of_ble_eq_true rfl, Nat.le_of_ble_eq_true rfl⟩) rfl (Nat.le_of_ble_eq_true rfl) (by show 0 + (aH + 0) = aH + 0; omega) (by show 0 + (bH + 0) = bH + 0; omega) rfl dL_feeds_48 (kk_sI (fun v31 I31 J31 h => ?_))
      obtain ⟨g33, h⟩ := h
      obtain ⟨g34, h⟩ := h
      refine wz_icmp_ge C (tgt := 65) g33 g34 dL_feeds_51 (by decide) (fun c => ?_) (fun c => ?_)
      · replace h := h.1 c
        refine wz_bipush C (by decide) dL_feeds_65 ?_
        refine wd_ior C dL_feeds_67 ?_
        obtain ⟨g35, h⟩ := h
        refine wy_iast C g35 dL_feeds_68 (fun I36 e => ?_)
        replace h := h I36 e
        refine wz_iinc_5 C rfl dL_feeds_69 ?_
        refine wz_goto C dL_feeds_72 (tgt := 20) (by decide) ?_
        exact Wz.less (a0 := aH + 0) (b0 := bH + 0) (by omega) (by omega) (w20 l3 p4 (l5 + 1) I36 J31 h)
      · replace h := h.2 c
        refine wz_aload_n C rfl rfl dL_feeds_54 ?_
        refine wz_iload_n C rfl rfl dL_feeds_55 ?_
        refine wz_iload C rfl dL_feeds_56 ?_
        refine wz_iadd C dL_feeds_58 ?_
        obtain ⟨g38, h⟩ := h
        refine wy_callT C hW (o := k1) (As := [.int (iZ (l3 + l5))]) (st := [.int (iZ (shlZ (I p4 ((l5 / 4).toNat)) 8)), .int (iZ (l5 / 4)), .ref (kadr G p4)]) (a' := aH + 0) (b' := bH + 0) g38 (k_J0_charAt_5068e G hG hW k1 (l3 + l5) I31 J31 _ h) 1 gL_feeds_J0_charAt_5068e rfl (by decide +kernel) (by rw [hX]; exact ⟨Nat.le_of_ble_eq_true rfl, Nat.le_of_ble_eq_true rfl⟩) rfl (Nat.le_of_ble_eq_true rfl) (by show 0 + (aH + 0) = aH + 0; omega) (by show 0 + (bH + 0) = bH + 0; omega) rfl dL_feeds_59 (kk_sI (fun v37 I37 J37 h => ?_))
        refine wz_goto C dL_feeds_62 (tgt := 67) (by decide) ?_
        refine wd_ior C dL_feeds_67 ?_
        obtain ⟨g39, h⟩ := h
        refine wy_iast C g39 dL_feeds_68 (fun I40 e => ?_)
        replace h := h I40 e
        refine wz_iinc_5 C rfl dL_feeds_69 ?_
        refine wz_goto C dL_feeds_72 (tgt := 20) (by decide) ?_
        exact Wz.less (a0 := aH + 0) (b0 := bH + 0) (by omega) (by omega) (w20 l3 p4 (l5 + 1) I40 J37 h)
set_option maxHeartbeats 4000000 in
set_option maxRecDepth 100000 in
theorem lk_L_feeds_4 (G : KG) (hGC : KokC G) (hG : Kok G) (hW : KWx G) {sL : Nat} {xs : Nat → Int} (hT : KScr G sL xs) (X : KX) (hX : KR X = rm_L_feeds) (C : Fr G X cL_feeds 6 yL_feeds.cls (some .boolean) wsL_feeds) (k1 : Nat) (Q : Int → Ii → Jj → Prop) : ∀ (n : Nat) (l2 : Int) (l3 : Int) (I : Ii) (J : Jj), L_L_feeds_4 sL xs k1 Q n l2 l3 I J → Wz G X 6 (QsU G X (QsB Q)) (n * 1 + 0) (n * 5 + 0) 4 [some (.ref (kadr G 100)), some (.ref (kadr G k1)), some (.int (iZ l2)), some (.int (iZ l3)), none, none] [] I J := by
  intro n
  induction n with
  | zero => intro l2 l3 I J h; exact False.elim h
  | succ n w4 =>
    intro l2 l3 I J h
    have h : Lb_L_feeds_4 sL xs k1 Q (L_L_feeds_4 sL xs k1 Q n) l2 l3 I J := h
    unfold Lb_L_feeds_4 at h
    generalize L_L_feeds_4 sL xs k1 Q n = r4 at h w4
    refine Wz.less (a0 := n * 1 + 0 + 1) (b0 := n * 5 + 0 + 5) (by omega) (by omega) ?_
    have haH : 0 ≤ n * 1 + 0 ∧ 0 ≤ n * 5 + 0 := by omega
    generalize n * 1 + 0 = aH at w4 haH ⊢
    generalize n * 5 + 0 = bH at w4 haH ⊢
    refine wz_iload_n C rfl rfl dL_feeds_4 ?_
    refine wz_aload_n C rfl rfl dL_feeds_5 ?_
    obtain ⟨g2, h⟩ := h
    refine wy_callT C hW (o := k1) (As := []) (st := [.int (iZ l3)]) (a' := aH + 1) (b' := bH + 5) g2 (k_J0_length_8abf5 G hG hW k1 I J _ h) 0 gL_feeds_J0_length_8abf5 rfl (by decide +kernel) (by rw [hX]; exact ⟨Nat.le_of_ble_eq_true rfl, Nat.le_of_ble_eq_true rfl⟩) rfl (Nat.le_of_ble_eq_true rfl) (by show 0 + (aH + 1) = aH + 1; omega) (by show 0 + (bH + 5) = bH + 5; omega) rfl dL_feeds_6 (kk_sI (fun v1 I1 J1 h => ?_))
    obtain ⟨g3, h⟩ := h
    obtain ⟨g4, h⟩ := h
    refine wz_icmp_ge C (tgt := 106) g3 g4 dL_feeds_9 (by decide) (fun c => ?_) (fun c => ?_)
    · replace h := h.1 c
      refine wz_aload_n C rfl rfl dL_feeds_106 ?_
      obtain ⟨g6, h⟩ := h
      refine wy_callT C hW (o := k1) (As := []) (st := []) (a' := aH + 1) (b' := bH + 5) g6 (k_J0_isEmpty_aae02 G hG hW k1 I1 J1 _ h) 0 gL_feeds_J0_isEmpty_aae02 rfl (by decide +kernel) (by rw [hX]; exact ⟨Nat.le_of_ble_eq_true rfl, Nat.le_of_ble_eq_true rfl⟩) rfl (Nat.le_of_ble_eq_true rfl) (by show 0 + (aH + 1) = aH + 1; omega) (by show 0 + (bH + 5) = bH + 5; omega) rfl dL_feeds_107 (kk_sB (fun v5 I5 J5 hb5 h => ?_))
      refine wz_if_ne C (tgt := 136) (rgB hb5) dL_feeds_110 (by decide) (fun c => ?_) (fun c => ?_)
      · replace h := h.1 c
        refine wz_iconst C dL_feeds_136 ?_
        refine wz_goto C dL_feeds_137 (tgt := 141) (by decide) ?_
        exact wz_zret C (Or.inr rfl) dL_feeds_141 ⟨_, rfl, (Or.inr rfl), h⟩
      · replace h := h.2 c
        refine wz_iload_n C rfl rfl dL_feeds_113 ?_
        refine wz_aload_n C rfl rfl dL_feeds_114 ?_
        obtain ⟨g8, h⟩ := h
        refine wy_callT C hW (o := k1) (As := []) (st := [.int (iZ l2)]) (a' := aH + 1) (b' := bH + 5) g8 (k_J0_length_8abf5 G hG hW k1 I5 J5 _ h) 0 gL_feeds_J0_length_8abf5 rfl (by decide +kernel) (by rw [hX]; exact ⟨Nat.le_of_ble_eq_true rfl, Nat.le_of_ble_eq_true rfl⟩) rfl (Nat.le_of_ble_eq_true rfl) (by show 0 + (aH + 1) = aH + 1; omega) (by show 0 + (bH + 5) = bH + 5; omega) rfl dL_feeds_115 (kk_sI (fun v7 I7 J7 h => ?_))
        obtain ⟨g9, h⟩ := h
        obtain ⟨g10, h⟩ := h
        refine wz_icmp_lt C (tgt := 140) g9 g10 dL_feeds_118 (by decide) (fun c => ?_) (fun c => ?_)
        · replace h := h.1 c
          refine wz_iconst C dL_feeds_140 ?_
          exact wz_zret C (Or.inl rfl) dL_feeds_141 ⟨_, rfl, (Or.inl rfl), h⟩
        · replace h := h.2 c
          refine wz_aload_n C rfl rfl dL_feeds_121 ?_
          refine wz_aload_n C rfl rfl dL_feeds_122 ?_
          obtain ⟨g12, h⟩ := h
          refine wy_callT C hW (o := k1) (As := []) (st := [.ref (kadr G 100)]) (a' := aH + 1) (b' := bH + 5) g12 (k_J0_length_8abf5 G hG hW k1 I7 J7 _ h) 0 gL_feeds_J0_length_8abf5 rfl (by decide +kernel) (by rw [hX]; exact ⟨Nat.le_of_ble_eq_true rfl, Nat.le_of_ble_eq_true rfl⟩) rfl (Nat.le_of_ble_eq_true rfl) (by show 0 + (aH + 1) = aH + 1; omega) (by show 0 + (bH + 5) = bH + 5; omega) rfl dL_feeds_123 (kk_sI (fun v11 I11 J11 h => ?_))
          refine wm_callV C (S := (I11, J11)) (o := 100) (As := [.int (iZ v11)]) (st := []) (a' := aH + 1) (b' := bH + 5) (shK_c hGC.2 rfl) rfl (k_X11_truncate G hGC v11 I11 J11 _ h) 1 gL_feeds_X11_truncate rfl (by decide +kernel) (by rw [hX]; exact ⟨Nat.le_of_ble_eq_true rfl, Nat.le_of_ble_eq_true rfl⟩) rfl (Nat.le_of_ble_eq_true rfl) (by show 0 + (aH + 1) = aH + 1; omega) (by show 0 + (bH + 5) = bH + 5; omega) rfl dL_feeds_126 (kk_sI (fun v13 I13 J13 h => ?_))
          refine wz_aload_n C rfl rfl dL_feeds_129 ?_
          obtain ⟨g15, h⟩ := h
          refine wy_callT C hW (o := k1) (As := []) (st := [.int (iZ v13)]) (a' := aH + 1) (b' := bH + 5) g15 (k_J0_length_8abf5 G hG hW k1 I13 J13 _ h) 0 gL_feeds_J0_length_8abf5 rfl (by decide +kernel) (by rw [hX]; exact ⟨Nat.le_of_ble_eq_true rfl, Nat.le_of_ble_eq_true rfl⟩) rfl (Nat.le_of_ble_eq_true rfl) (by show 0 + (aH + 1) = aH + 1; omega) (by show 0 + (bH + 5) = bH + 5; omega) rfl dL_feeds_130 (kk_sI (fun v14 I14 J14 h => ?_))
          obtain ⟨g16, h⟩ := h
          obtain ⟨g17, h⟩ := h
          refine wz_icmp_ne C (tgt := 140) g16 g17 dL_feeds_133 (by decide) (fun c => ?_) (fun c => ?_)
          · replace h := h.1 c
            refine wz_iconst C dL_feeds_140 ?_
            exact wz_zret C (Or.inl rfl) dL_feeds_141 ⟨_, rfl, (Or.inl rfl), h⟩
          · replace h := h.2 c
            refine wz_iconst C dL_feeds_136 ?_
            refine wz_goto C dL_feeds_137 (tgt := 141) (by decide) ?_
            exact wz_zret C (Or.inr rfl) dL_feeds_141 ⟨_, rfl, (Or.inr rfl), h⟩
    · replace h := h.2 c
      refine wz_iconst C dL_feeds_12 ?_
      obtain ⟨g18, h⟩ := h
      refine wy_newI C 5 g18 (by decide) (by decide +kernel) dL_feeds_13 (a' := aH + 0) (b' := bH + 0) (by omega) (by omega) (fun I19 e => ?_)
      replace h := h I19 e
      replace h := h _ rfl
      refine wz_astore_4 C rfl dL_feeds_15 ?_
      refine wz_iconst C dL_feeds_17 ?_
      refine wz_istore_5 C rfl dL_feeds_18 ?_
      obtain ⟨n, h⟩ := h
      exact Wz.less (a0 := aH + 0) (b0 := bH + 0) (by omega) (by omega) (Wz.drop (lk_L_feeds_20 G hGC hG hW hT X hX C aH bH haH k1 Q r4 w4 n l3 ((I1 999 0).toNat) 0 I19 J1 h) (And.intro rfl (And.intro rfl (And.intro rfl (And.intro rfl (And.intro rfl trivial))))))
set_option maxHeartbeats 4000000 in
set_option maxRecDepth 100000 in
theorem k_L_feeds (G : KG) (hGC : KokC G) (hW : KWx G) {sL : Nat} {xs : Nat → Int} (hT : KScr G sL xs) (k1 : Nat) (I : Ii) (J : Jj) (Q : Int → Ii → Jj → Prop) (h : wp_L_feeds sL xs k1 I J Q) : Ctr G yL_feeds wsL_feeds rm_L_feeds [.ref (kadr G 100), .ref (kadr G k1)] (I, J) (QsB Q) := by
  unfold wp_L_feeds at h
  have hG := hGC.1
  refine Ctr.ofZ (cc := cL_feeds) (nL := 6) (ret := (some .boolean)) [some (.ref (kadr G 100)), some (.ref (kadr G k1)), none, none, none, none] hG (by decide +kernel) rfl (Nat.le_of_ble_eq_true rfl) (Nat.le_of_ble_eq_true rfl) (by simp [lvA, lv_args, Value.category]) ?_
  intro X hX C
  refine (?_ : Wz G X 6 (QsU G X (QsB Q)) 40 200 0 [some (.ref (kadr G 100)), some (.ref (kadr G k1)), none, none, none, none] [] I J)
  refine wz_iconst C dL_feeds_0 ?_
  refine wz_istore_2 C rfl dL_feeds_1 ?_
  refine wz_iconst C dL_feeds_2 ?_
  refine wz_istore_3 C rfl dL_feeds_3 ?_
  obtain ⟨n, hn, h⟩ := h
  exact Wz.less (a0 := n * 1 + 0) (b0 := n * 5 + 0) (by omega) (by omega) (lk_L_feeds_4 G hGC hG hW hT X hX C k1 Q n 0 0 I J h)
theorem in_L_shared_X12 : ∀ w ∈ wsX120, w ∈ wsL_shared := by decide +kernel
theorem f_L_shared_101 : FLk wsL_shared RL 101 15 1 := flk 15 1 rfl tyX12_ok nmX12 in_L_shared_X12 (by decide) (by decide +kernel)
theorem f_L_shared_83 : FLk wsL_shared RL 83 15 0 := flk 15 0 rfl tyX12_ok nmX12 in_L_shared_X12 (by decide) (by decide +kernel)
def rm_L_shared : Room := { frames := 6, cells := 0, slots := 0, locals := 147 }
set_option maxHeartbeats 4000000 in
set_option maxRecDepth 100000 in
theorem lk_L_shared_136 (G : KG) (hGC : KokC G) (hG : Kok G) (hW : KWx G) {sL : Nat} {xs : Nat → Int} (hT : KScr G sL xs) (X : KX) (hX : KR X = rm_L_shared) (C : Fr G X cL_shared 9 yL_shared.cls (some .boolean) wsL_shared) (Q : Int → Ii → Jj → Prop) : ∀ (n : Nat) (l2 : Int) (l6 : Int) (l7 : Int) (I : Ii) (J : Jj), L_L_shared_136 sL xs Q n l2 l6 l7 I J → Wz G X 9 (QsU G X (QsB Q)) 0 0 136 [some (.ref (kadr G 100)), none, some (.int (iZ l2)), none, none, none, some (.int (iZ l6)), some (.int (iZ l7)), none] [] I J := by
  intro n
  induction n with
  | zero => intro l2 l6 l7 I J h; exact False.elim h
  | succ n w136 =>
    intro l2 l6 l7 I J h
    have h : Lb_L_shared_136 sL xs Q (L_L_shared_136 sL xs Q n) l2 l6 l7 I J := h
    unfold Lb_L_shared_136 at h
    generalize L_L_shared_136 sL xs Q n = r136 at h w136
    refine wz_iload C rfl dL_shared_136 ?_
    refine wz_aload_n C rfl rfl dL_shared_138 ?_
    refine wz_bipush C (by decide) dL_shared_139 ?_
    refine wm_callV C (S := (I, J)) (o := 100) (As := [.int (iZ 9)]) (st := [.int (iZ l7)]) (a' := 0) (b' := 0) (shK_c hGC.2 rfl) rfl (k_X11_setting G hGC 9 I J _ h) 1 gL_shared_X11_setting rfl (by decide +kernel) (by rw [hX]; exact ⟨Nat.le_of_ble_eq_true rfl, Nat.le_of_ble_eq_true rfl⟩) rfl (Nat.le_of_ble_eq_true rfl) (by show 0 + (0) = 0; omega) (by show 0 + (0) = 0; omega) rfl dL_shared_141 (kk_sI (fun v19 I19 J19 h => ?_))
    obtain ⟨g20, h⟩ := h
    obtain ⟨g21, h⟩ := h
    refine wz_icmp_ge C (tgt := 276) g20 g21 dL_shared_144 (by decide) (fun c => ?_) (fun c => ?_)
    · replace h := h.1 c
      refine wz_iload C rfl dL_shared_276 ?_
      refine wz_iload_n C rfl rfl dL_shared_278 ?_
      obtain ⟨g22, h⟩ := h
      obtain ⟨g23, h⟩ := h
      refine wz_icmp_ne C (tgt := 348) g22 g23 dL_shared_279 (by decide) (fun c => ?_) (fun c => ?_)
      · replace h := h.1 c
        refine wz_iconst C dL_shared_348 ?_
        exact wz_zret C (Or.inl rfl) dL_shared_349 ⟨_, rfl, (Or.inl rfl), h⟩
      · replace h := h.2 c
        refine wz_aload_n C rfl rfl dL_shared_282 ?_
        refine wz_bipush C (by decide) dL_shared_283 ?_
        refine wm_callV C (S := (I19, J19)) (o := 100) (As := [.int (iZ 9)]) (st := []) (a' := 0) (b' := 0) (shK_c hGC.2 rfl) rfl (k_X11_setting G hGC 9 I19 J19 _ h) 1 gL_shared_X11_setting rfl (by decide +kernel) (by rw [hX]; exact ⟨Nat.le_of_ble_eq_true rfl, Nat.le_of_ble_eq_true rfl⟩) rfl (Nat.le_of_ble_eq_true rfl) (by show 0 + (0) = 0; omega) (by show 0 + (0) = 0; omega) rfl dL_shared_285 (kk_sI (fun v24 I24 J24 h => ?_))
        refine wz_bipush C (by decide) dL_shared_288 ?_
        obtain ⟨g25, h⟩ := h
        refine wz_icmp_le C (tgt := 304) g25 (by decide) dL_shared_290 (by decide) (fun c => ?_) (fun c => ?_)
        · replace h := h.1 c
          refine wz_aload_n C rfl rfl dL_shared_304 ?_
          refine wm_callV C (S := (I24, J24)) (o := 100) (As := []) (st := []) (a' := 0) (b' := 0) (shK_c hGC.2 rfl) rfl (k_X11_bestDebts G hGC I24 J24 _ h) 0 gL_shared_X11_bestDebts rfl (by decide +kernel) (by rw [hX]; exact ⟨Nat.le_of_ble_eq_true rfl, Nat.le_of_ble_eq_true rfl⟩) rfl (Nat.le_of_ble_eq_true rfl) (by show 0 + (0) = 0; omega) (by show 0 + (0) = 0; omega) rfl dL_shared_305 (kk_sI (fun v26 I26 J26 h => ?_))
          obtain ⟨g27, h⟩ := h
          refine wz_if_lt C (tgt := 348) g27 dL_shared_308 (by decide) (fun c => ?_) (fun c => ?_)
          · replace h := h.1 c
            refine wz_iconst C dL_shared_348 ?_
            exact wz_zret C (Or.inl rfl) dL_shared_349 ⟨_, rfl, (Or.inl rfl), h⟩
          · replace h := h.2 c
            refine wz_aload_n C rfl rfl dL_shared_311 ?_
            refine wm_callV C (S := (I26, J26)) (o := 100) (As := []) (st := []) (a' := 0) (b' := 0) (shK_c hGC.2 rfl) rfl (k_X11_bestDebts G hGC I26 J26 _ h) 0 gL_shared_X11_bestDebts rfl (by decide +kernel) (by rw [hX]; exact ⟨Nat.le_of_ble_eq_true rfl, Nat.le_of_ble_eq_true rfl⟩) rfl (Nat.le_of_ble_eq_true rfl) (by show 0 + (0) = 0; omega) (by show 0 + (0) = 0; omega) rfl dL_shared_312 (kk_sI (fun v28 I28 J28 h => ?_))
            refine wz_aload_n C rfl rfl dL_shared_315 ?_
            refine wm_callV C (S := (I28, J28)) (o := 100) (As := []) (st := [.int (iZ v28)]) (a' := 0) (b' := 0) (shK_c hGC.2 rfl) rfl (k_X11_debts G hGC I28 J28 _ h) 0 gL_shared_X11_debts rfl (by decide +kernel) (by rw [hX]; exact ⟨Nat.le_of_ble_eq_true rfl, Nat.le_of_ble_eq_true rfl⟩) rfl (Nat.le_of_ble_eq_true rfl) (by show 0 + (0) = 0; omega) (by show 0 + (0) = 0; omega) rfl dL_shared_316 (kk_sI (fun v29 I29 J29 h => ?_))
            obtain ⟨g30, h⟩ := h
            obtain ⟨g31, h⟩ := h
            refine wz_icmp_gt C (tgt := 348) g30 g31 dL_shared_319 (by decide) (fun c => ?_) (fun c => ?_)
            · replace h := h.1 c
              refine wz_iconst C dL_shared_348 ?_
              exact wz_zret C (Or.inl rfl) dL_shared_349 ⟨_, rfl, (Or.inl rfl), h⟩
            · replace h := h.2 c
              refine wz_aload_n C rfl rfl dL_shared_322 ?_
              refine wm_callV C (S := (I29, J29)) (o := 100) (As := []) (st := []) (a' := 0) (b' := 0) (shK_c hGC.2 rfl) rfl (k_X11_bestDebts G hGC I29 J29 _ h) 0 gL_shared_X11_bestDebts rfl (by decide +kernel) (by rw [hX]; exact ⟨Nat.le_of_ble_eq_true rfl, Nat.le_of_ble_eq_true rfl⟩) rfl (Nat.le_of_ble_eq_true rfl) (by show 0 + (0) = 0; omega) (by show 0 + (0) = 0; omega) rfl dL_shared_323 (kk_sI (fun v32 I32 J32 h => ?_))
              refine wz_aload_n C rfl rfl dL_shared_326 ?_
              refine wm_callV C (S := (I32, J32)) (o := 100) (As := []) (st := [.int (iZ v32)]) (a' := 0) (b' := 0) (shK_c hGC.2 rfl) rfl (k_X11_debts G hGC I32 J32 _ h) 0 gL_shared_X11_debts rfl (by decide +kernel) (by rw [hX]; exact ⟨Nat.le_of_ble_eq_true rfl, Nat.le_of_ble_eq_true rfl⟩) rfl (Nat.le_of_ble_eq_true rfl) (by show 0 + (0) = 0; omega) (by show 0 + (0) = 0; omega) rfl dL_shared_327 (kk_sI (fun v33 I33 J33 h => ?_))
              obtain ⟨g34, h⟩ := h
              obtain ⟨g35, h⟩ := h
              refine wz_icmp_lt C (tgt := 344) g34 g35 dL_shared_330 (by decide) (fun c => ?_) (fun c => ?_)
              · replace h := h.1 c
                refine wz_iconst C dL_shared_344 ?_
                refine wz_goto C dL_shared_345 (tgt := 349) (by decide) ?_
                exact wz_zret C (Or.inr rfl) dL_shared_349 ⟨_, rfl, (Or.inr rfl), h⟩
              · replace h := h.2 c
                refine wz_aload_n C rfl rfl dL_shared_333 ?_
                refine wm_callV C (S := (I33, J33)) (o := 100) (As := []) (st := []) (a' := 0) (b' := 0) (shK_c hGC.2 rfl) rfl (k_X11_bestCut G hGC I33 J33 _ h) 0 gL_shared_X11_bestCut rfl (by decide +kernel) (by rw [hX]; exact ⟨Nat.le_of_ble_eq_true rfl, Nat.le_of_ble_eq_true rfl⟩) rfl (Nat.le_of_ble_eq_true rfl) (by show 0 + (0) = 0; omega) (by show 0 + (0) = 0; omega) rfl dL_shared_334 (kk_sI (fun v36 I36 J36 h => ?_))
                refine wz_aload_n C rfl rfl dL_shared_337 ?_
                refine wm_callV C (S := (I36, J36)) (o := 100) (As := []) (st := [.int (iZ v36)]) (a' := 0) (b' := 0) (shK_c hGC.2 rfl) rfl (k_X11_cut G hGC I36 J36 _ h) 0 gL_shared_X11_cut rfl (by decide +kernel) (by rw [hX]; exact ⟨Nat.le_of_ble_eq_true rfl, Nat.le_of_ble_eq_true rfl⟩) rfl (Nat.le_of_ble_eq_true rfl) (by show 0 + (0) = 0; omega) (by show 0 + (0) = 0; omega) rfl dL_shared_338 (kk_sI (fun v37 I37 J37 h => ?_))
                obtain ⟨g38, h⟩ := h
                obtain ⟨g39, h⟩ := h
                refine wz_icmp_gt C (tgt := 348) g38 g39 dL_shared_341 (by decide) (fun c => ?_) (fun c => ?_)
                · replace h := h.1 c
                  refine wz_iconst C dL_shared_348 ?_
                  exact wz_zret C (Or.inl rfl) dL_shared_349 ⟨_, rfl, (Or.inl rfl), h⟩
                · replace h := h.2 c
                  refine wz_iconst C dL_shared_344 ?_
                  refine wz_goto C dL_shared_345 (tgt := 349) (by decide) ?_
                  exact wz_zret C (Or.inr rfl) dL_shared_349 ⟨_, rfl, (Or.inr rfl), h⟩
        · replace h := h.2 c
          refine wz_aload_n C rfl rfl dL_shared_293 ?_
          refine wm_callV C (S := (I24, J24)) (o := 100) (As := []) (st := []) (a' := 0) (b' := 0) (shK_c hGC.2 rfl) rfl (k_X11_bestDebts G hGC I24 J24 _ h) 0 gL_shared_X11_bestDebts rfl (by decide +kernel) (by rw [hX]; exact ⟨Nat.le_of_ble_eq_true rfl, Nat.le_of_ble_eq_true rfl⟩) rfl (Nat.le_of_ble_eq_true rfl) (by show 0 + (0) = 0; omega) (by show 0 + (0) = 0; omega) rfl dL_shared_294 (kk_sI (fun v40 I40 J40 h => ?_))
          refine wz_iconst C dL_shared_297 ?_
          obtain ⟨g41, h⟩ := h
          refine wz_icmp_ne C (tgt := 348) g41 (by decide) dL_shared_298 (by decide) (fun c => ?_) (fun c => ?_)
          · replace h := h.1 c
            refine wz_iconst C dL_shared_348 ?_
            exact wz_zret C (Or.inl rfl) dL_shared_349 ⟨_, rfl, (Or.inl rfl), h⟩
          · replace h := h.2 c
            refine wz_goto C dL_shared_301 (tgt := 344) (by decide) ?_
            refine wz_iconst C dL_shared_344 ?_
            refine wz_goto C dL_shared_345 (tgt := 349) (by decide) ?_
            exact wz_zret C (Or.inr rfl) dL_shared_349 ⟨_, rfl, (Or.inr rfl), h⟩
    · replace h := h.2 c
      refine wz_iload C rfl dL_shared_147 ?_
      refine wz_aload_n C rfl rfl dL_shared_149 ?_
      refine wz_iload C rfl dL_shared_150 ?_
      refine wz_iconst C dL_shared_152 ?_
      refine wm_callV C (S := (I19, J19)) (o := 100) (As := [.int (iZ l7), .int (iZ 0)]) (st := [.int (iZ l6)]) (a' := 0) (b' := 0) (shK_c hGC.2 rfl) rfl (k_X11_group G hGC l7 0 I19 J19 _ h) 2 gL_shared_X11_group rfl (by decide +kernel) (by rw [hX]; exact ⟨Nat.le_of_ble_eq_true rfl, Nat.le_of_ble_eq_true rfl⟩) rfl (Nat.le_of_ble_eq_true rfl) (by show 0 + (0) = 0; omega) (by show 0 + (0) = 0; omega) rfl dL_shared_153 (kk_sI (fun v42 I42 J42 h => ?_))
      refine wd_iand C dL_shared_156 ?_
      refine wz_if_ne C (tgt := 190) (toInt_rg _) dL_shared_157 (by decide) (fun c => ?_) (fun c => ?_)
      · replace h := h.1 c
        refine wz_iconst C dL_shared_190 ?_
        exact wz_zret C (Or.inl rfl) dL_shared_191 ⟨_, rfl, (Or.inl rfl), h⟩
      · replace h := h.2 c
        refine wz_aload_n C rfl rfl dL_shared_160 ?_
        refine wz_aload_n C rfl rfl dL_shared_161 ?_
        refine wz_iload C rfl dL_shared_162 ?_
        refine wz_iconst C dL_shared_164 ?_
        refine wm_callV C (S := (I42, J42)) (o := 100) (As := [.int (iZ l7), .int (iZ 2)]) (st := [.ref (kadr G 100)]) (a' := 0) (b' := 0) (shK_c hGC.2 rfl) rfl (k_X11_group G hGC l7 2 I42 J42 _ h) 2 gL_shared_X11_group rfl (by decide +kernel) (by rw [hX]; exact ⟨Nat.le_of_ble_eq_true rfl, Nat.le_of_ble_eq_true rfl⟩) rfl (Nat.le_of_ble_eq_true rfl) (by show 0 + (0) = 0; omega) (by show 0 + (0) = 0; omega) rfl dL_shared_165 (kk_sI (fun v43 I43 J43 h => ?_))
        refine wz_iconst C dL_shared_168 ?_
        refine wm_callV C (S := (I43, J43)) (o := 100) (As := [.int (iZ v43), .int (iZ 2)]) (st := []) (a' := 0) (b' := 0) (shK_c hGC.2 rfl) rfl (k_X11_part G hGC v43 2 I43 J43 _ h) 2 gL_shared_X11_part rfl (by decide +kernel) (by rw [hX]; exact ⟨Nat.le_of_ble_eq_true rfl, Nat.le_of_ble_eq_true rfl⟩) rfl (Nat.le_of_ble_eq_true rfl) (by show 0 + (0) = 0; omega) (by show 0 + (0) = 0; omega) rfl dL_shared_169 (kk_sI (fun v44 I44 J44 h => ?_))
        refine wz_aload_n C rfl rfl dL_shared_172 ?_
        refine wz_iload C rfl dL_shared_173 ?_
        refine wz_iconst C dL_shared_175 ?_
        refine wm_callV C (S := (I44, J44)) (o := 100) (As := [.int (iZ l7), .int (iZ 0)]) (st := [.int (iZ v44)]) (a' := 0) (b' := 0) (shK_c hGC.2 rfl) rfl (k_X11_group G hGC l7 0 I44 J44 _ h) 2 gL_shared_X11_group rfl (by decide +kernel) (by rw [hX]; exact ⟨Nat.le_of_ble_eq_true rfl, Nat.le_of_ble_eq_true rfl⟩) rfl (Nat.le_of_ble_eq_true rfl) (by show 0 + (0) = 0; omega) (by show 0 + (0) = 0; omega) rfl dL_shared_176 (kk_sI (fun v45 I45 J45 h => ?_))
        refine wd_iand C dL_shared_179 ?_
        refine wz_aload_n C rfl rfl dL_shared_180 ?_
        refine wz_iload C rfl dL_shared_181 ?_
        refine wz_iconst C dL_shared_183 ?_
        refine wm_callV C (S := (I45, J45)) (o := 100) (As := [.int (iZ l7), .int (iZ 0)]) (st := [.int (iZ (andZ v44 v45))]) (a' := 0) (b' := 0) (shK_c hGC.2 rfl) rfl (k_X11_group G hGC l7 0 I45 J45 _ h) 2 gL_shared_X11_group rfl (by decide +kernel) (by rw [hX]; exact ⟨Nat.le_of_ble_eq_true rfl, Nat.le_of_ble_eq_true rfl⟩) rfl (Nat.le_of_ble_eq_true rfl) (by show 0 + (0) = 0; omega) (by show 0 + (0) = 0; omega) rfl dL_shared_184 (kk_sI (fun v46 I46 J46 h => ?_))
        obtain ⟨g47, h⟩ := h
        refine wz_icmp_eq C (tgt := 192) (toInt_rg _) g47 dL_shared_187 (by decide) (fun c => ?_) (fun c => ?_)
        · replace h := h.1 c
          refine wz_iload C rfl dL_shared_192 ?_
          refine wz_aload_n C rfl rfl dL_shared_194 ?_
          refine wz_iload C rfl dL_shared_195 ?_
          refine wz_iconst C dL_shared_197 ?_
          refine wm_callV C (S := (I46, J46)) (o := 100) (As := [.int (iZ l7), .int (iZ 0)]) (st := [.int (iZ l6)]) (a' := 0) (b' := 0) (shK_c hGC.2 rfl) rfl (k_X11_group G hGC l7 0 I46 J46 _ h) 2 gL_shared_X11_group rfl (by decide +kernel) (by rw [hX]; exact ⟨Nat.le_of_ble_eq_true rfl, Nat.le_of_ble_eq_true rfl⟩) rfl (Nat.le_of_ble_eq_true rfl) (by show 0 + (0) = 0; omega) (by show 0 + (0) = 0; omega) rfl dL_shared_198 (kk_sI (fun v48 I48 J48 h => ?_))
          refine wd_ior C dL_shared_201 ?_
          refine wz_istore_6 C rfl dL_shared_202 ?_
          refine wz_aload_n C rfl rfl dL_shared_204 ?_
          refine wz_iload C rfl dL_shared_205 ?_
          refine wm_callV C (S := (I48, J48)) (o := 100) (As := [.int (iZ l7)]) (st := []) (a' := 0) (b' := 0) (shK_c hGC.2 rfl) rfl (k_X11_mate G hGC l7 I48 J48 _ h) 1 gL_shared_X11_mate rfl (by decide +kernel) (by rw [hX]; exact ⟨Nat.le_of_ble_eq_true rfl, Nat.le_of_ble_eq_true rfl⟩) rfl (Nat.le_of_ble_eq_true rfl) (by show 0 + (0) = 0; omega) (by show 0 + (0) = 0; omega) rfl dL_shared_207 (kk_sI (fun v49 I49 J49 h => ?_))
          refine wz_istore_8 C rfl dL_shared_210 ?_
          refine wz_iload C rfl dL_shared_212 ?_
          obtain ⟨g50, h⟩ := h
          refine wz_if_lt C (tgt := 270) g50 dL_shared_214 (by decide) (fun c => ?_) (fun c => ?_)
          · replace h := h.1 c
            refine wz_iinc_7 C rfl dL_shared_270 ?_
            refine wz_goto C dL_shared_273 (tgt := 136) (by decide) ?_
            exact Wz.less (a0 := 0) (b0 := 0) (by omega) (by omega) (Wz.drop (w136 l2 (orZ l6 v48) (l7 + 1) I49 J49 h) (And.intro rfl (And.intro rfl (And.intro rfl (And.intro rfl trivial)))))
          · replace h := h.2 c
            refine wz_aload_n C rfl rfl dL_shared_217 ?_
            refine wz_iload C rfl dL_shared_218 ?_
            refine wm_callV C (S := (I49, J49)) (o := 100) (As := [.int (iZ v49)]) (st := []) (a' := 0) (b' := 0) (shK_c hGC.2 rfl) rfl (k_X11_mate G hGC v49 I49 J49 _ h) 1 gL_shared_X11_mate rfl (by decide +kernel) (by rw [hX]; exact ⟨Nat.le_of_ble_eq_true rfl, Nat.le_of_ble_eq_true rfl⟩) rfl (Nat.le_of_ble_eq_true rfl) (by show 0 + (0) = 0; omega) (by show 0 + (0) = 0; omega) rfl dL_shared_220 (kk_sI (fun v51 I51 J51 h => ?_))
            refine wz_iload C rfl dL_shared_223 ?_
            obtain ⟨g52, h⟩ := h
            obtain ⟨g53, h⟩ := h
            refine wz_icmp_ne C (tgt := 268) g52 g53 dL_shared_225 (by decide) (fun c => ?_) (fun c => ?_)
            · replace h := h.1 c
              refine wz_iconst C dL_shared_268 ?_
              exact wz_zret C (Or.inl rfl) dL_shared_269 ⟨_, rfl, (Or.inl rfl), h⟩
            · replace h := h.2 c
              refine wz_aload_n C rfl rfl dL_shared_228 ?_
              refine wz_iload C rfl dL_shared_229 ?_
              refine wz_iconst C dL_shared_231 ?_
              refine wm_callV C (S := (I51, J51)) (o := 100) (As := [.int (iZ l7), .int (iZ 1)]) (st := []) (a' := 0) (b' := 0) (shK_c hGC.2 rfl) rfl (k_X11_group G hGC l7 1 I51 J51 _ h) 2 gL_shared_X11_group rfl (by decide +kernel) (by rw [hX]; exact ⟨Nat.le_of_ble_eq_true rfl, Nat.le_of_ble_eq_true rfl⟩) rfl (Nat.le_of_ble_eq_true rfl) (by show 0 + (0) = 0; omega) (by show 0 + (0) = 0; omega) rfl dL_shared_232 (kk_sI (fun v54 I54 J54 h => ?_))
              refine wz_aload_n C rfl rfl dL_shared_235 ?_
              refine wz_iload C rfl dL_shared_236 ?_
              refine wz_iconst C dL_shared_238 ?_
              refine wm_callV C (S := (I54, J54)) (o := 100) (As := [.int (iZ v49), .int (iZ 1)]) (st := [.int (iZ v54)]) (a' := 0) (b' := 0) (shK_c hGC.2 rfl) rfl (k_X11_group G hGC v49 1 I54 J54 _ h) 2 gL_shared_X11_group rfl (by decide +kernel) (by rw [hX]; exact ⟨Nat.le_of_ble_eq_true rfl, Nat.le_of_ble_eq_true rfl⟩) rfl (Nat.le_of_ble_eq_true rfl) (by show 0 + (0) = 0; omega) (by show 0 + (0) = 0; omega) rfl dL_shared_239 (kk_sI (fun v55 I55 J55 h => ?_))
              refine wz_iadd C dL_shared_242 ?_
              refine wz_aload_n C rfl rfl dL_shared_243 ?_
              refine wz_iconst C dL_shared_244 ?_
              refine wm_callV C (S := (I55, J55)) (o := 100) (As := [.int (iZ 5)]) (st := [.int (iZ (v54 + v55))]) (a' := 0) (b' := 0) (shK_c hGC.2 rfl) rfl (k_X11_setting G hGC 5 I55 J55 _ h) 1 gL_shared_X11_setting rfl (by decide +kernel) (by rw [hX]; exact ⟨Nat.le_of_ble_eq_true rfl, Nat.le_of_ble_eq_true rfl⟩) rfl (Nat.le_of_ble_eq_true rfl) (by show 0 + (0) = 0; omega) (by show 0 + (0) = 0; omega) rfl dL_shared_245 (kk_sI (fun v56 I56 J56 h => ?_))
              obtain ⟨g57, h⟩ := h
              obtain ⟨g58, h⟩ := h
              refine wz_icmp_gt C (tgt := 268) g57 g58 dL_shared_248 (by decide) (fun c => ?_) (fun c => ?_)
              · replace h := h.1 c
                refine wz_iconst C dL_shared_268 ?_
                exact wz_zret C (Or.inl rfl) dL_shared_269 ⟨_, rfl, (Or.inl rfl), h⟩
              · replace h := h.2 c
                refine wz_aload_n C rfl rfl dL_shared_251 ?_
                refine wz_iload C rfl dL_shared_252 ?_
                refine wz_iconst C dL_shared_254 ?_
                refine wm_callV C (S := (I56, J56)) (o := 100) (As := [.int (iZ l7), .int (iZ 2)]) (st := []) (a' := 0) (b' := 0) (shK_c hGC.2 rfl) rfl (k_X11_group G hGC l7 2 I56 J56 _ h) 2 gL_shared_X11_group rfl (by decide +kernel) (by rw [hX]; exact ⟨Nat.le_of_ble_eq_true rfl, Nat.le_of_ble_eq_true rfl⟩) rfl (Nat.le_of_ble_eq_true rfl) (by show 0 + (0) = 0; omega) (by show 0 + (0) = 0; omega) rfl dL_shared_255 (kk_sI (fun v59 I59 J59 h => ?_))
                refine wz_aload_n C rfl rfl dL_shared_258 ?_
                refine wz_iload C rfl dL_shared_259 ?_
                refine wz_iconst C dL_shared_261 ?_
                refine wm_callV C (S := (I59, J59)) (o := 100) (As := [.int (iZ v49), .int (iZ 2)]) (st := [.int (iZ v59)]) (a' := 0) (b' := 0) (shK_c hGC.2 rfl) rfl (k_X11_group G hGC v49 2 I59 J59 _ h) 2 gL_shared_X11_group rfl (by decide +kernel) (by rw [hX]; exact ⟨Nat.le_of_ble_eq_true rfl, Nat.le_of_ble_eq_true rfl⟩) rfl (Nat.le_of_ble_eq_true rfl) (by show 0 + (0) = 0; omega) (by show 0 + (0) = 0; omega) rfl dL_shared_262 (kk_sI (fun v60 I60 J60 h => ?_))
                obtain ⟨g61, h⟩ := h
                obtain ⟨g62, h⟩ := h
                refine wz_icmp_eq C (tgt := 270) g61 g62 dL_shared_265 (by decide) (fun c => ?_) (fun c => ?_)
                · replace h := h.1 c
                  refine wz_iinc_7 C rfl dL_shared_270 ?_
                  refine wz_goto C dL_shared_273 (tgt := 136) (by decide) ?_
                  exact Wz.less (a0 := 0) (b0 := 0) (by omega) (by omega) (Wz.drop (w136 l2 (orZ l6 v48) (l7 + 1) I60 J60 h) (And.intro rfl (And.intro rfl (And.intro rfl (And.intro rfl trivial)))))
                · replace h := h.2 c
                  refine wz_iconst C dL_shared_268 ?_
                  exact wz_zret C (Or.inl rfl) dL_shared_269 ⟨_, rfl, (Or.inl rfl), h⟩
        · replace h := h.2 c
          refine wz_iconst C dL_shared_190 ?_
          exact wz_zret C (Or.inl rfl) dL_shared_191 ⟨_, rfl, (Or.inl rfl), h⟩
set_option maxHeartbeats 4000000 in
set_option maxRecDepth 100000 in
theorem lk_L_shared_13 (G : KG) (hGC : KokC G) (hG : Kok G) (hW : KWx G) {sL : Nat} {xs : Nat → Int} (hT : KScr G sL xs) (X : KX) (hX : KR X = rm_L_shared) (C : Fr G X cL_shared 9 yL_shared.cls (some .boolean) wsL_shared) (Q : Int → Ii → Jj → Prop) : ∀ (n : Nat) (l2 : Int) (l3 : Int) (l4 : Int) (l5 : Int) (l6 : Int) (I : Ii) (J : Jj), L_L_shared_13 sL xs Q n l2 l3 l4 l5 l6 I J → Wz G X 9 (QsU G X (QsB Q)) 0 0 13 [some (.ref (kadr G 100)), some (.ref (kadr G 1000)), some (.int (iZ l2)), some (.int (iZ l3)), some (.int (iZ l4)), some (.int (iZ l5)), some (.int (iZ l6)), none, none] [] I J := by
  intro n
  induction n with
  | zero => intro l2 l3 l4 l5 l6 I J h; exact False.elim h
  | succ n w13 =>
    intro l2 l3 l4 l5 l6 I J h
    have h : Lb_L_shared_13 sL xs Q (L_L_shared_13 sL xs Q n) l2 l3 l4 l5 l6 I J := h
    unfold Lb_L_shared_13 at h
    generalize L_L_shared_13 sL xs Q n = r13 at h w13
    refine wz_iload C rfl dL_shared_13 ?_
    refine wz_aload_n C rfl rfl dL_shared_15 ?_
    refine wz_getI C rfl f_L_shared_101 (sOw rfl (by decide)) dL_shared_16 ?_
    obtain ⟨g1, h⟩ := h
    obtain ⟨g2, h⟩ := h
    refine wz_icmp_ge C (tgt := 86) g1 g2 dL_shared_19 (by decide) (fun c => ?_) (fun c => ?_)
    · replace h := h.1 c
      refine wz_iload_n C rfl rfl dL_shared_86 ?_
      refine wz_iconst C dL_shared_87 ?_
      refine wz_aload_n C rfl rfl dL_shared_88 ?_
      refine wz_getI C rfl f_L_shared_83 (sOw rfl (by decide)) dL_shared_89 ?_
      refine wd_ishl C dL_shared_92 ?_
      refine wz_iconst C dL_shared_93 ?_
      refine wz_isub C dL_shared_94 ?_
      obtain ⟨g3, h⟩ := h
      obtain ⟨g4, h⟩ := h
      refine wz_icmp_ne C (tgt := 128) g3 g4 dL_shared_95 (by decide) (fun c => ?_) (fun c => ?_)
      · replace h := h.1 c
        refine wz_iconst C dL_shared_128 ?_
        exact wz_zret C (Or.inl rfl) dL_shared_129 ⟨_, rfl, (Or.inl rfl), h⟩
      · replace h := h.2 c
        refine wz_iload_n C rfl rfl dL_shared_98 ?_
        refine wz_aload_n C rfl rfl dL_shared_99 ?_
        refine wz_bipush C (by decide) dL_shared_100 ?_
        refine wm_callV C (S := (I, J)) (o := 100) (As := [.int (iZ 6)]) (st := [.int (iZ l3)]) (a' := 0) (b' := 0) (shK_c hGC.2 rfl) rfl (k_X11_setting G hGC 6 I J _ h) 1 gL_shared_X11_setting rfl (by decide +kernel) (by rw [hX]; exact ⟨Nat.le_of_ble_eq_true rfl, Nat.le_of_ble_eq_true rfl⟩) rfl (Nat.le_of_ble_eq_true rfl) (by show 0 + (0) = 0; omega) (by show 0 + (0) = 0; omega) rfl dL_shared_102 (kk_sI (fun v5 I5 J5 h => ?_))
        obtain ⟨g6, h⟩ := h
        obtain ⟨g7, h⟩ := h
        refine wz_icmp_ne C (tgt := 128) g6 g7 dL_shared_105 (by decide) (fun c => ?_) (fun c => ?_)
        · replace h := h.1 c
          refine wz_iconst C dL_shared_128 ?_
          exact wz_zret C (Or.inl rfl) dL_shared_129 ⟨_, rfl, (Or.inl rfl), h⟩
        · replace h := h.2 c
          refine wz_iload C rfl dL_shared_108 ?_
          refine wz_aload_n C rfl rfl dL_shared_110 ?_
          refine wm_callV C (S := (I5, J5)) (o := 100) (As := []) (st := [.int (iZ l5)]) (a' := 0) (b' := 0) (shK_c hGC.2 rfl) rfl (k_X11_debts G hGC I5 J5 _ h) 0 gL_shared_X11_debts rfl (by decide +kernel) (by rw [hX]; exact ⟨Nat.le_of_ble_eq_true rfl, Nat.le_of_ble_eq_true rfl⟩) rfl (Nat.le_of_ble_eq_true rfl) (by show 0 + (0) = 0; omega) (by show 0 + (0) = 0; omega) rfl dL_shared_111 (kk_sI (fun v8 I8 J8 h => ?_))
          obtain ⟨g9, h⟩ := h
          obtain ⟨g10, h⟩ := h
          refine wz_icmp_ne C (tgt := 128) g9 g10 dL_shared_114 (by decide) (fun c => ?_) (fun c => ?_)
          · replace h := h.1 c
            refine wz_iconst C dL_shared_128 ?_
            exact wz_zret C (Or.inl rfl) dL_shared_129 ⟨_, rfl, (Or.inl rfl), h⟩
          · replace h := h.2 c
            refine wz_iload C rfl dL_shared_117 ?_
            refine wz_iconst C dL_shared_119 ?_
            refine wz_aload_n C rfl rfl dL_shared_120 ?_
            refine wm_callV C (S := (I8, J8)) (o := 100) (As := []) (st := [.int (iZ 2), .int (iZ l4)]) (a' := 0) (b' := 0) (shK_c hGC.2 rfl) rfl (k_X11_cut G hGC I8 J8 _ h) 0 gL_shared_X11_cut rfl (by decide +kernel) (by rw [hX]; exact ⟨Nat.le_of_ble_eq_true rfl, Nat.le_of_ble_eq_true rfl⟩) rfl (Nat.le_of_ble_eq_true rfl) (by show 0 + (0) = 0; omega) (by show 0 + (0) = 0; omega) rfl dL_shared_121 (kk_sI (fun v11 I11 J11 h => ?_))
            refine wz_imul C dL_shared_124 ?_
            obtain ⟨g12, h⟩ := h
            obtain ⟨g13, h⟩ := h
            refine wz_icmp_eq C (tgt := 130) g12 g13 dL_shared_125 (by decide) (fun c => ?_) (fun c => ?_)
            · replace h := h.1 c
              refine wz_iconst C dL_shared_130 ?_
              refine wz_istore_6 C rfl dL_shared_131 ?_
              refine wz_iconst C dL_shared_133 ?_
              refine wz_istore_7 C rfl dL_shared_134 ?_
              obtain ⟨n, h⟩ := h
              exact Wz.less (a0 := 0) (b0 := 0) (by omega) (by omega) (Wz.drop (lk_L_shared_136 G hGC hG hW hT X hX C Q n l2 0 0 I11 J11 h) (And.intro rfl (And.intro rfl (And.intro rfl (And.intro rfl trivial)))))
            · replace h := h.2 c
              refine wz_iconst C dL_shared_128 ?_
              exact wz_zret C (Or.inl rfl) dL_shared_129 ⟨_, rfl, (Or.inl rfl), h⟩
    · replace h := h.2 c
      refine wz_iload_n C rfl rfl dL_shared_22 ?_
      refine wz_aload_n C rfl rfl dL_shared_23 ?_
      refine wz_iload C rfl dL_shared_24 ?_
      refine wz_iconst C dL_shared_26 ?_
      refine wm_callV C (S := (I, J)) (o := 100) (As := [.int (iZ l6), .int (iZ 2)]) (st := [.int (iZ l2)]) (a' := 0) (b' := 0) (shK_c hGC.2 rfl) rfl (k_X11_part G hGC l6 2 I J _ h) 2 gL_shared_X11_part rfl (by decide +kernel) (by rw [hX]; exact ⟨Nat.le_of_ble_eq_true rfl, Nat.le_of_ble_eq_true rfl⟩) rfl (Nat.le_of_ble_eq_true rfl) (by show 0 + (0) = 0; omega) (by show 0 + (0) = 0; omega) rfl dL_shared_27 (kk_sI (fun v14 I14 J14 h => ?_))
      refine wd_iand C dL_shared_30 ?_
      refine wz_if_eq C (tgt := 36) (toInt_rg _) dL_shared_31 (by decide) (fun c => ?_) (fun c => ?_)
      · replace h := h.1 c
        refine wz_iload_n C rfl rfl dL_shared_36 ?_
        refine wz_aload_n C rfl rfl dL_shared_37 ?_
        refine wz_iload C rfl dL_shared_38 ?_
        refine wz_iconst C dL_shared_40 ?_
        refine wm_callV C (S := (I14, J14)) (o := 100) (As := [.int (iZ l6), .int (iZ 2)]) (st := [.int (iZ l2)]) (a' := 0) (b' := 0) (shK_c hGC.2 rfl) rfl (k_X11_part G hGC l6 2 I14 J14 _ h) 2 gL_shared_X11_part rfl (by decide +kernel) (by rw [hX]; exact ⟨Nat.le_of_ble_eq_true rfl, Nat.le_of_ble_eq_true rfl⟩) rfl (Nat.le_of_ble_eq_true rfl) (by show 0 + (0) = 0; omega) (by show 0 + (0) = 0; omega) rfl dL_shared_41 (kk_sI (fun v15 I15 J15 h => ?_))
        refine wd_ior C dL_shared_44 ?_
        refine wz_istore_2 C rfl dL_shared_45 ?_
        refine wz_iload_n C rfl rfl dL_shared_46 ?_
        refine wz_aload_n C rfl rfl dL_shared_47 ?_
        refine wz_iload C rfl dL_shared_48 ?_
        refine wz_iconst C dL_shared_50 ?_
        refine wm_callV C (S := (I15, J15)) (o := 100) (As := [.int (iZ l6), .int (iZ 0)]) (st := [.int (iZ l3)]) (a' := 0) (b' := 0) (shK_c hGC.2 rfl) rfl (k_X11_part G hGC l6 0 I15 J15 _ h) 2 gL_shared_X11_part rfl (by decide +kernel) (by rw [hX]; exact ⟨Nat.le_of_ble_eq_true rfl, Nat.le_of_ble_eq_true rfl⟩) rfl (Nat.le_of_ble_eq_true rfl) (by show 0 + (0) = 0; omega) (by show 0 + (0) = 0; omega) rfl dL_shared_51 (kk_sI (fun v16 I16 J16 h => ?_))
        refine wz_iadd C dL_shared_54 ?_
        refine wz_istore_3 C rfl dL_shared_55 ?_
        refine wz_iload C rfl dL_shared_56 ?_
        refine wz_aload_n C rfl rfl dL_shared_58 ?_
        refine wz_iload C rfl dL_shared_59 ?_
        refine wz_iconst C dL_shared_61 ?_
        refine wm_callV C (S := (I16, J16)) (o := 100) (As := [.int (iZ l6), .int (iZ 1)]) (st := [.int (iZ l5)]) (a' := 0) (b' := 0) (shK_c hGC.2 rfl) rfl (k_X11_part G hGC l6 1 I16 J16 _ h) 2 gL_shared_X11_part rfl (by decide +kernel) (by rw [hX]; exact ⟨Nat.le_of_ble_eq_true rfl, Nat.le_of_ble_eq_true rfl⟩) rfl (Nat.le_of_ble_eq_true rfl) (by show 0 + (0) = 0; omega) (by show 0 + (0) = 0; omega) rfl dL_shared_62 (kk_sI (fun v17 I17 J17 h => ?_))
        refine wz_iadd C dL_shared_65 ?_
        refine wz_istore_5 C rfl dL_shared_66 ?_
        refine wz_iload C rfl dL_shared_68 ?_
        refine wz_aload_n C rfl rfl dL_shared_70 ?_
        refine wz_iload C rfl dL_shared_71 ?_
        refine wz_iconst C dL_shared_73 ?_
        refine wm_callV C (S := (I17, J17)) (o := 100) (As := [.int (iZ l6), .int (iZ 4)]) (st := [.int (iZ l4)]) (a' := 0) (b' := 0) (shK_c hGC.2 rfl) rfl (k_X11_part G hGC l6 4 I17 J17 _ h) 2 gL_shared_X11_part rfl (by decide +kernel) (by rw [hX]; exact ⟨Nat.le_of_ble_eq_true rfl, Nat.le_of_ble_eq_true rfl⟩) rfl (Nat.le_of_ble_eq_true rfl) (by show 0 + (0) = 0; omega) (by show 0 + (0) = 0; omega) rfl dL_shared_74 (kk_sI (fun v18 I18 J18 h => ?_))
        refine wz_iadd C dL_shared_77 ?_
        refine wz_istore_4 C rfl dL_shared_78 ?_
        refine wz_iinc_6 C rfl dL_shared_80 ?_
        refine wz_goto C dL_shared_83 (tgt := 13) (by decide) ?_
        exact Wz.less (a0 := 0) (b0 := 0) (by omega) (by omega) (w13 (orZ l2 v15) (l3 + v16) (l4 + v18) (l5 + v17) (l6 + 1) I18 J18 h)
      · replace h := h.2 c
        refine wz_iconst C dL_shared_34 ?_
        exact wz_zret C (Or.inl rfl) dL_shared_35 ⟨_, rfl, (Or.inl rfl), h⟩
set_option maxHeartbeats 4000000 in
set_option maxRecDepth 100000 in
theorem k_L_shared (G : KG) (hGC : KokC G) (hW : KWx G) {sL : Nat} {xs : Nat → Int} (hT : KScr G sL xs) (I : Ii) (J : Jj) (Q : Int → Ii → Jj → Prop) (h : wp_L_shared sL xs I J Q) : Ctr G yL_shared wsL_shared rm_L_shared [.ref (kadr G 100), .ref (kadr G 1000)] (I, J) (QsB Q) := by
  unfold wp_L_shared at h
  have hG := hGC.1
  refine Ctr.ofZ (cc := cL_shared) (nL := 9) (ret := (some .boolean)) [some (.ref (kadr G 100)), some (.ref (kadr G 1000)), none, none, none, none, none, none, none] hG (by decide +kernel) rfl (Nat.le_of_ble_eq_true rfl) (Nat.le_of_ble_eq_true rfl) (by simp [lvA, lv_args, Value.category]) ?_
  intro X hX C
  refine (?_ : Wz G X 9 (QsU G X (QsB Q)) 0 0 0 [some (.ref (kadr G 100)), some (.ref (kadr G 1000)), none, none, none, none, none, none, none] [] I J)
  refine wz_iconst C dL_shared_0 ?_
  refine wz_istore_2 C rfl dL_shared_1 ?_
  refine wz_iconst C dL_shared_2 ?_
  refine wz_istore_3 C rfl dL_shared_3 ?_
  refine wz_iconst C dL_shared_4 ?_
  refine wz_istore_4 C rfl dL_shared_5 ?_
  refine wz_iconst C dL_shared_7 ?_
  refine wz_istore_5 C rfl dL_shared_8 ?_
  refine wz_iconst C dL_shared_10 ?_
  refine wz_istore_6 C rfl dL_shared_11 ?_
  obtain ⟨n, h⟩ := h
  exact Wz.less (a0 := 0) (b0 := 0) (by omega) (by omega) (lk_L_shared_13 G hGC hG hW hT X hX C Q n 0 0 0 0 0 I J h)
