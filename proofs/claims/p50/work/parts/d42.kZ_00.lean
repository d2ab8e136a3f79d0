def HEL (G : KG) (X : KX) (Qs : State → Prop) (Q : Int → Ii → Jj → Prop) : Prop := ∀ (lv : List (Option Value)) (pc : Nat) (v : Int) (I : Ii) (J : Jj), (pc = 36 ∨ pc = 80 ∨ pc = 108) → Q v I J → Wz G X 4 Qs 0 0 pc lv [.int (iZ v)] I J
theorem in_L_law13_X12 : ∀ w ∈ wsX120, w ∈ wsL_law := by decide +kernel
theorem f_L_law13_168 : FLk wsL_law RL 168 15 12 := flk 15 12 rfl tyX12_ok nmX12 in_L_law13_X12 (by decide) (by decide +kernel)
theorem f_L_law13_83 : FLk wsL_law RL 83 15 0 := flk 15 0 rfl tyX12_ok nmX12 in_L_law13_X12 (by decide) (by decide +kernel)
set_option maxHeartbeats 4000000 in
set_option maxRecDepth 100000 in
theorem lk_L_law13_39 (G : KG) (hGC : KokC G) (hG : Kok G) (hW : KWx G) {Qs : State → Prop} {sL : Nat} {xs : Nat → Int} (hT : KScr G sL xs) (X : KX) (hX : KR X = room_1) (C : Fr G X cL_law 4 yL_law.cls (some .boolean) wsL_law) (Q : Int → Ii → Jj → Prop) (hE : HEL G X Qs Q) : ∀ (n : Nat) (l3 : Int) (I : Ii) (J : Jj), L_L_law13_39 sL xs Q n l3 I J → Wz G X 4 Qs (n * 160 + 0) (n * 5672 + 0) 39 [some (.ref (kadr G 998)), some (.ref (kadr G 1000)), some (.ref (kadr G 100)), some (.int (iZ l3))] [] I J := by
  intro n
  induction n with
  | zero => intro l3 I J h; exact False.elim h
  | succ n w39 =>
    intro l3 I J h
    have h : Lb_L_law13_39 sL xs Q (L_L_law13_39 sL xs Q n) l3 I J := h
    unfold Lb_L_law13_39 at h
    generalize L_L_law13_39 sL xs Q n = r39 at h w39
    refine Wz.less (a0 := n * 160 + 0 + 160) (b0 := n * 5672 + 0 + 5672) (by omega) (by omega) ?_
    have haH : 0 ≤ n * 160 + 0 ∧ 0 ≤ n * 5672 + 0 := by omega
    generalize n * 160 + 0 = aH at w39 haH ⊢
    generalize n * 5672 + 0 = bH at w39 haH ⊢
    refine wz_iload_n C rfl rfl dL_law_39 ?_
    refine wz_bipush C (by decide) dL_law_40 ?_
    obtain ⟨g6, h⟩ := h
    refine wz_icmp_ge C (tgt := 87) g6 (by decide) dL_law_42 (by decide) (fun c => ?_) (fun c => ?_)
    · replace h := h.1 c
      refine wz_aload_n C rfl rfl dL_law_87 ?_
      refine wz_aload_n C rfl rfl dL_law_88 ?_
      refine wm_callSo C (As := [.ref (kadr G 100), .ref (kadr G 1000)]) (st := []) (a' := aH + 160) (b' := bH + 5672) (k_L_flows G hGC hW hT I J _ h) 2 (goodIn_wsS gL_law_L_flows) (by decide +kernel) (by decide +kernel) (by decide +kernel) rfl (by decide +kernel) (by rw [hX]; exact ⟨Nat.le_of_ble_eq_true rfl, Nat.le_of_ble_eq_true rfl⟩) rfl (Nat.le_of_ble_eq_true rfl) (by show 0 + (aH + 160) = aH + 160; omega) (by show 0 + (bH + 5672) = bH + 5672; omega) rfl dL_law_89 (kk_sB (fun v7 I7 J7 hb7 h => ?_))
      refine wz_if_eq C (tgt := 107) (rgB hb7) dL_law_92 (by decide) (fun c => ?_) (fun c => ?_)
      · replace h := h.1 c
        refine wz_iconst C dL_law_107 ?_
        exact Wz.less (a0 := 0) (b0 := 0) (by omega) (by omega) (hE _ 108 _ _ _ (by decide) h)
      · replace h := h.2 c
        refine wz_aload_n C rfl rfl dL_law_95 ?_
        refine wz_aload_n C rfl rfl dL_law_96 ?_
        refine wm_callSo C (As := [.ref (kadr G 100), .ref (kadr G 1000)]) (st := []) (a' := aH + 160) (b' := bH + 5672) (k_L_back G hGC hW hT I7 J7 _ h) 2 (goodIn_wsS gL_law_L_back) (by decide +kernel) (by decide +kernel) (by decide +kernel) rfl (by decide +kernel) (by rw [hX]; exact ⟨Nat.le_of_ble_eq_true rfl, Nat.le_of_ble_eq_true rfl⟩) rfl (Nat.le_of_ble_eq_true rfl) (by show 0 + (aH + 160) = aH + 160; omega) (by show 0 + (bH + 5672) = bH + 5672; omega) rfl dL_law_97 (kk_sB (fun v8 I8 J8 hb8 h => ?_))
        refine wz_if_eq C (tgt := 107) (rgB hb8) dL_law_100 (by decide) (fun c => ?_) (fun c => ?_)
        · replace h := h.1 c
          refine wz_iconst C dL_law_107 ?_
          exact Wz.less (a0 := 0) (b0 := 0) (by omega) (by omega) (hE _ 108 _ _ _ (by decide) h)
        · replace h := h.2 c
          refine wz_iconst C dL_law_103 ?_
          refine wz_goto C dL_law_104 (tgt := 108) (by decide) ?_
          exact Wz.less (a0 := 0) (b0 := 0) (by omega) (by omega) (hE _ 108 _ _ _ (by decide) h)
    · replace h := h.2 c
      refine wz_aload_n C rfl rfl dL_law_45 ?_
      refine wz_aload_n C rfl rfl dL_law_46 ?_
      refine wm_callSo C (As := [.ref (kadr G 100), .ref (kadr G 1000)]) (st := []) (a' := aH + 160) (b' := bH + 5672) (k_L_shared G hGC hW hT I J _ h) 2 (goodIn_wsS gL_law_L_shared) (by decide +kernel) (by decide +kernel) (by decide +kernel) rfl (by decide +kernel) (by rw [hX]; exact ⟨Nat.le_of_ble_eq_true rfl, Nat.le_of_ble_eq_true rfl⟩) rfl (Nat.le_of_ble_eq_true rfl) (by show 0 + (aH + 160) = aH + 160; omega) (by show 0 + (bH + 5672) = bH + 5672; omega) rfl dL_law_47 (kk_sB (fun v9 I9 J9 hb9 h => ?_))
      refine wz_if_eq C (tgt := 79) (rgB hb9) dL_law_50 (by decide) (fun c => ?_) (fun c => ?_)
      · replace h := h.1 c
        refine wz_iconst C dL_law_79 ?_
        exact Wz.less (a0 := 0) (b0 := 0) (by omega) (by omega) (hE _ 80 _ _ _ (by decide) h)
      · replace h := h.2 c
        refine wz_aload_n C rfl rfl dL_law_53 ?_
        refine wz_aload_n C rfl rfl dL_law_54 ?_
        refine wm_callSo C (As := [.ref (kadr G 100), .ref (kadr G 1000)]) (st := []) (a' := aH + 160) (b' := bH + 5672) (k_L_steps G hGC hW hT I9 J9 _ h) 2 (goodIn_wsS gL_law_L_steps) (by decide +kernel) (by decide +kernel) (by decide +kernel) rfl (by decide +kernel) (by rw [hX]; exact ⟨Nat.le_of_ble_eq_true rfl, Nat.le_of_ble_eq_true rfl⟩) rfl (Nat.le_of_ble_eq_true rfl) (by show 0 + (aH + 160) = aH + 160; omega) (by show 0 + (bH + 5672) = bH + 5672; omega) rfl dL_law_55 (kk_sB (fun v10 I10 J10 hb10 h => ?_))
        refine wz_if_eq C (tgt := 79) (rgB hb10) dL_law_58 (by decide) (fun c => ?_) (fun c => ?_)
        · replace h := h.1 c
          refine wz_iconst C dL_law_79 ?_
          exact Wz.less (a0 := 0) (b0 := 0) (by omega) (by omega) (hE _ 80 _ _ _ (by decide) h)
        · replace h := h.2 c
          refine wz_aload_n C rfl rfl dL_law_61 ?_
          refine wz_aload_n C rfl rfl dL_law_62 ?_
          refine wz_aload_n C rfl rfl dL_law_63 ?_
          refine wz_iload_n C rfl rfl dL_law_64 ?_
          refine wm_callSo C (As := [.ref (kadr G 100), .ref (kadr G 1000), .ref (kadr G 998), .int (iZ l3)]) (st := []) (a' := aH + 0) (b' := bH + 0) (k_L_acts G hGC hW hT l3 I10 J10 _ h) 4 (goodIn_wsS gL_law_L_acts) (by decide +kernel) (by decide +kernel) (by decide +kernel) rfl (by decide +kernel) (by rw [hX]; exact ⟨Nat.le_of_ble_eq_true rfl, Nat.le_of_ble_eq_true rfl⟩) rfl (Nat.le_of_ble_eq_true rfl) (by show 160 + (aH + 0) = aH + 160; omega) (by show 5672 + (bH + 0) = bH + 5672; omega) rfl dL_law_65 (kk_sB (fun v11 I11 J11 hb11 h => ?_))
          refine wz_if_eq C (tgt := 79) (rgB hb11) dL_law_68 (by decide) (fun c => ?_) (fun c => ?_)
          · replace h := h.1 c
            refine wz_iconst C dL_law_79 ?_
            exact Wz.less (a0 := 0) (b0 := 0) (by omega) (by omega) (hE _ 80 _ _ _ (by decide) h)
          · replace h := h.2 c
            refine wz_aload_n C rfl rfl dL_law_71 ?_
            refine wz_aload_n C rfl rfl dL_law_72 ?_
            refine wm_callSo C (As := [.ref (kadr G 100), .ref (kadr G 1000)]) (st := []) (a' := aH + 0) (b' := bH + 0) (k_L_alike G hGC hW hT I11 J11 _ h) 2 (goodIn_wsS gL_law_L_alike) (by decide +kernel) (by decide +kernel) (by decide +kernel) rfl (by decide +kernel) (by rw [hX]; exact ⟨Nat.le_of_ble_eq_true rfl, Nat.le_of_ble_eq_true rfl⟩) rfl (Nat.le_of_ble_eq_true rfl) (by show 0 + (aH + 0) = aH + 0; omega) (by show 0 + (bH + 0) = bH + 0; omega) rfl dL_law_73 (kk_sB (fun v12 I12 J12 hb12 h => ?_))
            refine wz_if_ne C (tgt := 81) (rgB hb12) dL_law_76 (by decide) (fun c => ?_) (fun c => ?_)
            · replace h := h.1 c
              refine wz_iinc_3 C rfl dL_law_81 ?_
              refine wz_goto C dL_law_84 (tgt := 39) (by decide) ?_
              exact Wz.less (a0 := aH) (b0 := bH) (by omega) (by omega) (w39 (l3 + 1) I12 J12 h)
            · replace h := h.2 c
              refine wz_iconst C dL_law_79 ?_
              exact Wz.less (a0 := 0) (b0 := 0) (by omega) (by omega) (hE _ 80 _ _ _ (by decide) h)
set_option maxHeartbeats 4000000 in
set_option maxRecDepth 100000 in
theorem k_L_law13 (G : KG) (hGC : KokC G) (hW : KWx G) {Qs : State → Prop} {sL : Nat} {xs : Nat → Int} (hT : KScr G sL xs) (X : KX) (hX : KR X = room_1) (C : Fr G X cL_law 4 yL_law.cls (some .boolean) wsL_law) (I : Ii) (J : Jj) (Q : Int → Ii → Jj → Prop) (hE : HEL G X Qs Q) (h : wp_L_law13 sL xs I J Q) : Wz G X 4 Qs 2600 90952 13 [some (.ref (kadr G 998)), some (.ref (kadr G 1000)), some (.ref (kadr G 100)), none] [] I J := by
  unfold wp_L_law13 at h
  have hG := hGC.1
  refine wz_aload_n C rfl rfl dL_law_13 ?_
  refine wz_aload_n C rfl rfl dL_law_14 ?_
  obtain ⟨g1, h⟩ := h
  refine wy_getM C f_L_law13_168 (sOw rfl (by decide)) g1 dL_law_15 ?_
  refine wm_callSo C (As := [.ref (kadr G 100), .ref (kadr G ((I 1000 12).toNat))]) (st := []) (a' := 2560) (b' := 90752) (k_L_feeds G hGC hW hT ((I 1000 12).toNat) I J _ h) 2 (goodIn_wsS gL_law_L_feeds) (by decide +kernel) (by decide +kernel) (by decide +kernel) rfl (by decide +kernel) (by rw [hX]; exact ⟨Nat.le_of_ble_eq_true rfl, Nat.le_of_ble_eq_true rfl⟩) rfl (Nat.le_of_ble_eq_true rfl) (by show 40 + (2560) = 2600; omega) (by show 200 + (90752) = 90952; omega) rfl dL_law_18 (kk_sB (fun v2 I2 J2 hb2 h => ?_))
  refine wz_if_eq C (tgt := 35) (rgB hb2) dL_law_21 (by decide) (fun c => ?_) (fun c => ?_)
  · replace h := h.1 c
    refine wz_iconst C dL_law_35 ?_
    exact Wz.less (a0 := 0) (b0 := 0) (by omega) (by omega) (hE _ 36 _ _ _ (by decide) h)
  · replace h := h.2 c
    refine wz_aload_n C rfl rfl dL_law_24 ?_
    refine wm_callV C (S := (I2, J2)) (o := 100) (As := []) (st := []) (a' := 2560) (b' := 90752) (shK_c hGC.2 rfl) rfl (k_X11_readText G hGC hW I2 J2 _ h) 0 gL_law_X11_readText rfl (by decide +kernel) (by rw [hX]; exact ⟨Nat.le_of_ble_eq_true rfl, Nat.le_of_ble_eq_true rfl⟩) rfl (Nat.le_of_ble_eq_true rfl) (by show 0 + (2560) = 2560; omega) (by show 0 + (90752) = 90752; omega) rfl dL_law_25 (kk_sI (fun v3 I3 J3 h => ?_))
    refine wz_aload_n C rfl rfl dL_law_28 ?_
    refine wz_getI C rfl f_L_law13_83 (sOw rfl (by decide)) dL_law_29 ?_
    obtain ⟨g4, h⟩ := h
    obtain ⟨g5, h⟩ := h
    refine wz_icmp_eq C (tgt := 37) g4 g5 dL_law_32 (by decide) (fun c => ?_) (fun c => ?_)
    · replace h := h.1 c
      refine wz_iconst C dL_law_37 ?_
      refine wz_istore_3 C rfl dL_law_38 ?_
      obtain ⟨n, hn, h⟩ := h
      exact Wz.less (a0 := n * 160 + 0) (b0 := n * 5672 + 0) (by omega) (by omega) (lk_L_law13_39 G hGC hG hW hT X hX C Q hE n 0 I3 J3 h)
    · replace h := h.2 c
      refine wz_iconst C dL_law_35 ?_
      exact Wz.less (a0 := 0) (b0 := 0) (by omega) (by omega) (hE _ 36 _ _ _ (by decide) h)
