theorem in_L_alike_X12 : ∀ w ∈ wsX120, w ∈ wsL_alike := by decide +kernel
theorem f_L_alike_43 : FLk wsL_alike RL 43 15 3 := flk 15 3 rfl tyX12_ok nmX12 in_L_alike_X12 (by decide) (by decide +kernel)
theorem f_L_alike_52 : FLk wsL_alike RL 52 15 10 := flk 15 10 rfl tyX12_ok nmX12 in_L_alike_X12 (by decide) (by decide +kernel)
theorem f_L_alike_75 : FLk wsL_alike RL 75 15 11 := flk 15 11 rfl tyX12_ok nmX12 in_L_alike_X12 (by decide) (by decide +kernel)
theorem f_L_alike_83 : FLk wsL_alike RL 83 15 0 := flk 15 0 rfl tyX12_ok nmX12 in_L_alike_X12 (by decide) (by decide +kernel)
theorem f_L_alike_89 : FLk wsL_alike RL 89 15 6 := flk 15 6 rfl tyX12_ok nmX12 in_L_alike_X12 (by decide) (by decide +kernel)
def rm_L_alike : Room := { frames := 5, cells := 0, slots := 0, locals := 114 }
set_option maxHeartbeats 4000000 in
set_option maxRecDepth 100000 in
theorem lk_L_alike_104 (G : KG) (hGC : KokC G) (hG : Kok G) (hW : KWx G) {sL : Nat} {xs : Nat → Int} (hT : KScr G sL xs) (X : KX) (hX : KR X = rm_L_alike) (C : Fr G X cL_alike 3 yL_alike.cls (some .boolean) wsL_alike) (Q : Int → Ii → Jj → Prop) : ∀ (n : Nat) (l2 : Int) (I : Ii) (J : Jj), L_L_alike_104 sL xs Q n l2 I J → Wz G X 3 (QsU G X (QsB Q)) 0 0 104 [some (.ref (kadr G 100)), some (.ref (kadr G 1000)), some (.int (iZ l2))] [] I J := by
  intro n
  induction n with
  | zero => intro l2 I J h; exact False.elim h
  | succ n w104 =>
    intro l2 I J h
    have h : Lb_L_alike_104 sL xs Q (L_L_alike_104 sL xs Q n) l2 I J := h
    unfold Lb_L_alike_104 at h
    generalize L_L_alike_104 sL xs Q n = r104 at h w104
    refine wz_iload_n C rfl rfl dL_alike_104 ?_
    refine wz_aload_n C rfl rfl dL_alike_105 ?_
    refine wz_getI C rfl f_L_alike_83 (sOw rfl (by decide)) dL_alike_106 ?_
    obtain ⟨g29, h⟩ := h
    obtain ⟨g30, h⟩ := h
    refine wz_icmp_ge C (tgt := 147) g29 g30 dL_alike_109 (by decide) (fun c => ?_) (fun c => ?_)
    · replace h := h.1 c
      refine wz_iconst C dL_alike_147 ?_
      exact wz_zret C (Or.inr rfl) dL_alike_148 ⟨_, rfl, (Or.inr rfl), h⟩
    · replace h := h.2 c
      refine wz_aload_n C rfl rfl dL_alike_112 ?_
      refine wz_iload_n C rfl rfl dL_alike_113 ?_
      refine wm_callV C (S := (I, J)) (o := 100) (As := [.int (iZ l2)]) (st := []) (a' := 0) (b' := 0) (shK_c hGC.2 rfl) rfl (k_X11_partOf G hGC l2 I J _ h) 1 gL_alike_X11_partOf rfl (by decide +kernel) (by rw [hX]; exact ⟨Nat.le_of_ble_eq_true rfl, Nat.le_of_ble_eq_true rfl⟩) rfl (Nat.le_of_ble_eq_true rfl) (by show 0 + (0) = 0; omega) (by show 0 + (0) = 0; omega) rfl dL_alike_114 (kk_sI (fun v31 I31 J31 h => ?_))
      refine wz_aload_n C rfl rfl dL_alike_117 ?_
      refine wz_getR C (j := 1002) f_L_alike_89 (sOw rfl (by decide)) (by decide) dL_alike_118 ?_
      refine wz_iload_n C rfl rfl dL_alike_121 ?_
      obtain ⟨g32, h⟩ := h
      refine wz_iaload C l2.toNat (n := 14) (sRw rfl (by decide)) (zN g32) (zL g32) (by decide) rfl dL_alike_122 ?_
      obtain ⟨g33, h⟩ := h
      obtain ⟨g34, h⟩ := h
      refine wz_icmp_ne C (tgt := 139) g33 g34 dL_alike_123 (by decide) (fun c => ?_) (fun c => ?_)
      · replace h := h.1 c
        refine wz_iconst C dL_alike_139 ?_
        exact wz_zret C (Or.inl rfl) dL_alike_140 ⟨_, rfl, (Or.inl rfl), h⟩
      · replace h := h.2 c
        refine wz_aload_n C rfl rfl dL_alike_126 ?_
        refine wz_iload_n C rfl rfl dL_alike_127 ?_
        refine wm_callV C (S := (I31, J31)) (o := 100) (As := [.int (iZ l2)]) (st := []) (a' := 0) (b' := 0) (shK_c hGC.2 rfl) rfl (k_X11_groupOf G hGC l2 I31 J31 _ h) 1 gL_alike_X11_groupOf rfl (by decide +kernel) (by rw [hX]; exact ⟨Nat.le_of_ble_eq_true rfl, Nat.le_of_ble_eq_true rfl⟩) rfl (Nat.le_of_ble_eq_true rfl) (by show 0 + (0) = 0; omega) (by show 0 + (0) = 0; omega) rfl dL_alike_128 (kk_sI (fun v35 I35 J35 h => ?_))
        refine wz_aload_n C rfl rfl dL_alike_131 ?_
        refine wz_iload_n C rfl rfl dL_alike_132 ?_
        refine wm_callV C (S := (I35, J35)) (o := 1000) (As := [.int (iZ l2)]) (st := [.int (iZ v35)]) (a' := 0) (b' := 0) (shK_w (by decide) rfl) rfl (k_X12_groupOf G hG hW l2 I35 J35 _ h) 1 gL_alike_X12_groupOf rfl (by decide +kernel) (by rw [hX]; exact ⟨Nat.le_of_ble_eq_true rfl, Nat.le_of_ble_eq_true rfl⟩) rfl (Nat.le_of_ble_eq_true rfl) (by show 0 + (0) = 0; omega) (by show 0 + (0) = 0; omega) rfl dL_alike_133 (kk_sI (fun v36 I36 J36 h => ?_))
        obtain ⟨g37, h⟩ := h
        obtain ⟨g38, h⟩ := h
        refine wz_icmp_eq C (tgt := 141) g37 g38 dL_alike_136 (by decide) (fun c => ?_) (fun c => ?_)
        · replace h := h.1 c
          refine wz_iinc_2 C rfl dL_alike_141 ?_
          refine wz_goto C dL_alike_144 (tgt := 104) (by decide) ?_
          exact Wz.less (a0 := 0) (b0 := 0) (by omega) (by omega) (w104 (l2 + 1) I36 J36 h)
        · replace h := h.2 c
          refine wz_iconst C dL_alike_139 ?_
          exact wz_zret C (Or.inl rfl) dL_alike_140 ⟨_, rfl, (Or.inl rfl), h⟩
set_option maxHeartbeats 4000000 in
set_option maxRecDepth 100000 in
theorem k_L_alike (G : KG) (hGC : KokC G) (hW : KWx G) {sL : Nat} {xs : Nat → Int} (hT : KScr G sL xs) (I : Ii) (J : Jj) (Q : Int → Ii → Jj → Prop) (h : wp_L_alike sL xs I J Q) : Ctr G yL_alike wsL_alike rm_L_alike [.ref (kadr G 100), .ref (kadr G 1000)] (I, J) (QsB Q) := by
  unfold wp_L_alike at h
  have hG := hGC.1
  refine Ctr.ofZ (cc := cL_alike) (nL := 3) (ret := (some .boolean)) [some (.ref (kadr G 100)), some (.ref (kadr G 1000)), none] hG (by decide +kernel) rfl (Nat.le_of_ble_eq_true rfl) (Nat.le_of_ble_eq_true rfl) (by simp [lvA, lv_args, Value.category]) ?_
  intro X hX C
  refine (?_ : Wz G X 3 (QsU G X (QsB Q)) 0 0 0 [some (.ref (kadr G 100)), some (.ref (kadr G 1000)), none] [] I J)
  refine wz_aload_n C rfl rfl dL_alike_0 ?_
  refine wz_iconst C dL_alike_1 ?_
  refine wm_callV C (S := (I, J)) (o := 100) (As := [.int (iZ 4)]) (st := []) (a' := 0) (b' := 0) (shK_c hGC.2 rfl) rfl (k_X11_setting G hGC 4 I J _ h) 1 gL_alike_X11_setting rfl (by decide +kernel) (by rw [hX]; exact ⟨Nat.le_of_ble_eq_true rfl, Nat.le_of_ble_eq_true rfl⟩) rfl (Nat.le_of_ble_eq_true rfl) (by show 0 + (0) = 0; omega) (by show 0 + (0) = 0; omega) rfl dL_alike_2 (kk_sI (fun v1 I1 J1 h => ?_))
  refine wz_aload_n C rfl rfl dL_alike_5 ?_
  refine wz_getI C rfl f_L_alike_43 (sOw rfl (by decide)) dL_alike_6 ?_
  obtain ⟨g2, h⟩ := h
  obtain ⟨g3, h⟩ := h
  refine wz_icmp_ne C (tgt := 100) g2 g3 dL_alike_9 (by decide) (fun c => ?_) (fun c => ?_)
  · replace h := h.1 c
    refine wz_iconst C dL_alike_100 ?_
    exact wz_zret C (Or.inl rfl) dL_alike_101 ⟨_, rfl, (Or.inl rfl), h⟩
  · replace h := h.2 c
    refine wz_aload_n C rfl rfl dL_alike_12 ?_
    refine wz_iconst C dL_alike_13 ?_
    refine wm_callV C (S := (I1, J1)) (o := 100) (As := [.int (iZ 5)]) (st := []) (a' := 0) (b' := 0) (shK_c hGC.2 rfl) rfl (k_X11_setting G hGC 5 I1 J1 _ h) 1 gL_alike_X11_setting rfl (by decide +kernel) (by rw [hX]; exact ⟨Nat.le_of_ble_eq_true rfl, Nat.le_of_ble_eq_true rfl⟩) rfl (Nat.le_of_ble_eq_true rfl) (by show 0 + (0) = 0; omega) (by show 0 + (0) = 0; omega) rfl dL_alike_14 (kk_sI (fun v4 I4 J4 h => ?_))
    refine wz_aload_n C rfl rfl dL_alike_17 ?_
    refine wm_callV C (S := (I4, J4)) (o := 1000) (As := []) (st := [.int (iZ v4)]) (a' := 0) (b' := 0) (shK_w (by decide) rfl) rfl (k_X12_limit G hG hW I4 J4 _ h) 0 gL_alike_X12_limit rfl (by decide +kernel) (by rw [hX]; exact ⟨Nat.le_of_ble_eq_true rfl, Nat.le_of_ble_eq_true rfl⟩) rfl (Nat.le_of_ble_eq_true rfl) (by show 0 + (0) = 0; omega) (by show 0 + (0) = 0; omega) rfl dL_alike_18 (kk_sI (fun v5 I5 J5 h => ?_))
    obtain ⟨g6, h⟩ := h
    obtain ⟨g7, h⟩ := h
    refine wz_icmp_ne C (tgt := 100) g6 g7 dL_alike_21 (by decide) (fun c => ?_) (fun c => ?_)
    · replace h := h.1 c
      refine wz_iconst C dL_alike_100 ?_
      exact wz_zret C (Or.inl rfl) dL_alike_101 ⟨_, rfl, (Or.inl rfl), h⟩
    · replace h := h.2 c
      refine wz_aload_n C rfl rfl dL_alike_24 ?_
      refine wz_bipush C (by decide) dL_alike_25 ?_
      refine wm_callV C (S := (I5, J5)) (o := 100) (As := [.int (iZ 8)]) (st := []) (a' := 0) (b' := 0) (shK_c hGC.2 rfl) rfl (k_X11_setting G hGC 8 I5 J5 _ h) 1 gL_alike_X11_setting rfl (by decide +kernel) (by rw [hX]; exact ⟨Nat.le_of_ble_eq_true rfl, Nat.le_of_ble_eq_true rfl⟩) rfl (Nat.le_of_ble_eq_true rfl) (by show 0 + (0) = 0; omega) (by show 0 + (0) = 0; omega) rfl dL_alike_27 (kk_sI (fun v8 I8 J8 h => ?_))
      refine wz_aload_n C rfl rfl dL_alike_30 ?_
      refine wz_getR C (j := 1020) f_L_alike_52 (sOw rfl (by decide)) (by decide) dL_alike_31 ?_
      refine wm_callF C (o := 1020) (As := []) (st := [.int (iZ v8)]) (a' := 0) (b' := 0) (spAL (Or.inl rfl)) rfl hW.fsize (k_Jx4a65c_size_8abf5 G hG hW 1020 I8 J8 (Or.inl rfl) _ h) 0 gL_alike_Jx4a65c_size_8abf5_f56Jx4a65c rfl (by decide +kernel) (by rw [hX]; exact ⟨Nat.le_of_ble_eq_true rfl, Nat.le_of_ble_eq_true rfl⟩) rfl (Nat.le_of_ble_eq_true rfl) (by show 0 + (0) = 0; omega) (by show 0 + (0) = 0; omega) rfl dL_alike_34 (kk_sI (fun v9 I9 J9 h => ?_))
      refine wz_iconst C dL_alike_39 ?_
      refine wz_isub C dL_alike_40 ?_
      obtain ⟨g10, h⟩ := h
      obtain ⟨g11, h⟩ := h
      refine wz_icmp_ne C (tgt := 100) g10 g11 dL_alike_41 (by decide) (fun c => ?_) (fun c => ?_)
      · replace h := h.1 c
        refine wz_iconst C dL_alike_100 ?_
        exact wz_zret C (Or.inl rfl) dL_alike_101 ⟨_, rfl, (Or.inl rfl), h⟩
      · replace h := h.2 c
        refine wz_aload_n C rfl rfl dL_alike_44 ?_
        refine wz_bipush C (by decide) dL_alike_45 ?_
        refine wm_callV C (S := (I9, J9)) (o := 100) (As := [.int (iZ 9)]) (st := []) (a' := 0) (b' := 0) (shK_c hGC.2 rfl) rfl (k_X11_setting G hGC 9 I9 J9 _ h) 1 gL_alike_X11_setting rfl (by decide +kernel) (by rw [hX]; exact ⟨Nat.le_of_ble_eq_true rfl, Nat.le_of_ble_eq_true rfl⟩) rfl (Nat.le_of_ble_eq_true rfl) (by show 0 + (0) = 0; omega) (by show 0 + (0) = 0; omega) rfl dL_alike_47 (kk_sI (fun v12 I12 J12 h => ?_))
        refine wz_aload_n C rfl rfl dL_alike_50 ?_
        refine wm_callV C (S := (I12, J12)) (o := 1000) (As := []) (st := [.int (iZ v12)]) (a' := 0) (b' := 0) (shK_w (by decide) rfl) rfl (k_X12_groups G hG hW I12 J12 _ h) 0 gL_alike_X12_groups rfl (by decide +kernel) (by rw [hX]; exact ⟨Nat.le_of_ble_eq_true rfl, Nat.le_of_ble_eq_true rfl⟩) rfl (Nat.le_of_ble_eq_true rfl) (by show 0 + (0) = 0; omega) (by show 0 + (0) = 0; omega) rfl dL_alike_51 (kk_sI (fun v13 I13 J13 h => ?_))
        obtain ⟨g14, h⟩ := h
        obtain ⟨g15, h⟩ := h
        refine wz_icmp_ne C (tgt := 100) g14 g15 dL_alike_54 (by decide) (fun c => ?_) (fun c => ?_)
        · replace h := h.1 c
          refine wz_iconst C dL_alike_100 ?_
          exact wz_zret C (Or.inl rfl) dL_alike_101 ⟨_, rfl, (Or.inl rfl), h⟩
        · replace h := h.2 c
          refine wz_aload_n C rfl rfl dL_alike_57 ?_
          refine wm_callV C (S := (I13, J13)) (o := 100) (As := []) (st := []) (a' := 0) (b' := 0) (shK_c hGC.2 rfl) rfl (k_X11_cut G hGC I13 J13 _ h) 0 gL_alike_X11_cut rfl (by decide +kernel) (by rw [hX]; exact ⟨Nat.le_of_ble_eq_true rfl, Nat.le_of_ble_eq_true rfl⟩) rfl (Nat.le_of_ble_eq_true rfl) (by show 0 + (0) = 0; omega) (by show 0 + (0) = 0; omega) rfl dL_alike_58 (kk_sI (fun v16 I16 J16 h => ?_))
          refine wz_aload_n C rfl rfl dL_alike_61 ?_
          refine wm_callV C (S := (I16, J16)) (o := 1000) (As := []) (st := [.int (iZ v16)]) (a' := 0) (b' := 0) (shK_w (by decide) rfl) rfl (k_X12_cut G hG hW I16 J16 _ h) 0 gL_alike_X12_cut rfl (by decide +kernel) (by rw [hX]; exact ⟨Nat.le_of_ble_eq_true rfl, Nat.le_of_ble_eq_true rfl⟩) rfl (Nat.le_of_ble_eq_true rfl) (by show 0 + (0) = 0; omega) (by show 0 + (0) = 0; omega) rfl dL_alike_62 (kk_sI (fun v17 I17 J17 h => ?_))
          obtain ⟨g18, h⟩ := h
          obtain ⟨g19, h⟩ := h
          refine wz_icmp_ne C (tgt := 100) g18 g19 dL_alike_65 (by decide) (fun c => ?_) (fun c => ?_)
          · replace h := h.1 c
            refine wz_iconst C dL_alike_100 ?_
            exact wz_zret C (Or.inl rfl) dL_alike_101 ⟨_, rfl, (Or.inl rfl), h⟩
          · replace h := h.2 c
            refine wz_aload_n C rfl rfl dL_alike_68 ?_
            refine wm_callV C (S := (I17, J17)) (o := 100) (As := []) (st := []) (a' := 0) (b' := 0) (shK_c hGC.2 rfl) rfl (k_X11_debts G hGC I17 J17 _ h) 0 gL_alike_X11_debts rfl (by decide +kernel) (by rw [hX]; exact ⟨Nat.le_of_ble_eq_true rfl, Nat.le_of_ble_eq_true rfl⟩) rfl (Nat.le_of_ble_eq_true rfl) (by show 0 + (0) = 0; omega) (by show 0 + (0) = 0; omega) rfl dL_alike_69 (kk_sI (fun v20 I20 J20 h => ?_))
            refine wz_aload_n C rfl rfl dL_alike_72 ?_
            refine wm_callV C (S := (I20, J20)) (o := 1000) (As := []) (st := [.int (iZ v20)]) (a' := 0) (b' := 0) (shK_w (by decide) rfl) rfl (k_X12_debts G hG hW I20 J20 _ h) 0 gL_alike_X12_debts rfl (by decide +kernel) (by rw [hX]; exact ⟨Nat.le_of_ble_eq_true rfl, Nat.le_of_ble_eq_true rfl⟩) rfl (Nat.le_of_ble_eq_true rfl) (by show 0 + (0) = 0; omega) (by show 0 + (0) = 0; omega) rfl dL_alike_73 (kk_sI (fun v21 I21 J21 h => ?_))
            obtain ⟨g22, h⟩ := h
            obtain ⟨g23, h⟩ := h
            refine wz_icmp_ne C (tgt := 100) g22 g23 dL_alike_76 (by decide) (fun c => ?_) (fun c => ?_)
            · replace h := h.1 c
              refine wz_iconst C dL_alike_100 ?_
              exact wz_zret C (Or.inl rfl) dL_alike_101 ⟨_, rfl, (Or.inl rfl), h⟩
            · replace h := h.2 c
              refine wz_aload_n C rfl rfl dL_alike_79 ?_
              refine wm_callV C (S := (I21, J21)) (o := 100) (As := []) (st := []) (a' := 0) (b' := 0) (shK_c hGC.2 rfl) rfl (k_X11_events G hGC I21 J21 _ h) 0 gL_alike_X11_events rfl (by decide +kernel) (by rw [hX]; exact ⟨Nat.le_of_ble_eq_true rfl, Nat.le_of_ble_eq_true rfl⟩) rfl (Nat.le_of_ble_eq_true rfl) (by show 0 + (0) = 0; omega) (by show 0 + (0) = 0; omega) rfl dL_alike_80 (kk_sI (fun v24 I24 J24 h => ?_))
              refine wz_bipush C (by decide) dL_alike_83 ?_
              refine wz_aload_n C rfl rfl dL_alike_85 ?_
              refine wz_getR C (j := 1021) f_L_alike_75 (sOw rfl (by decide)) (by decide) dL_alike_86 ?_
              refine wm_callF C (o := 1021) (As := []) (st := [.int (iZ 30), .int (iZ v24)]) (a' := 0) (b' := 0) (spAL (Or.inr rfl)) rfl hW.fsize (k_Jx4a65c_size_8abf5 G hG hW 1021 I24 J24 (Or.inr rfl) _ h) 0 gL_alike_Jx4a65c_size_8abf5_f56Jx4a65c rfl (by decide +kernel) (by rw [hX]; exact ⟨Nat.le_of_ble_eq_true rfl, Nat.le_of_ble_eq_true rfl⟩) rfl (Nat.le_of_ble_eq_true rfl) (by show 0 + (0) = 0; omega) (by show 0 + (0) = 0; omega) rfl dL_alike_89 (kk_sI (fun v25 I25 J25 h => ?_))
              refine wd_min C (st := [.int (iZ v24)]) h (by decide +kernel) (by decide +kernel) (by decide +kernel) (by decide +kernel) (by rw [hX]; exact ⟨Nat.le_of_ble_eq_true rfl, Nat.le_of_ble_eq_true rfl⟩) dL_alike_94 (fun v26 I26 J26 h => ?_)
              obtain ⟨g27, h⟩ := h
              obtain ⟨g28, h⟩ := h
              refine wz_icmp_eq C (tgt := 102) g27 g28 dL_alike_97 (by decide) (fun c => ?_) (fun c => ?_)
              · replace h := h.1 c
                refine wz_iconst C dL_alike_102 ?_
                refine wz_istore_2 C rfl dL_alike_103 ?_
                obtain ⟨n, h⟩ := h
                exact Wz.less (a0 := 0) (b0 := 0) (by omega) (by omega) (lk_L_alike_104 G hGC hG hW hT X hX C Q n 0 I26 J26 h)
              · replace h := h.2 c
                refine wz_iconst C dL_alike_100 ?_
                exact wz_zret C (Or.inl rfl) dL_alike_101 ⟨_, rfl, (Or.inl rfl), h⟩
def rm_L_steps : Room := { frames := 7, cells := 0, slots := 0, locals := 175 }
set_option maxHeartbeats 4000000 in
set_option maxRecDepth 100000 in
theorem bk_L_steps_126 (G : KG) (hGC : KokC G) (hG : Kok G) (hW : KWx G) {sL : Nat} {xs : Nat → Int} (hT : KScr G sL xs) (X : KX) (hX : KR X = rm_L_steps) (C : Fr G X cL_steps 7 yL_steps.cls (some .boolean) wsL_steps) (Q : Int → Ii → Jj → Prop) (l2 : Int) (I : Ii) (J : Jj) (h : B_L_steps_126 sL xs Q l2 I J) : Wz G X 7 (QsU G X (QsB Q)) 0 0 126 [some (.ref (kadr G 100)), some (.ref (kadr G 1000)), some (.int (iZ l2)), none, none, none, none] [] I J := by
  unfold B_L_steps_126 at h
  refine wz_aload_n C rfl rfl dL_steps_126 ?_
  refine wz_iconst C dL_steps_127 ?_
  refine wz_iconst C dL_steps_128 ?_
  refine wm_callV C (S := (I, J)) (o := 100) (As := [.int (iZ 0), .int (iZ 0)]) (st := []) (a' := 0) (b' := 0) (shK_c hGC.2 rfl) rfl (k_X11_event G hGC 0 0 I J _ h) 2 gL_steps_X11_event rfl (by decide +kernel) (by rw [hX]; exact ⟨Nat.le_of_ble_eq_true rfl, Nat.le_of_ble_eq_true rfl⟩) rfl (Nat.le_of_ble_eq_true rfl) (by show 0 + (0) = 0; omega) (by show 0 + (0) = 0; omega) rfl dL_steps_129 (kk_sI (fun v27 I27 J27 h => ?_))
  refine wz_iload_n C rfl rfl dL_steps_132 ?_
  refine wz_bipush C (by decide) dL_steps_133 ?_
  obtain ⟨g28, h⟩ := h
  refine wd_idiv C g28 dL_steps_135 ?_
  obtain ⟨g29, h⟩ := h
  obtain ⟨g30, h⟩ := h
  refine wz_icmp_ne C (tgt := 165) g29 g30 dL_steps_136 (by decide) (fun c => ?_) (fun c => ?_)
  · replace h := h.1 c
    refine wz_iconst C dL_steps_165 ?_
    exact wz_zret C (Or.inl rfl) dL_steps_166 ⟨_, rfl, (Or.inl rfl), h⟩
  · replace h := h.2 c
    refine wz_aload_n C rfl rfl dL_steps_139 ?_
    refine wz_iconst C dL_steps_140 ?_
    refine wz_iconst C dL_steps_141 ?_
    refine wm_callV C (S := (I27, J27)) (o := 100) (As := [.int (iZ 0), .int (iZ 2)]) (st := []) (a' := 0) (b' := 0) (shK_c hGC.2 rfl) rfl (k_X11_event G hGC 0 2 I27 J27 _ h) 2 gL_steps_X11_event rfl (by decide +kernel) (by rw [hX]; exact ⟨Nat.le_of_ble_eq_true rfl, Nat.le_of_ble_eq_true rfl⟩) rfl (Nat.le_of_ble_eq_true rfl) (by show 0 + (0) = 0; omega) (by show 0 + (0) = 0; omega) rfl dL_steps_142 (kk_sI (fun v31 I31 J31 h => ?_))
    refine wz_iload_n C rfl rfl dL_steps_145 ?_
    refine wz_bipush C (by decide) dL_steps_146 ?_
    obtain ⟨g32, h⟩ := h
    refine wd_irem C g32 dL_steps_148 ?_
    obtain ⟨g33, h⟩ := h
    obtain ⟨g34, h⟩ := h
    refine wz_icmp_ne C (tgt := 165) g33 g34 dL_steps_149 (by decide) (fun c => ?_) (fun c => ?_)
    · replace h := h.1 c
      refine wz_iconst C dL_steps_165 ?_
      exact wz_zret C (Or.inl rfl) dL_steps_166 ⟨_, rfl, (Or.inl rfl), h⟩
    · replace h := h.2 c
      refine wz_aload_n C rfl rfl dL_steps_152 ?_
      refine wz_iconst C dL_steps_153 ?_
      refine wz_iconst C dL_steps_154 ?_
      refine wm_callV C (S := (I31, J31)) (o := 100) (As := [.int (iZ 0), .int (iZ 3)]) (st := []) (a' := 0) (b' := 0) (shK_c hGC.2 rfl) rfl (k_X11_event G hGC 0 3 I31 J31 _ h) 2 gL_steps_X11_event rfl (by decide +kernel) (by rw [hX]; exact ⟨Nat.le_of_ble_eq_true rfl, Nat.le_of_ble_eq_true rfl⟩) rfl (Nat.le_of_ble_eq_true rfl) (by show 0 + (0) = 0; omega) (by show 0 + (0) = 0; omega) rfl dL_steps_155 (kk_sI (fun v35 I35 J35 h => ?_))
      refine wz_aload_n C rfl rfl dL_steps_158 ?_
      refine wm_callV C (S := (I35, J35)) (o := 100) (As := []) (st := [.int (iZ v35)]) (a' := 0) (b' := 0) (shK_c hGC.2 rfl) rfl (k_X11_cut G hGC I35 J35 _ h) 0 gL_steps_X11_cut rfl (by decide +kernel) (by rw [hX]; exact ⟨Nat.le_of_ble_eq_true rfl, Nat.le_of_ble_eq_true rfl⟩) rfl (Nat.le_of_ble_eq_true rfl) (by show 0 + (0) = 0; omega) (by show 0 + (0) = 0; omega) rfl dL_steps_159 (kk_sI (fun v36 I36 J36 h => ?_))
      obtain ⟨g37, h⟩ := h
      obtain ⟨g38, h⟩ := h
      refine wz_icmp_eq C (tgt := 167) g37 g38 dL_steps_162 (by decide) (fun c => ?_) (fun c => ?_)
      · replace h := h.1 c
        refine wz_aload_n C rfl rfl dL_steps_167 ?_
        refine wm_callV C (S := (I36, J36)) (o := 100) (As := []) (st := []) (a' := 0) (b' := 0) (shK_c hGC.2 rfl) rfl (k_X11_undo G hGC I36 J36 _ h) 0 gL_steps_X11_undo rfl (by decide +kernel) (by rw [hX]; exact ⟨Nat.le_of_ble_eq_true rfl, Nat.le_of_ble_eq_true rfl⟩) rfl (Nat.le_of_ble_eq_true rfl) (by show 0 + (0) = 0; omega) (by show 0 + (0) = 0; omega) rfl dL_steps_168 (kk_sI (fun v39 I39 J39 h => ?_))
        obtain ⟨g40, h⟩ := h
        refine wz_if_lt C (tgt := 186) g40 dL_steps_171 (by decide) (fun c => ?_) (fun c => ?_)
        · replace h := h.1 c
          refine wz_iconst C dL_steps_186 ?_
          exact wz_zret C (Or.inl rfl) dL_steps_187 ⟨_, rfl, (Or.inl rfl), h⟩
        · replace h := h.2 c
          refine wz_aload_n C rfl rfl dL_steps_174 ?_
          refine wz_aload_n C rfl rfl dL_steps_175 ?_
          refine wm_callSo C (As := [.ref (kadr G 100), .ref (kadr G 1000)]) (st := []) (a' := 0) (b' := 0) (k_L_alike G hGC hW hT I39 J39 _ h) 2 (goodIn_wsS gL_steps_L_alike) (by decide +kernel) (by decide +kernel) (by decide +kernel) rfl (by decide +kernel) (by rw [hX]; exact ⟨Nat.le_of_ble_eq_true rfl, Nat.le_of_ble_eq_true rfl⟩) rfl (Nat.le_of_ble_eq_true rfl) (by show 0 + (0) = 0; omega) (by show 0 + (0) = 0; omega) rfl dL_steps_176 (kk_sB (fun v41 I41 J41 hb41 h => ?_))
          refine wz_if_eq C (tgt := 186) (rgB hb41) dL_steps_179 (by decide) (fun c => ?_) (fun c => ?_)
          · replace h := h.1 c
            refine wz_iconst C dL_steps_186 ?_
            exact wz_zret C (Or.inl rfl) dL_steps_187 ⟨_, rfl, (Or.inl rfl), h⟩
          · replace h := h.2 c
            refine wz_iconst C dL_steps_182 ?_
            refine wz_goto C dL_steps_183 (tgt := 187) (by decide) ?_
            exact wz_zret C (Or.inr rfl) dL_steps_187 ⟨_, rfl, (Or.inr rfl), h⟩
      · replace h := h.2 c
        refine wz_iconst C dL_steps_165 ?_
        exact wz_zret C (Or.inl rfl) dL_steps_166 ⟨_, rfl, (Or.inl rfl), h⟩
set_option maxHeartbeats 4000000 in
set_option maxRecDepth 100000 in
theorem k_L_steps (G : KG) (hGC : KokC G) (hW : KWx G) {sL : Nat} {xs : Nat → Int} (hT : KScr G sL xs) (I : Ii) (J : Jj) (Q : Int → Ii → Jj → Prop) (h : wp_L_steps sL xs I J Q) : Ctr G yL_steps wsL_steps rm_L_steps [.ref (kadr G 100), .ref (kadr G 1000)] (I, J) (QsB Q) := by
  unfold wp_L_steps at h
  have hG := hGC.1
  refine Ctr.ofZ (cc := cL_steps) (nL := 7) (ret := (some .boolean)) [some (.ref (kadr G 100)), some (.ref (kadr G 1000)), none, none, none, none, none] hG (by decide +kernel) rfl (Nat.le_of_ble_eq_true rfl) (Nat.le_of_ble_eq_true rfl) (by simp [lvA, lv_args, Value.category]) ?_
  intro X hX C
  refine (?_ : Wz G X 7 (QsU G X (QsB Q)) 0 0 0 [some (.ref (kadr G 100)), some (.ref (kadr G 1000)), none, none, none, none, none] [] I J)
  refine wz_aload_n C rfl rfl dL_steps_0 ?_
  refine wm_callV C (S := (I, J)) (o := 100) (As := []) (st := []) (a' := 0) (b' := 0) (shK_c hGC.2 rfl) rfl (k_X11_nextStep G hGC I J _ h) 0 gL_steps_X11_nextStep rfl (by decide +kernel) (by rw [hX]; exact ⟨Nat.le_of_ble_eq_true rfl, Nat.le_of_ble_eq_true rfl⟩) rfl (Nat.le_of_ble_eq_true rfl) (by show 0 + (0) = 0; omega) (by show 0 + (0) = 0; omega) rfl dL_steps_1 (kk_sI (fun v1 I1 J1 h => ?_))
  refine wz_istore_2 C rfl dL_steps_4 ?_
  refine wz_aload_n C rfl rfl dL_steps_5 ?_
  refine wm_callV C (S := (I1, J1)) (o := 100) (As := []) (st := []) (a' := 0) (b' := 0) (shK_c hGC.2 rfl) rfl (k_X11_cut G hGC I1 J1 _ h) 0 gL_steps_X11_cut rfl (by decide +kernel) (by rw [hX]; exact ⟨Nat.le_of_ble_eq_true rfl, Nat.le_of_ble_eq_true rfl⟩) rfl (Nat.le_of_ble_eq_true rfl) (by show 0 + (0) = 0; omega) (by show 0 + (0) = 0; omega) rfl dL_steps_6 (kk_sI (fun v2 I2 J2 h => ?_))
  refine wz_istore_3 C rfl dL_steps_9 ?_
  refine wz_aload_n C rfl rfl dL_steps_10 ?_
  refine wm_callV C (S := (I2, J2)) (o := 100) (As := []) (st := []) (a' := 0) (b' := 0) (shK_c hGC.2 rfl) rfl (k_X11_debts G hGC I2 J2 _ h) 0 gL_steps_X11_debts rfl (by decide +kernel) (by rw [hX]; exact ⟨Nat.le_of_ble_eq_true rfl, Nat.le_of_ble_eq_true rfl⟩) rfl (Nat.le_of_ble_eq_true rfl) (by show 0 + (0) = 0; omega) (by show 0 + (0) = 0; omega) rfl dL_steps_11 (kk_sI (fun v3 I3 J3 h => ?_))
  refine wz_istore_4 C rfl dL_steps_14 ?_
  refine wz_iload_n C rfl rfl dL_steps_16 ?_
  obtain ⟨g4, h⟩ := h
  refine wz_if_ge C (tgt := 51) g4 dL_steps_17 (by decide) (fun c => ?_) (fun c => ?_)
  · replace h := h.1 c
    refine wz_aload_n C rfl rfl dL_steps_51 ?_
    refine wz_iload_n C rfl rfl dL_steps_52 ?_
    refine wz_bipush C (by decide) dL_steps_53 ?_
    obtain ⟨g5, h⟩ := h
    refine wd_idiv C g5 dL_steps_55 ?_
    refine wz_iload_n C rfl rfl dL_steps_56 ?_
    refine wz_bipush C (by decide) dL_steps_57 ?_
    obtain ⟨g6, h⟩ := h
    refine wd_irem C g6 dL_steps_59 ?_
    refine wm_callV C (S := (I3, J3)) (o := 100) (As := [.int (iZ (v1 / 10)), .int (iZ (v1 % 10))]) (st := []) (a' := 0) (b' := 0) (shK_c hGC.2 rfl) rfl (k_X11_gain G hGC (v1 / 10) (v1 % 10) I3 J3 _ h) 2 gL_steps_X11_gain rfl (by decide +kernel) (by rw [hX]; exact ⟨Nat.le_of_ble_eq_true rfl, Nat.le_of_ble_eq_true rfl⟩) rfl (Nat.le_of_ble_eq_true rfl) (by show 0 + (0) = 0; omega) (by show 0 + (0) = 0; omega) rfl dL_steps_60 (kk_sI (fun v7 I7 J7 h => ?_))
    refine wz_istore_5 C rfl dL_steps_63 ?_
    refine wz_aload_n C rfl rfl dL_steps_65 ?_
    refine wz_iload_n C rfl rfl dL_steps_66 ?_
    refine wz_bipush C (by decide) dL_steps_67 ?_
    obtain ⟨g8, h⟩ := h
    refine wd_idiv C g8 dL_steps_69 ?_
    refine wz_iload_n C rfl rfl dL_steps_70 ?_
    refine wz_bipush C (by decide) dL_steps_71 ?_
    obtain ⟨g9, h⟩ := h
    refine wd_irem C g9 dL_steps_73 ?_
    refine wm_callV C (S := (I7, J7)) (o := 100) (As := [.int (iZ (v1 / 10)), .int (iZ (v1 % 10))]) (st := []) (a' := 0) (b' := 0) (shK_c hGC.2 rfl) rfl (k_X11_debtsIf G hGC (v1 / 10) (v1 % 10) I7 J7 _ h) 2 gL_steps_X11_debtsIf rfl (by decide +kernel) (by rw [hX]; exact ⟨Nat.le_of_ble_eq_true rfl, Nat.le_of_ble_eq_true rfl⟩) rfl (Nat.le_of_ble_eq_true rfl) (by show 0 + (0) = 0; omega) (by show 0 + (0) = 0; omega) rfl dL_steps_74 (kk_sI (fun v10 I10 J10 h => ?_))
    refine wz_istore_6 C rfl dL_steps_77 ?_
    refine wz_aload_n C rfl rfl dL_steps_79 ?_
    refine wm_callV C (S := (I10, J10)) (o := 100) (As := []) (st := []) (a' := 0) (b' := 0) (shK_c hGC.2 rfl) rfl (k_X11_step G hGC I10 J10 _ h) 0 gL_steps_X11_step rfl (by decide +kernel) (by rw [hX]; exact ⟨Nat.le_of_ble_eq_true rfl, Nat.le_of_ble_eq_true rfl⟩) rfl (Nat.le_of_ble_eq_true rfl) (by show 0 + (0) = 0; omega) (by show 0 + (0) = 0; omega) rfl dL_steps_80 (kk_sI (fun v11 I11 J11 h => ?_))
    refine wz_iload_n C rfl rfl dL_steps_83 ?_
    refine wz_iload C rfl dL_steps_84 ?_
    refine wz_isub C dL_steps_86 ?_
    obtain ⟨g12, h⟩ := h
    obtain ⟨g13, h⟩ := h
    refine wz_icmp_ne C (tgt := 124) g12 g13 dL_steps_87 (by decide) (fun c => ?_) (fun c => ?_)
    · replace h := h.1 c
      refine wz_iconst C dL_steps_124 ?_
      exact wz_zret C (Or.inl rfl) dL_steps_125 ⟨_, rfl, (Or.inl rfl), h⟩
    · replace h := h.2 c
      refine wz_aload_n C rfl rfl dL_steps_90 ?_
      refine wm_callV C (S := (I11, J11)) (o := 100) (As := []) (st := []) (a' := 0) (b' := 0) (shK_c hGC.2 rfl) rfl (k_X11_debts G hGC I11 J11 _ h) 0 gL_steps_X11_debts rfl (by decide +kernel) (by rw [hX]; exact ⟨Nat.le_of_ble_eq_true rfl, Nat.le_of_ble_eq_true rfl⟩) rfl (Nat.le_of_ble_eq_true rfl) (by show 0 + (0) = 0; omega) (by show 0 + (0) = 0; omega) rfl dL_steps_91 (kk_sI (fun v14 I14 J14 h => ?_))
      refine wz_iload C rfl dL_steps_94 ?_
      obtain ⟨g15, h⟩ := h
      obtain ⟨g16, h⟩ := h
      refine wz_icmp_ne C (tgt := 124) g15 g16 dL_steps_96 (by decide) (fun c => ?_) (fun c => ?_)
      · replace h := h.1 c
        refine wz_iconst C dL_steps_124 ?_
        exact wz_zret C (Or.inl rfl) dL_steps_125 ⟨_, rfl, (Or.inl rfl), h⟩
      · replace h := h.2 c
        refine wz_iload C rfl dL_steps_99 ?_
        obtain ⟨g17, h⟩ := h
        refine wz_if_le C (tgt := 119) g17 dL_steps_101 (by decide) (fun c => ?_) (fun c => ?_)
        · replace h := h.1 c
          refine wz_iload C rfl dL_steps_119 ?_
          obtain ⟨g18, h⟩ := h
          refine wz_if_gt C (tgt := 126) g18 dL_steps_121 (by decide) (fun c => ?_) (fun c => ?_)
          · replace h := h.1 c
            exact Wz.less (a0 := 0) (b0 := 0) (by omega) (by omega) (Wz.drop (bk_L_steps_126 G hGC hG hW hT X hX C Q v1 I14 J14 h) (And.intro rfl (And.intro rfl (And.intro rfl trivial))))
          · replace h := h.2 c
            refine wz_iconst C dL_steps_124 ?_
            exact wz_zret C (Or.inl rfl) dL_steps_125 ⟨_, rfl, (Or.inl rfl), h⟩
        · replace h := h.2 c
          refine wz_iload C rfl dL_steps_104 ?_
          refine wz_iload C rfl dL_steps_106 ?_
          refine wz_icmp_lt C (tgt := 126) g16 g17 dL_steps_108 (by decide) (fun c => ?_) (fun c => ?_)
          · replace h := h.1 c
            exact Wz.less (a0 := 0) (b0 := 0) (by omega) (by omega) (Wz.drop (bk_L_steps_126 G hGC hG hW hT X hX C Q v1 I14 J14 h) (And.intro rfl (And.intro rfl (And.intro rfl trivial))))
          · replace h := h.2 c
            refine wz_iload C rfl dL_steps_111 ?_
            obtain ⟨g19, h⟩ := h
            refine wz_if_gt C (tgt := 126) g19 dL_steps_113 (by decide) (fun c => ?_) (fun c => ?_)
            · replace h := h.1 c
              exact Wz.less (a0 := 0) (b0 := 0) (by omega) (by omega) (Wz.drop (bk_L_steps_126 G hGC hG hW hT X hX C Q v1 I14 J14 h) (And.intro rfl (And.intro rfl (And.intro rfl trivial))))
            · replace h := h.2 c
              refine wz_goto C dL_steps_116 (tgt := 124) (by decide) ?_
              refine wz_iconst C dL_steps_124 ?_
              exact wz_zret C (Or.inl rfl) dL_steps_125 ⟨_, rfl, (Or.inl rfl), h⟩
  · replace h := h.2 c
    refine wz_aload_n C rfl rfl dL_steps_20 ?_
    refine wm_callV C (S := (I3, J3)) (o := 100) (As := []) (st := []) (a' := 0) (b' := 0) (shK_c hGC.2 rfl) rfl (k_X11_step G hGC I3 J3 _ h) 0 gL_steps_X11_step rfl (by decide +kernel) (by rw [hX]; exact ⟨Nat.le_of_ble_eq_true rfl, Nat.le_of_ble_eq_true rfl⟩) rfl (Nat.le_of_ble_eq_true rfl) (by show 0 + (0) = 0; omega) (by show 0 + (0) = 0; omega) rfl dL_steps_21 (kk_sI (fun v20 I20 J20 h => ?_))
    refine wz_iconst C dL_steps_24 ?_
    obtain ⟨g21, h⟩ := h
    refine wz_icmp_ne C (tgt := 49) g21 (by decide) dL_steps_25 (by decide) (fun c => ?_) (fun c => ?_)
    · replace h := h.1 c
      refine wz_iconst C dL_steps_49 ?_
      exact wz_zret C (Or.inl rfl) dL_steps_50 ⟨_, rfl, (Or.inl rfl), h⟩
    · replace h := h.2 c
      refine wz_aload_n C rfl rfl dL_steps_28 ?_
      refine wz_iconst C dL_steps_29 ?_
      refine wm_callV C (S := (I20, J20)) (o := 100) (As := [.int (iZ 0)]) (st := []) (a' := 0) (b' := 0) (shK_c hGC.2 rfl) rfl (k_X11_stepsToEnd G hGC 0 I20 J20 _ h) 1 gL_steps_X11_stepsToEnd rfl (by decide +kernel) (by rw [hX]; exact ⟨Nat.le_of_ble_eq_true rfl, Nat.le_of_ble_eq_true rfl⟩) rfl (Nat.le_of_ble_eq_true rfl) (by show 0 + (0) = 0; omega) (by show 0 + (0) = 0; omega) rfl dL_steps_30 (kk_sI (fun v22 I22 J22 h => ?_))
      obtain ⟨g23, h⟩ := h
      refine wz_if_ne C (tgt := 49) g23 dL_steps_33 (by decide) (fun c => ?_) (fun c => ?_)
      · replace h := h.1 c
        refine wz_iconst C dL_steps_49 ?_
        exact wz_zret C (Or.inl rfl) dL_steps_50 ⟨_, rfl, (Or.inl rfl), h⟩
      · replace h := h.2 c
        refine wz_aload_n C rfl rfl dL_steps_36 ?_
        refine wz_iconst C dL_steps_37 ?_
        refine wm_callV C (S := (I22, J22)) (o := 100) (As := [.int (iZ 3)]) (st := []) (a' := 0) (b' := 0) (shK_c hGC.2 rfl) rfl (k_X11_cutBehind G hGC 3 I22 J22 _ h) 1 gL_steps_X11_cutBehind rfl (by decide +kernel) (by rw [hX]; exact ⟨Nat.le_of_ble_eq_true rfl, Nat.le_of_ble_eq_true rfl⟩) rfl (Nat.le_of_ble_eq_true rfl) (by show 0 + (0) = 0; omega) (by show 0 + (0) = 0; omega) rfl dL_steps_38 (kk_sI (fun v24 I24 J24 h => ?_))
        refine wz_iload_n C rfl rfl dL_steps_41 ?_
        obtain ⟨g25, h⟩ := h
        obtain ⟨g26, h⟩ := h
        refine wz_icmp_ne C (tgt := 49) g25 g26 dL_steps_42 (by decide) (fun c => ?_) (fun c => ?_)
        · replace h := h.1 c
          refine wz_iconst C dL_steps_49 ?_
          exact wz_zret C (Or.inl rfl) dL_steps_50 ⟨_, rfl, (Or.inl rfl), h⟩
        · replace h := h.2 c
          refine wz_iconst C dL_steps_45 ?_
          refine wz_goto C dL_steps_46 (tgt := 50) (by decide) ?_
          exact wz_zret C (Or.inr rfl) dL_steps_50 ⟨_, rfl, (Or.inr rfl), h⟩
theorem in_L_flows_X12 : ∀ w ∈ wsX120, w ∈ wsL_flows := by decide +kernel
theorem f_L_flows_83 : FLk wsL_flows RL 83 15 0 := flk 15 0 rfl tyX12_ok nmX12 in_L_flows_X12 (by decide) (by decide +kernel)
def rm_L_flows : Room := { frames := 4, cells := 0, slots := 0, locals := 94 }
set_option maxHeartbeats 4000000 in
set_option maxRecDepth 100000 in
theorem lk_L_flows_12 (G : KG) (hGC : KokC G) (hG : Kok G) (hW : KWx G) {sL : Nat} {xs : Nat → Int} (hT : KScr G sL xs) (X : KX) (hX : KR X = rm_L_flows) (C : Fr G X cL_flows 6 yL_flows.cls (some .boolean) wsL_flows) (Q : Int → Ii → Jj → Prop) (r2 : Int → Ii → Jj → Prop) (w2 : ∀ (l2 : Int) (I : Ii) (J : Jj), r2 l2 I J → Wz G X 6 (QsU G X (QsB Q)) 0 0 2 [some (.ref (kadr G 100)), some (.ref (kadr G 1000)), some (.int (iZ l2)), none, none, none] [] I J) : ∀ (n : Nat) (l2 : Int) (l3 : Int) (I : Ii) (J : Jj), L_L_flows_12 sL xs Q r2 n l2 l3 I J → Wz G X 6 (QsU G X (QsB Q)) 0 0 12 [some (.ref (kadr G 100)), some (.ref (kadr G 1000)), some (.int (iZ l2)), some (.int (iZ l3)), none, none] [] I J := by
  intro n
  induction n with
  | zero => intro l2 l3 I J h; exact False.elim h
  | succ n w12 =>
    intro l2 l3 I J h
    have h : Lb_L_flows_12 sL xs Q r2 (L_L_flows_12 sL xs Q r2 n) l2 l3 I J := h
    unfold Lb_L_flows_12 at h
    generalize L_L_flows_12 sL xs Q r2 n = r12 at h w12
    refine wz_iload_n C rfl rfl dL_flows_12 ?_
    refine wz_iload_n C rfl rfl dL_flows_13 ?_
    obtain ⟨g3, h⟩ := h
    obtain ⟨g4, h⟩ := h
    refine wz_icmp_ge C (tgt := 147) g3 g4 dL_flows_14 (by decide) (fun c => ?_) (fun c => ?_)
    · replace h := h.1 c
      refine wz_iinc_2 C rfl dL_flows_147 ?_
      refine wz_goto C dL_flows_150 (tgt := 2) (by decide) ?_
      exact Wz.less (a0 := 0) (b0 := 0) (by omega) (by omega) (Wz.drop (w2 (l2 + 1) I J h) (And.intro rfl (And.intro rfl (And.intro rfl trivial))))
    · replace h := h.2 c
      refine wz_aload_n C rfl rfl dL_flows_17 ?_
      refine wz_iload_n C rfl rfl dL_flows_18 ?_
      refine wz_iload_n C rfl rfl dL_flows_19 ?_
      refine wm_callV C (S := (I, J)) (o := 100) (As := [.int (iZ l2), .int (iZ l3)]) (st := []) (a' := 0) (b' := 0) (shK_c hGC.2 rfl) rfl (k_X11_flow G hGC l2 l3 I J _ h) 2 gL_flows_X11_flow rfl (by decide +kernel) (by rw [hX]; exact ⟨Nat.le_of_ble_eq_true rfl, Nat.le_of_ble_eq_true rfl⟩) rfl (Nat.le_of_ble_eq_true rfl) (by show 0 + (0) = 0; omega) (by show 0 + (0) = 0; omega) rfl dL_flows_20 (kk_sI (fun v5 I5 J5 h => ?_))
      refine wz_istore_4 C rfl dL_flows_23 ?_
      refine wz_iload C rfl dL_flows_25 ?_
      refine wz_aload_n C rfl rfl dL_flows_27 ?_
      refine wz_iload_n C rfl rfl dL_flows_28 ?_
      refine wz_iload_n C rfl rfl dL_flows_29 ?_
      refine wm_callV C (S := (I5, J5)) (o := 100) (As := [.int (iZ l3), .int (iZ l2)]) (st := [.int (iZ v5)]) (a' := 0) (b' := 0) (shK_c hGC.2 rfl) rfl (k_X11_flow G hGC l3 l2 I5 J5 _ h) 2 gL_flows_X11_flow rfl (by decide +kernel) (by rw [hX]; exact ⟨Nat.le_of_ble_eq_true rfl, Nat.le_of_ble_eq_true rfl⟩) rfl (Nat.le_of_ble_eq_true rfl) (by show 0 + (0) = 0; omega) (by show 0 + (0) = 0; omega) rfl dL_flows_30 (kk_sI (fun v6 I6 J6 h => ?_))
      obtain ⟨g7, h⟩ := h
      obtain ⟨g8, h⟩ := h
      refine wz_icmp_ne C (tgt := 78) g7 g8 dL_flows_33 (by decide) (fun c => ?_) (fun c => ?_)
      · replace h := h.1 c
        refine wz_iconst C dL_flows_78 ?_
        exact wz_zret C (Or.inl rfl) dL_flows_79 ⟨_, rfl, (Or.inl rfl), h⟩
      · replace h := h.2 c
        refine wz_iload C rfl dL_flows_36 ?_
        refine wz_aload_n C rfl rfl dL_flows_38 ?_
        refine wz_iload_n C rfl rfl dL_flows_39 ?_
        refine wz_iload_n C rfl rfl dL_flows_40 ?_
        refine wm_callV C (S := (I6, J6)) (o := 100) (As := [.int (iZ l2), .int (iZ l3)]) (st := [.int (iZ v5)]) (a' := 0) (b' := 0) (shK_c hGC.2 rfl) rfl (k_X11_between G hGC l2 l3 I6 J6 _ h) 2 gL_flows_X11_between rfl (by decide +kernel) (by rw [hX]; exact ⟨Nat.le_of_ble_eq_true rfl, Nat.le_of_ble_eq_true rfl⟩) rfl (Nat.le_of_ble_eq_true rfl) (by show 0 + (0) = 0; omega) (by show 0 + (0) = 0; omega) rfl dL_flows_41 (kk_sI (fun v9 I9 J9 h => ?_))
        obtain ⟨g10, h⟩ := h
        obtain ⟨g11, h⟩ := h
        refine wz_icmp_lt C (tgt := 78) g10 g11 dL_flows_44 (by decide) (fun c => ?_) (fun c => ?_)
        · replace h := h.1 c
          refine wz_iconst C dL_flows_78 ?_
          exact wz_zret C (Or.inl rfl) dL_flows_79 ⟨_, rfl, (Or.inl rfl), h⟩
        · replace h := h.2 c
          refine wz_iload C rfl dL_flows_47 ?_
          refine wz_aload_n C rfl rfl dL_flows_49 ?_
          refine wz_iconst C dL_flows_50 ?_
          refine wz_iload_n C rfl rfl dL_flows_51 ?_
          refine wd_ishl C dL_flows_52 ?_
          refine wz_aload_n C rfl rfl dL_flows_53 ?_
          refine wm_callV C (S := (I9, J9)) (o := 1000) (As := []) (st := [.int (iZ (shlZ 1 l2)), .ref (kadr G 1000), .int (iZ v5)]) (a' := 0) (b' := 0) (shK_w (by decide) rfl) rfl (k_X12_all G hG hW I9 J9 _ h) 0 gL_flows_X12_all rfl (by decide +kernel) (by rw [hX]; exact ⟨Nat.le_of_ble_eq_true rfl, Nat.le_of_ble_eq_true rfl⟩) rfl (Nat.le_of_ble_eq_true rfl) (by show 0 + (0) = 0; omega) (by show 0 + (0) = 0; omega) rfl dL_flows_54 (kk_sI (fun v12 I12 J12 h => ?_))
          refine wz_iconst C dL_flows_57 ?_
          refine wz_iload_n C rfl rfl dL_flows_58 ?_
          refine wd_ishl C dL_flows_59 ?_
          refine wz_iconst C dL_flows_60 ?_
          refine wd_ixor C dL_flows_61 ?_
          refine wd_iand C dL_flows_62 ?_
          refine wm_callV C (S := (I12, J12)) (o := 1000) (As := [.int (iZ (shlZ 1 l2)), .int (iZ (andZ v12 (xorZ (shlZ 1 l2) (-1))))]) (st := [.int (iZ v5)]) (a' := 0) (b' := 0) (shK_w (by decide) rfl) rfl (k_X12_links G hG hW (shlZ 1 l2) (andZ v12 (xorZ (shlZ 1 l2) (-1))) I12 J12 _ h) 2 gL_flows_X12_links rfl (by decide +kernel) (by rw [hX]; exact ⟨Nat.le_of_ble_eq_true rfl, Nat.le_of_ble_eq_true rfl⟩) rfl (Nat.le_of_ble_eq_true rfl) (by show 0 + (0) = 0; omega) (by show 0 + (0) = 0; omega) rfl dL_flows_63 (kk_sI (fun v13 I13 J13 h => ?_))
          obtain ⟨g14, h⟩ := h
          obtain ⟨g15, h⟩ := h
          refine wz_icmp_gt C (tgt := 78) g14 g15 dL_flows_66 (by decide) (fun c => ?_) (fun c => ?_)
          · replace h := h.1 c
            refine wz_iconst C dL_flows_78 ?_
            exact wz_zret C (Or.inl rfl) dL_flows_79 ⟨_, rfl, (Or.inl rfl), h⟩
          · replace h := h.2 c
            refine wz_iload C rfl dL_flows_69 ?_
            refine wz_aload_n C rfl rfl dL_flows_71 ?_
            refine wm_callV C (S := (I13, J13)) (o := 100) (As := []) (st := [.int (iZ v5)]) (a' := 0) (b' := 0) (shK_c hGC.2 rfl) rfl (k_X11_leastFlow G hGC I13 J13 _ h) 0 gL_flows_X11_leastFlow rfl (by decide +kernel) (by rw [hX]; exact ⟨Nat.le_of_ble_eq_true rfl, Nat.le_of_ble_eq_true rfl⟩) rfl (Nat.le_of_ble_eq_true rfl) (by show 0 + (0) = 0; omega) (by show 0 + (0) = 0; omega) rfl dL_flows_72 (kk_sI (fun v16 I16 J16 h => ?_))
            obtain ⟨g17, h⟩ := h
            obtain ⟨g18, h⟩ := h
            refine wz_icmp_ge C (tgt := 80) g17 g18 dL_flows_75 (by decide) (fun c => ?_) (fun c => ?_)
            · replace h := h.1 c
              refine wz_aload_n C rfl rfl dL_flows_80 ?_
              refine wz_iload_n C rfl rfl dL_flows_81 ?_
              refine wz_iload_n C rfl rfl dL_flows_82 ?_
              refine wm_callV C (S := (I16, J16)) (o := 100) (As := [.int (iZ l2), .int (iZ l3)]) (st := []) (a' := 0) (b' := 0) (shK_c hGC.2 rfl) rfl (k_X11_side G hGC l2 l3 I16 J16 _ h) 2 gL_flows_X11_side rfl (by decide +kernel) (by rw [hX]; exact ⟨Nat.le_of_ble_eq_true rfl, Nat.le_of_ble_eq_true rfl⟩) rfl (Nat.le_of_ble_eq_true rfl) (by show 0 + (0) = 0; omega) (by show 0 + (0) = 0; omega) rfl dL_flows_83 (kk_sI (fun v19 I19 J19 h => ?_))
              refine wz_istore_5 C rfl dL_flows_86 ?_
              refine wz_iload C rfl dL_flows_88 ?_
              refine wz_iload_n C rfl rfl dL_flows_90 ?_
              refine wd_ishr C dL_flows_91 ?_
              refine wz_iconst C dL_flows_92 ?_
              refine wd_iand C dL_flows_93 ?_
              refine wz_if_eq C (tgt := 139) (toInt_rg _) dL_flows_94 (by decide) (fun c => ?_) (fun c => ?_)
              · replace h := h.1 c
                refine wz_iconst C dL_flows_139 ?_
                exact wz_zret C (Or.inl rfl) dL_flows_140 ⟨_, rfl, (Or.inl rfl), h⟩
              · replace h := h.2 c
                refine wz_iload C rfl dL_flows_97 ?_
                refine wz_iload_n C rfl rfl dL_flows_99 ?_
                refine wd_ishr C dL_flows_100 ?_
                refine wz_iconst C dL_flows_101 ?_
                refine wd_iand C dL_flows_102 ?_
                refine wz_iconst C dL_flows_103 ?_
                refine wz_icmp_eq C (tgt := 139) (toInt_rg _) (by decide) dL_flows_104 (by decide) (fun c => ?_) (fun c => ?_)
                · replace h := h.1 c
                  refine wz_iconst C dL_flows_139 ?_
                  exact wz_zret C (Or.inl rfl) dL_flows_140 ⟨_, rfl, (Or.inl rfl), h⟩
                · replace h := h.2 c
                  refine wz_aload_n C rfl rfl dL_flows_107 ?_
                  refine wz_iload C rfl dL_flows_108 ?_
                  refine wz_aload_n C rfl rfl dL_flows_110 ?_
                  refine wm_callV C (S := (I19, J19)) (o := 1000) (As := []) (st := [.int (iZ v19), .ref (kadr G 1000)]) (a' := 0) (b' := 0) (shK_w (by decide) rfl) rfl (k_X12_all G hG hW I19 J19 _ h) 0 gL_flows_X12_all rfl (by decide +kernel) (by rw [hX]; exact ⟨Nat.le_of_ble_eq_true rfl, Nat.le_of_ble_eq_true rfl⟩) rfl (Nat.le_of_ble_eq_true rfl) (by show 0 + (0) = 0; omega) (by show 0 + (0) = 0; omega) rfl dL_flows_111 (kk_sI (fun v20 I20 J20 h => ?_))
                  refine wz_iload C rfl dL_flows_114 ?_
                  refine wz_iconst C dL_flows_116 ?_
                  refine wd_ixor C dL_flows_117 ?_
                  refine wd_iand C dL_flows_118 ?_
                  refine wm_callV C (S := (I20, J20)) (o := 1000) (As := [.int (iZ v19), .int (iZ (andZ v20 (xorZ v19 (-1))))]) (st := []) (a' := 0) (b' := 0) (shK_w (by decide) rfl) rfl (k_X12_links G hG hW v19 (andZ v20 (xorZ v19 (-1))) I20 J20 _ h) 2 gL_flows_X12_links rfl (by decide +kernel) (by rw [hX]; exact ⟨Nat.le_of_ble_eq_true rfl, Nat.le_of_ble_eq_true rfl⟩) rfl (Nat.le_of_ble_eq_true rfl) (by show 0 + (0) = 0; omega) (by show 0 + (0) = 0; omega) rfl dL_flows_119 (kk_sI (fun v21 I21 J21 h => ?_))
                  refine wz_iload C rfl dL_flows_122 ?_
                  obtain ⟨g22, h⟩ := h
                  obtain ⟨g23, h⟩ := h
                  refine wz_icmp_ne C (tgt := 139) g22 g23 dL_flows_124 (by decide) (fun c => ?_) (fun c => ?_)
                  · replace h := h.1 c
                    refine wz_iconst C dL_flows_139 ?_
                    exact wz_zret C (Or.inl rfl) dL_flows_140 ⟨_, rfl, (Or.inl rfl), h⟩
                  · replace h := h.2 c
                    refine wz_iload C rfl dL_flows_127 ?_
                    refine wz_aload_n C rfl rfl dL_flows_129 ?_
                    refine wz_iload_n C rfl rfl dL_flows_130 ?_
                    refine wz_iload_n C rfl rfl dL_flows_131 ?_
                    refine wm_callV C (S := (I21, J21)) (o := 100) (As := [.int (iZ l3), .int (iZ l2)]) (st := [.int (iZ v19)]) (a' := 0) (b' := 0) (shK_c hGC.2 rfl) rfl (k_X11_side G hGC l3 l2 I21 J21 _ h) 2 gL_flows_X11_side rfl (by decide +kernel) (by rw [hX]; exact ⟨Nat.le_of_ble_eq_true rfl, Nat.le_of_ble_eq_true rfl⟩) rfl (Nat.le_of_ble_eq_true rfl) (by show 0 + (0) = 0; omega) (by show 0 + (0) = 0; omega) rfl dL_flows_132 (kk_sI (fun v24 I24 J24 h => ?_))
                    refine wd_iand C dL_flows_135 ?_
                    refine wz_if_eq C (tgt := 141) (toInt_rg _) dL_flows_136 (by decide) (fun c => ?_) (fun c => ?_)
                    · replace h := h.1 c
                      refine wz_iinc_3 C rfl dL_flows_141 ?_
                      refine wz_goto C dL_flows_144 (tgt := 12) (by decide) ?_
                      exact Wz.less (a0 := 0) (b0 := 0) (by omega) (by omega) (Wz.drop (w12 l2 (l3 + 1) I24 J24 h) (And.intro rfl (And.intro rfl (And.intro rfl (And.intro rfl trivial)))))
                    · replace h := h.2 c
                      refine wz_iconst C dL_flows_139 ?_
                      exact wz_zret C (Or.inl rfl) dL_flows_140 ⟨_, rfl, (Or.inl rfl), h⟩
            · replace h := h.2 c
              refine wz_iconst C dL_flows_78 ?_
              exact wz_zret C (Or.inl rfl) dL_flows_79 ⟨_, rfl, (Or.inl rfl), h⟩
set_option maxHeartbeats 4000000 in
set_option maxRecDepth 100000 in
theorem lk_L_flows_2 (G : KG) (hGC : KokC G) (hG : Kok G) (hW : KWx G) {sL : Nat} {xs : Nat → Int} (hT : KScr G sL xs) (X : KX) (hX : KR X = rm_L_flows) (C : Fr G X cL_flows 6 yL_flows.cls (some .boolean) wsL_flows) (Q : Int → Ii → Jj → Prop) : ∀ (n : Nat) (l2 : Int) (I : Ii) (J : Jj), L_L_flows_2 sL xs Q n l2 I J → Wz G X 6 (QsU G X (QsB Q)) 0 0 2 [some (.ref (kadr G 100)), some (.ref (kadr G 1000)), some (.int (iZ l2)), none, none, none] [] I J := by
  intro n
  induction n with
  | zero => intro l2 I J h; exact False.elim h
  | succ n w2 =>
    intro l2 I J h
    have h : Lb_L_flows_2 sL xs Q (L_L_flows_2 sL xs Q n) l2 I J := h
    unfold Lb_L_flows_2 at h
    generalize L_L_flows_2 sL xs Q n = r2 at h w2
    refine wz_iload_n C rfl rfl dL_flows_2 ?_
    refine wz_aload_n C rfl rfl dL_flows_3 ?_
    refine wz_getI C rfl f_L_flows_83 (sOw rfl (by decide)) dL_flows_4 ?_
    obtain ⟨g1, h⟩ := h
    obtain ⟨g2, h⟩ := h
    refine wz_icmp_ge C (tgt := 153) g1 g2 dL_flows_7 (by decide) (fun c => ?_) (fun c => ?_)
    · replace h := h.1 c
      refine wz_iconst C dL_flows_153 ?_
      exact wz_zret C (Or.inr rfl) dL_flows_154 ⟨_, rfl, (Or.inr rfl), h⟩
    · replace h := h.2 c
      refine wz_iconst C dL_flows_10 ?_
      refine wz_istore_3 C rfl dL_flows_11 ?_
      obtain ⟨n, h⟩ := h
      exact Wz.less (a0 := 0) (b0 := 0) (by omega) (by omega) (lk_L_flows_12 G hGC hG hW hT X hX C Q r2 w2 n l2 0 I J h)
set_option maxHeartbeats 4000000 in
set_option maxRecDepth 100000 in
theorem k_L_flows (G : KG) (hGC : KokC G) (hW : KWx G) {sL : Nat} {xs : Nat → Int} (hT : KScr G sL xs) (I : Ii) (J : Jj) (Q : Int → Ii → Jj → Prop) (h : wp_L_flows sL xs I J Q) : Ctr G yL_flows wsL_flows rm_L_flows [.ref (kadr G 100), .ref (kadr G 1000)] (I, J) (QsB Q) := by
  unfold wp_L_flows at h
  have hG := hGC.1
  refine Ctr.ofZ (cc := cL_flows) (nL := 6) (ret := (some .boolean)) [some (.ref (kadr G 100)), some (.ref (kadr G 1000)), none, none, none, none] hG (by decide +kernel) rfl (Nat.le_of_ble_eq_true rfl) (Nat.le_of_ble_eq_true rfl) (by simp [lvA, lv_args, Value.category]) ?_
  intro X hX C
  refine (?_ : Wz G X 6 (QsU G X (QsB Q)) 0 0 0 [some (.ref (kadr G 100)), some (.ref (kadr G 1000)), none, none, none, none] [] I J)
  refine wz_iconst C dL_flows_0 ?_
  refine wz_istore_2 C rfl dL_flows_1 ?_
  obtain ⟨n, h⟩ := h
  exact Wz.less (a0 := 0) (b0 := 0) (by omega) (by omega) (lk_L_flows_2 G hGC hG hW hT X hX C Q n 0 I J h)
def rm_L_back : Room := { frames := 6, cells := 0, slots := 0, locals := 144 }
set_option maxHeartbeats 4000000 in
set_option maxRecDepth 100000 in
theorem k_L_back (G : KG) (hGC : KokC G) (hW : KWx G) {sL : Nat} {xs : Nat → Int} (hT : KScr G sL xs) (I : Ii) (J : Jj) (Q : Int → Ii → Jj → Prop) (h : wp_L_back sL xs I J Q) : Ctr G yL_back wsL_back rm_L_back [.ref (kadr G 100), .ref (kadr G 1000)] (I, J) (QsB Q) := by
  unfold wp_L_back at h
  have hG := hGC.1
  refine Ctr.ofZ (cc := cL_back) (nL := 3) (ret := (some .boolean)) [some (.ref (kadr G 100)), some (.ref (kadr G 1000)), none] hG (by decide +kernel) rfl (Nat.le_of_ble_eq_true rfl) (Nat.le_of_ble_eq_true rfl) (by simp [lvA, lv_args, Value.category]) ?_
  intro X hX C
  refine (?_ : Wz G X 3 (QsU G X (QsB Q)) 0 0 0 [some (.ref (kadr G 100)), some (.ref (kadr G 1000)), none] [] I J)
  refine wz_aload_n C rfl rfl dL_back_0 ?_
  refine wm_callV C (S := (I, J)) (o := 100) (As := []) (st := []) (a' := 0) (b' := 0) (shK_c hGC.2 rfl) rfl (k_X11_whyNotShrink G hGC I J _ h) 0 gL_back_X11_whyNotShrink rfl (by decide +kernel) (by rw [hX]; exact ⟨Nat.le_of_ble_eq_true rfl, Nat.le_of_ble_eq_true rfl⟩) rfl (Nat.le_of_ble_eq_true rfl) (by show 0 + (0) = 0; omega) (by show 0 + (0) = 0; omega) rfl dL_back_1 (kk_sI (fun v1 I1 J1 h => ?_))
  obtain ⟨g2, h⟩ := h
  refine wz_if_le C (tgt := 9) g2 dL_back_4 (by decide) (fun c => ?_) (fun c => ?_)
  · replace h := h.1 c
    refine wz_aload_n C rfl rfl dL_back_9 ?_
    refine wz_bipush C (by decide) dL_back_10 ?_
    refine wm_callV C (S := (I1, J1)) (o := 100) (As := [.int (iZ 9)]) (st := []) (a' := 0) (b' := 0) (shK_c hGC.2 rfl) rfl (k_X11_setting G hGC 9 I1 J1 _ h) 1 gL_back_X11_setting rfl (by decide +kernel) (by rw [hX]; exact ⟨Nat.le_of_ble_eq_true rfl, Nat.le_of_ble_eq_true rfl⟩) rfl (Nat.le_of_ble_eq_true rfl) (by show 0 + (0) = 0; omega) (by show 0 + (0) = 0; omega) rfl dL_back_12 (kk_sI (fun v3 I3 J3 h => ?_))
    refine wz_istore_2 C rfl dL_back_15 ?_
    refine wz_aload_n C rfl rfl dL_back_16 ?_
    refine wm_callV C (S := (I3, J3)) (o := 100) (As := []) (st := []) (a' := 0) (b' := 0) (shK_c hGC.2 rfl) rfl (k_X11_shrink G hGC I3 J3 _ h) 0 gL_back_X11_shrink rfl (by decide +kernel) (by rw [hX]; exact ⟨Nat.le_of_ble_eq_true rfl, Nat.le_of_ble_eq_true rfl⟩) rfl (Nat.le_of_ble_eq_true rfl) (by show 0 + (0) = 0; omega) (by show 0 + (0) = 0; omega) rfl dL_back_17 (kk_sI (fun v4 I4 J4 h => ?_))
    refine wz_iload_n C rfl rfl dL_back_20 ?_
    obtain ⟨g5, h⟩ := h
    obtain ⟨g6, h⟩ := h
    refine wz_icmp_ge C (tgt := 32) g5 g6 dL_back_21 (by decide) (fun c => ?_) (fun c => ?_)
    · replace h := h.1 c
      refine wz_iconst C dL_back_32 ?_
      exact wz_zret C (Or.inl rfl) dL_back_33 ⟨_, rfl, (Or.inl rfl), h⟩
    · replace h := h.2 c
      refine wz_aload_n C rfl rfl dL_back_24 ?_
      refine wm_callV C (S := (I4, J4)) (o := 100) (As := []) (st := []) (a' := 0) (b' := 0) (shK_c hGC.2 rfl) rfl (k_X11_grow G hGC I4 J4 _ h) 0 gL_back_X11_grow rfl (by decide +kernel) (by rw [hX]; exact ⟨Nat.le_of_ble_eq_true rfl, Nat.le_of_ble_eq_true rfl⟩) rfl (Nat.le_of_ble_eq_true rfl) (by show 0 + (0) = 0; omega) (by show 0 + (0) = 0; omega) rfl dL_back_25 (kk_sI (fun v7 I7 J7 h => ?_))
      refine wz_iload_n C rfl rfl dL_back_28 ?_
      obtain ⟨g8, h⟩ := h
      obtain ⟨g9, h⟩ := h
      refine wz_icmp_eq C (tgt := 34) g8 g9 dL_back_29 (by decide) (fun c => ?_) (fun c => ?_)
      · replace h := h.1 c
        refine wz_aload_n C rfl rfl dL_back_34 ?_
        refine wz_aload_n C rfl rfl dL_back_35 ?_
        refine wm_callSo C (As := [.ref (kadr G 100), .ref (kadr G 1000)]) (st := []) (a' := 0) (b' := 0) (k_L_alike G hGC hW hT I7 J7 _ h) 2 (goodIn_wsS gL_back_L_alike) (by decide +kernel) (by decide +kernel) (by decide +kernel) rfl (by decide +kernel) (by rw [hX]; exact ⟨Nat.le_of_ble_eq_true rfl, Nat.le_of_ble_eq_true rfl⟩) rfl (Nat.le_of_ble_eq_true rfl) (by show 0 + (0) = 0; omega) (by show 0 + (0) = 0; omega) rfl dL_back_36 (kk_sB (fun v10 I10 J10 hb10 h => ?_))
        refine wz_if_eq C (tgt := 68) (rgB hb10) dL_back_39 (by decide) (fun c => ?_) (fun c => ?_)
        · replace h := h.1 c
          refine wz_iconst C dL_back_68 ?_
          exact wz_zret C (Or.inl rfl) dL_back_69 ⟨_, rfl, (Or.inl rfl), h⟩
        · replace h := h.2 c
          refine wz_aload_n C rfl rfl dL_back_42 ?_
          refine wm_callV C (S := (I10, J10)) (o := 100) (As := []) (st := []) (a' := 0) (b' := 0) (shK_c hGC.2 rfl) rfl (k_X11_undo G hGC I10 J10 _ h) 0 gL_back_X11_undo rfl (by decide +kernel) (by rw [hX]; exact ⟨Nat.le_of_ble_eq_true rfl, Nat.le_of_ble_eq_true rfl⟩) rfl (Nat.le_of_ble_eq_true rfl) (by show 0 + (0) = 0; omega) (by show 0 + (0) = 0; omega) rfl dL_back_43 (kk_sI (fun v11 I11 J11 h => ?_))
          obtain ⟨g12, h⟩ := h
          refine wz_if_lt C (tgt := 68) g12 dL_back_46 (by decide) (fun c => ?_) (fun c => ?_)
          · replace h := h.1 c
            refine wz_iconst C dL_back_68 ?_
            exact wz_zret C (Or.inl rfl) dL_back_69 ⟨_, rfl, (Or.inl rfl), h⟩
          · replace h := h.2 c
            refine wz_aload_n C rfl rfl dL_back_49 ?_
            refine wm_callV C (S := (I11, J11)) (o := 100) (As := []) (st := []) (a' := 0) (b' := 0) (shK_c hGC.2 rfl) rfl (k_X11_undo G hGC I11 J11 _ h) 0 gL_back_X11_undo rfl (by decide +kernel) (by rw [hX]; exact ⟨Nat.le_of_ble_eq_true rfl, Nat.le_of_ble_eq_true rfl⟩) rfl (Nat.le_of_ble_eq_true rfl) (by show 0 + (0) = 0; omega) (by show 0 + (0) = 0; omega) rfl dL_back_50 (kk_sI (fun v13 I13 J13 h => ?_))
            obtain ⟨g14, h⟩ := h
            refine wz_if_lt C (tgt := 68) g14 dL_back_53 (by decide) (fun c => ?_) (fun c => ?_)
            · replace h := h.1 c
              refine wz_iconst C dL_back_68 ?_
              exact wz_zret C (Or.inl rfl) dL_back_69 ⟨_, rfl, (Or.inl rfl), h⟩
            · replace h := h.2 c
              refine wz_aload_n C rfl rfl dL_back_56 ?_
              refine wz_aload_n C rfl rfl dL_back_57 ?_
              refine wm_callSo C (As := [.ref (kadr G 100), .ref (kadr G 1000)]) (st := []) (a' := 0) (b' := 0) (k_L_alike G hGC hW hT I13 J13 _ h) 2 (goodIn_wsS gL_back_L_alike) (by decide +kernel) (by decide +kernel) (by decide +kernel) rfl (by decide +kernel) (by rw [hX]; exact ⟨Nat.le_of_ble_eq_true rfl, Nat.le_of_ble_eq_true rfl⟩) rfl (Nat.le_of_ble_eq_true rfl) (by show 0 + (0) = 0; omega) (by show 0 + (0) = 0; omega) rfl dL_back_58 (kk_sB (fun v15 I15 J15 hb15 h => ?_))
              refine wz_if_eq C (tgt := 68) (rgB hb15) dL_back_61 (by decide) (fun c => ?_) (fun c => ?_)
              · replace h := h.1 c
                refine wz_iconst C dL_back_68 ?_
                exact wz_zret C (Or.inl rfl) dL_back_69 ⟨_, rfl, (Or.inl rfl), h⟩
              · replace h := h.2 c
                refine wz_iconst C dL_back_64 ?_
                refine wz_goto C dL_back_65 (tgt := 69) (by decide) ?_
                exact wz_zret C (Or.inr rfl) dL_back_69 ⟨_, rfl, (Or.inr rfl), h⟩
      · replace h := h.2 c
        refine wz_iconst C dL_back_32 ?_
        exact wz_zret C (Or.inl rfl) dL_back_33 ⟨_, rfl, (Or.inl rfl), h⟩
  · replace h := h.2 c
    refine wz_iconst C dL_back_7 ?_
    exact wz_zret C (Or.inr rfl) dL_back_8 ⟨_, rfl, (Or.inr rfl), h⟩
