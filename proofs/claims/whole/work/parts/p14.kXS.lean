def rm_X7_kindOfWord : Room := { frames := 5, cells := 0, slots := 0, locals := 200 }
set_option maxHeartbeats 4000000 in
set_option maxRecDepth 100000 in
theorem k_X7_kindOfWord (G : KG) (hG : Kok G) (hW : KSx G) (I : Ii) (J : Jj) (Q : Int → Ii → Jj → Prop) (hr5 : rg (I 101 5)) (h : wp_X7_kindOfWord I J Q) : Ctr G yX7_kindOfWord wsX7_kindOfWord rm_X7_kindOfWord [.ref (kadr G 104), .ref (kadr G 101)] (I, J) (QsI Q) := by
  unfold wp_X7_kindOfWord at h
  skip
  refine Ctr.ofZ (cc := cX7_kindOfWord) (nL := 2) (ret := (some .int)) [some (.ref (kadr G 104)), some (.ref (kadr G 101))] hG (by decide +kernel) rfl (Nat.le_of_ble_eq_true rfl) (Nat.le_of_ble_eq_true rfl) (by simp [lvA, lv_args, Value.category]) ?_
  intro X hX C
  refine wz_aload_n C rfl rfl dX7_kindOfWord_0 ?_
  refine wd_isw C hG hW hr5 5 rfl h gX7_kindOfWord_X10_isWord (by rw [hX]; exact ⟨Nat.le_of_ble_eq_true rfl, Nat.le_of_ble_eq_true rfl⟩) dX7_kindOfWord_1 dX7_kindOfWord_3 (fun v1 I1 J1 hb1 hr5 h => ?_)
  refine wz_if_eq C (tgt := 11) (rgB hb1) dX7_kindOfWord_6 (by decide) (fun c => ?_) (fun c => ?_)
  · replace h := h.1 c
    refine wz_aload_n C rfl rfl dX7_kindOfWord_11 ?_
    refine wd_isw C hG hW hr5 6 rfl h gX7_kindOfWord_X10_isWord (by rw [hX]; exact ⟨Nat.le_of_ble_eq_true rfl, Nat.le_of_ble_eq_true rfl⟩) dX7_kindOfWord_12 dX7_kindOfWord_14 (fun v2 I2 J2 hb2 hr5 h => ?_)
    refine wz_if_eq C (tgt := 22) (rgB hb2) dX7_kindOfWord_17 (by decide) (fun c => ?_) (fun c => ?_)
    · replace h := h.1 c
      refine wz_aload_n C rfl rfl dX7_kindOfWord_22 ?_
      refine wd_isw C hG hW hr5 7 rfl h gX7_kindOfWord_X10_isWord (by rw [hX]; exact ⟨Nat.le_of_ble_eq_true rfl, Nat.le_of_ble_eq_true rfl⟩) dX7_kindOfWord_23 dX7_kindOfWord_25 (fun v3 I3 J3 hb3 hr5 h => ?_)
      refine wz_if_eq C (tgt := 33) (rgB hb3) dX7_kindOfWord_28 (by decide) (fun c => ?_) (fun c => ?_)
      · replace h := h.1 c
        refine wz_aload_n C rfl rfl dX7_kindOfWord_33 ?_
        refine wd_isw C hG hW hr5 8 rfl h gX7_kindOfWord_X10_isWord (by rw [hX]; exact ⟨Nat.le_of_ble_eq_true rfl, Nat.le_of_ble_eq_true rfl⟩) dX7_kindOfWord_34 dX7_kindOfWord_36 (fun v4 I4 J4 hb4 hr5 h => ?_)
        refine wz_if_eq C (tgt := 44) (rgB hb4) dX7_kindOfWord_39 (by decide) (fun c => ?_) (fun c => ?_)
        · replace h := h.1 c
          refine wz_aload_n C rfl rfl dX7_kindOfWord_44 ?_
          refine wd_isw C hG hW hr5 9 rfl h gX7_kindOfWord_X10_isWord (by rw [hX]; exact ⟨Nat.le_of_ble_eq_true rfl, Nat.le_of_ble_eq_true rfl⟩) dX7_kindOfWord_45 dX7_kindOfWord_47 (fun v5 I5 J5 hb5 hr5 h => ?_)
          refine wz_if_eq C (tgt := 55) (rgB hb5) dX7_kindOfWord_50 (by decide) (fun c => ?_) (fun c => ?_)
          · replace h := h.1 c
            refine wz_aload_n C rfl rfl dX7_kindOfWord_55 ?_
            refine wd_isw C hG hW hr5 10 rfl h gX7_kindOfWord_X10_isWord (by rw [hX]; exact ⟨Nat.le_of_ble_eq_true rfl, Nat.le_of_ble_eq_true rfl⟩) dX7_kindOfWord_56 dX7_kindOfWord_58 (fun v6 I6 J6 hb6 hr5 h => ?_)
            refine wz_if_eq C (tgt := 66) (rgB hb6) dX7_kindOfWord_61 (by decide) (fun c => ?_) (fun c => ?_)
            · replace h := h.1 c
              refine wz_aload_n C rfl rfl dX7_kindOfWord_66 ?_
              refine wd_isw C hG hW hr5 11 rfl h gX7_kindOfWord_X10_isWord (by rw [hX]; exact ⟨Nat.le_of_ble_eq_true rfl, Nat.le_of_ble_eq_true rfl⟩) dX7_kindOfWord_67 dX7_kindOfWord_69 (fun v7 I7 J7 hb7 hr5 h => ?_)
              refine wz_if_eq C (tgt := 78) (rgB hb7) dX7_kindOfWord_72 (by decide) (fun c => ?_) (fun c => ?_)
              · replace h := h.1 c
                refine wz_aload_n C rfl rfl dX7_kindOfWord_78 ?_
                refine wd_isw C hG hW hr5 12 rfl h gX7_kindOfWord_X10_isWord (by rw [hX]; exact ⟨Nat.le_of_ble_eq_true rfl, Nat.le_of_ble_eq_true rfl⟩) dX7_kindOfWord_79 dX7_kindOfWord_81 (fun v8 I8 J8 hb8 hr5 h => ?_)
                refine wz_if_eq C (tgt := 90) (rgB hb8) dX7_kindOfWord_84 (by decide) (fun c => ?_) (fun c => ?_)
                · replace h := h.1 c
                  refine wz_aload_n C rfl rfl dX7_kindOfWord_90 ?_
                  refine wd_isw C hG hW hr5 13 rfl h gX7_kindOfWord_X10_isWord (by rw [hX]; exact ⟨Nat.le_of_ble_eq_true rfl, Nat.le_of_ble_eq_true rfl⟩) dX7_kindOfWord_91 dX7_kindOfWord_93 (fun v9 I9 J9 hb9 hr5 h => ?_)
                  refine wz_if_eq C (tgt := 104) (rgB hb9) dX7_kindOfWord_96 (by decide) (fun c => ?_) (fun c => ?_)
                  · replace h := h.1 c
                    refine wz_iconst C dX7_kindOfWord_104 ?_
                    exact wz_iret C dX7_kindOfWord_105 ⟨_, rfl, h⟩
                  · replace h := h.2 c
                    refine wz_bipush C (by decide) dX7_kindOfWord_99 ?_
                    refine wz_goto C dX7_kindOfWord_101 (tgt := 105) (by decide) ?_
                    exact wz_iret C dX7_kindOfWord_105 ⟨_, rfl, h⟩
                · replace h := h.2 c
                  refine wz_bipush C (by decide) dX7_kindOfWord_87 ?_
                  exact wz_iret C dX7_kindOfWord_89 ⟨_, rfl, h⟩
              · replace h := h.2 c
                refine wz_bipush C (by decide) dX7_kindOfWord_75 ?_
                exact wz_iret C dX7_kindOfWord_77 ⟨_, rfl, h⟩
            · replace h := h.2 c
              refine wz_iconst C dX7_kindOfWord_64 ?_
              exact wz_iret C dX7_kindOfWord_65 ⟨_, rfl, h⟩
          · replace h := h.2 c
            refine wz_iconst C dX7_kindOfWord_53 ?_
            exact wz_iret C dX7_kindOfWord_54 ⟨_, rfl, h⟩
        · replace h := h.2 c
          refine wz_iconst C dX7_kindOfWord_42 ?_
          exact wz_iret C dX7_kindOfWord_43 ⟨_, rfl, h⟩
      · replace h := h.2 c
        refine wz_iconst C dX7_kindOfWord_31 ?_
        exact wz_iret C dX7_kindOfWord_32 ⟨_, rfl, h⟩
    · replace h := h.2 c
      refine wz_iconst C dX7_kindOfWord_20 ?_
      exact wz_iret C dX7_kindOfWord_21 ⟨_, rfl, h⟩
  · replace h := h.2 c
    refine wz_iconst C dX7_kindOfWord_9 ?_
    exact wz_iret C dX7_kindOfWord_10 ⟨_, rfl, h⟩
def rm_X9_readStatement : Room := { frames := 5, cells := 0, slots := 0, locals := 200 }
set_option maxHeartbeats 4000000 in
set_option maxRecDepth 100000 in
theorem k_X9_readStatement (G : KG) (hG : Kok G) (hW : KSx G) (k2 : Nat) (I : Ii) (J : Jj) (Q : Int → Ii → Jj → Prop) (hr5 : rg (I 101 5)) (h : wp_X9_readStatement k2 I J Q) : Ctr G yX9_readStatement wsX9_readStatement rm_X9_readStatement [.ref (kadr G 103), .ref (kadr G 101), .ref (kadr G k2)] (I, J) (QsB Q) := by
  unfold wp_X9_readStatement at h
  obtain ⟨hk2, h⟩ := h
  refine Ctr.ofZ (cc := cX9_readStatement) (nL := 3) (ret := (some .boolean)) [some (.ref (kadr G 103)), some (.ref (kadr G 101)), some (.ref (kadr G k2))] hG (by decide +kernel) rfl (Nat.le_of_ble_eq_true rfl) (Nat.le_of_ble_eq_true rfl) (by simp [lvA, lv_args, Value.category]) ?_
  intro X hX C
  refine wz_aload_n C rfl rfl dX9_readStatement_0 ?_
  refine wd_isw C hG hW hr5 0 rfl h gX9_readStatement_X10_isWord (by rw [hX]; exact ⟨Nat.le_of_ble_eq_true rfl, Nat.le_of_ble_eq_true rfl⟩) dX9_readStatement_1 dX9_readStatement_3 (fun v1 I1 J1 hb1 hr5 h => ?_)
  refine wz_if_eq C (tgt := 16) (rgB hb1) dX9_readStatement_6 (by decide) (fun c => ?_) (fun c => ?_)
  · replace h := h.1 c
    refine wz_aload_n C rfl rfl dX9_readStatement_16 ?_
    refine wd_isw C hG hW hr5 1 rfl h gX9_readStatement_X10_isWord (by rw [hX]; exact ⟨Nat.le_of_ble_eq_true rfl, Nat.le_of_ble_eq_true rfl⟩) dX9_readStatement_17 dX9_readStatement_19 (fun v2 I2 J2 hb2 hr5 h => ?_)
    refine wz_if_eq C (tgt := 32) (rgB hb2) dX9_readStatement_22 (by decide) (fun c => ?_) (fun c => ?_)
    · replace h := h.1 c
      refine wz_aload_n C rfl rfl dX9_readStatement_32 ?_
      refine wd_isw C hG hW hr5 2 rfl h gX9_readStatement_X10_isWord (by rw [hX]; exact ⟨Nat.le_of_ble_eq_true rfl, Nat.le_of_ble_eq_true rfl⟩) dX9_readStatement_33 dX9_readStatement_35 (fun v3 I3 J3 hb3 hr5 h => ?_)
      refine wz_if_eq C (tgt := 48) (rgB hb3) dX9_readStatement_38 (by decide) (fun c => ?_) (fun c => ?_)
      · replace h := h.1 c
        refine wz_aload_n C rfl rfl dX9_readStatement_48 ?_
        refine wd_isw C hG hW hr5 3 rfl h gX9_readStatement_X10_isWord (by rw [hX]; exact ⟨Nat.le_of_ble_eq_true rfl, Nat.le_of_ble_eq_true rfl⟩) dX9_readStatement_49 dX9_readStatement_51 (fun v4 I4 J4 hb4 hr5 h => ?_)
        refine wz_if_eq C (tgt := 64) (rgB hb4) dX9_readStatement_54 (by decide) (fun c => ?_) (fun c => ?_)
        · replace h := h.1 c
          refine wz_aload_n C rfl rfl dX9_readStatement_64 ?_
          refine wd_isw C hG hW hr5 4 rfl h gX9_readStatement_X10_isWord (by rw [hX]; exact ⟨Nat.le_of_ble_eq_true rfl, Nat.le_of_ble_eq_true rfl⟩) dX9_readStatement_65 dX9_readStatement_67 (fun v5 I5 J5 hb5 hr5 h => ?_)
          refine wz_if_eq C (tgt := 80) (rgB hb5) dX9_readStatement_70 (by decide) (fun c => ?_) (fun c => ?_)
          · replace h := h.1 c
            refine wz_aload_n C rfl rfl dX9_readStatement_80 ?_
            refine wz_iconst C dX9_readStatement_81 ?_
            refine wm_callV C (o := 101) (As := [.int (iZ 1)]) (st := []) (a' := 0) (b' := 0) rfl rfl (k_X10_fail G hG 1 I5 J5 _ h) 1 gX9_readStatement_X10_fail rfl (by decide +kernel) (by rw [hX]; exact ⟨Nat.le_of_ble_eq_true rfl, Nat.le_of_ble_eq_true rfl⟩) rfl (Nat.le_of_ble_eq_true rfl) rfl rfl rfl dX9_readStatement_82 (kk_sB (fun v6 I6 J6 hb6 h => ?_))
            exact wz_zret C h.1 dX9_readStatement_85 ⟨_, rfl, h.1, h.2⟩
          · replace h := h.2 c
            refine wz_aload_n C rfl rfl dX9_readStatement_73 ?_
            refine wz_aload_n C rfl rfl dX9_readStatement_74 ?_
            refine wz_aload_n C rfl rfl dX9_readStatement_75 ?_
            refine wm_callV C (o := 103) (As := [.ref (kadr G 101), .ref (kadr G k2)]) (st := []) (a' := 0) (b' := 0) rfl rfl (k_X9_readCredit G hG k2 I5 J5 _ h) 2 gX9_readStatement_X9_readCredit rfl (by decide +kernel) (by rw [hX]; exact ⟨Nat.le_of_ble_eq_true rfl, Nat.le_of_ble_eq_true rfl⟩) rfl (Nat.le_of_ble_eq_true rfl) rfl rfl rfl dX9_readStatement_76 (kk_sB (fun v7 I7 J7 hb7 h => ?_))
            exact wz_zret C h.1 dX9_readStatement_79 ⟨_, rfl, h.1, h.2⟩
        · replace h := h.2 c
          refine wz_aload_n C rfl rfl dX9_readStatement_57 ?_
          refine wz_aload_n C rfl rfl dX9_readStatement_58 ?_
          refine wz_aload_n C rfl rfl dX9_readStatement_59 ?_
          refine wm_callV C (o := 103) (As := [.ref (kadr G 101), .ref (kadr G k2)]) (st := []) (a' := 0) (b' := 0) rfl rfl (k_X9_readSlack G hG k2 I4 J4 _ h) 2 gX9_readStatement_X9_readSlack rfl (by decide +kernel) (by rw [hX]; exact ⟨Nat.le_of_ble_eq_true rfl, Nat.le_of_ble_eq_true rfl⟩) rfl (Nat.le_of_ble_eq_true rfl) rfl rfl rfl dX9_readStatement_60 (kk_sB (fun v8 I8 J8 hb8 h => ?_))
          exact wz_zret C h.1 dX9_readStatement_63 ⟨_, rfl, h.1, h.2⟩
      · replace h := h.2 c
        refine wz_aload_n C rfl rfl dX9_readStatement_41 ?_
        refine wz_aload_n C rfl rfl dX9_readStatement_42 ?_
        refine wz_aload_n C rfl rfl dX9_readStatement_43 ?_
        refine wm_callV C (o := 103) (As := [.ref (kadr G 101), .ref (kadr G k2)]) (st := []) (a' := 0) (b' := 0) rfl rfl (k_X9_readParts G hG k2 I3 J3 _ h) 2 gX9_readStatement_X9_readParts rfl (by decide +kernel) (by rw [hX]; exact ⟨Nat.le_of_ble_eq_true rfl, Nat.le_of_ble_eq_true rfl⟩) rfl (Nat.le_of_ble_eq_true rfl) rfl rfl rfl dX9_readStatement_44 (kk_sB (fun v9 I9 J9 hb9 h => ?_))
        exact wz_zret C h.1 dX9_readStatement_47 ⟨_, rfl, h.1, h.2⟩
    · replace h := h.2 c
      refine wz_aload_n C rfl rfl dX9_readStatement_25 ?_
      refine wz_aload_n C rfl rfl dX9_readStatement_26 ?_
      refine wz_aload_n C rfl rfl dX9_readStatement_27 ?_
      refine wm_callV C (o := 103) (As := [.ref (kadr G 101), .ref (kadr G k2)]) (st := []) (a' := 0) (b' := 0) rfl rfl (k_X9_readEdge G hG k2 I2 J2 _ h) 2 gX9_readStatement_X9_readEdge rfl (by decide +kernel) (by rw [hX]; exact ⟨Nat.le_of_ble_eq_true rfl, Nat.le_of_ble_eq_true rfl⟩) rfl (Nat.le_of_ble_eq_true rfl) rfl rfl rfl dX9_readStatement_28 (kk_sB (fun v10 I10 J10 hb10 h => ?_))
      exact wz_zret C h.1 dX9_readStatement_31 ⟨_, rfl, h.1, h.2⟩
  · replace h := h.2 c
    refine wz_aload_n C rfl rfl dX9_readStatement_9 ?_
    refine wz_aload_n C rfl rfl dX9_readStatement_10 ?_
    refine wz_aload_n C rfl rfl dX9_readStatement_11 ?_
    refine wm_callV C (o := 103) (As := [.ref (kadr G 101), .ref (kadr G k2)]) (st := []) (a' := 0) (b' := 0) rfl rfl (k_X9_readVertex G hG k2 I1 J1 _ h) 2 gX9_readStatement_X9_readVertex rfl (by decide +kernel) (by rw [hX]; exact ⟨Nat.le_of_ble_eq_true rfl, Nat.le_of_ble_eq_true rfl⟩) rfl (Nat.le_of_ble_eq_true rfl) rfl rfl rfl dX9_readStatement_12 (kk_sB (fun v11 I11 J11 hb11 h => ?_))
    exact wz_zret C h.1 dX9_readStatement_15 ⟨_, rfl, h.1, h.2⟩
theorem in_X7_readCommand_X10 : ∀ w ∈ wsX100, w ∈ wsX7_readCommand := by decide +kernel
theorem in_X7_readCommand_X6 : ∀ w ∈ wsX60, w ∈ wsX7_readCommand := by decide +kernel
theorem f_X7_readCommand_29 : FLk wsX7_readCommand RX7 29 10 8 := flk 10 8 rfl tyX10_ok nmX10 in_X7_readCommand_X10 (by decide) (by decide +kernel)
theorem f_X7_readCommand_59 : FLk wsX7_readCommand RX7 59 6 5 := flk 6 5 rfl tyX6_ok nmX6 in_X7_readCommand_X6 (by decide) (by decide +kernel)
def rm_X7_readCommand : Room := { frames := 6, cells := 0, slots := 0, locals := 221 }
set_option maxHeartbeats 4000000 in
set_option maxRecDepth 100000 in
theorem bk_X7_readCommand_130 (G : KG) (hG : Kok G) (hW : KSx G) (X : KX) (hX : KR X = rm_X7_readCommand) (C : Fr G X cX7_readCommand 5 yX7_readCommand.cls (some .boolean) wsX7_readCommand) (k3 : Nat) (hk3 : gK k3) (Q : Int → Ii → Jj → Prop) (l4 : Int) (I : Ii) (J : Jj) (h : B_X7_readCommand_130 k3 Q l4 I J) : Wz G X 5 (QsU G X (QsB Q)) 0 0 130 [some (.ref (kadr G 104)), some (.ref (kadr G 101)), some (.ref (kadr G 106)), none, some (.int (iZ l4))] [] I J := by
  unfold B_X7_readCommand_130 at h
  refine wz_aload_n C rfl rfl dX7_readCommand_130 ?_
  refine wz_aload_n C rfl rfl dX7_readCommand_131 ?_
  refine wz_aload_n C rfl rfl dX7_readCommand_132 ?_
  refine wz_iload C rfl dX7_readCommand_133 ?_
  refine wm_callV C (o := 104) (As := [.ref (kadr G 101), .ref (kadr G 106), .int (iZ l4)]) (st := []) (a' := 0) (b' := 0) rfl rfl (k_X7_readNumbered G hG l4 I J _ h) 3 gX7_readCommand_X7_readNumbered rfl (by decide +kernel) (by rw [hX]; exact ⟨Nat.le_of_ble_eq_true rfl, Nat.le_of_ble_eq_true rfl⟩) rfl (Nat.le_of_ble_eq_true rfl) rfl rfl rfl dX7_readCommand_135 (kk_sB (fun v16 I16 J16 hb16 h => ?_))
  refine wz_if_eq C (tgt := 153) (rgB hb16) dX7_readCommand_138 (by decide) (fun c => ?_) (fun c => ?_)
  · replace h := h.1 c
    refine wz_iconst C dX7_readCommand_153 ?_
    exact wz_zret C (Or.inl rfl) dX7_readCommand_154 ⟨_, rfl, (Or.inl rfl), h⟩
  · replace h := h.2 c
    refine wz_aload_n C rfl rfl dX7_readCommand_141 ?_
    refine wz_iconst C dX7_readCommand_142 ?_
    refine wm_callV C (o := 101) (As := [.int (iZ 3)]) (st := []) (a' := 0) (b' := 0) rfl rfl (k_X10_takes G hG 3 I16 J16 _ h) 1 gX7_readCommand_X10_takes rfl (by decide +kernel) (by rw [hX]; exact ⟨Nat.le_of_ble_eq_true rfl, Nat.le_of_ble_eq_true rfl⟩) rfl (Nat.le_of_ble_eq_true rfl) rfl rfl rfl dX7_readCommand_143 (kk_sB (fun v17 I17 J17 hb17 h => ?_))
    refine wz_if_eq C (tgt := 153) (rgB hb17) dX7_readCommand_146 (by decide) (fun c => ?_) (fun c => ?_)
    · replace h := h.1 c
      refine wz_iconst C dX7_readCommand_153 ?_
      exact wz_zret C (Or.inl rfl) dX7_readCommand_154 ⟨_, rfl, (Or.inl rfl), h⟩
    · replace h := h.2 c
      refine wz_iconst C dX7_readCommand_149 ?_
      refine wz_goto C dX7_readCommand_150 (tgt := 154) (by decide) ?_
      exact wz_zret C (Or.inr rfl) dX7_readCommand_154 ⟨_, rfl, (Or.inr rfl), h⟩
set_option maxHeartbeats 4000000 in
set_option maxRecDepth 100000 in
theorem bk_X7_readCommand_179 (G : KG) (hG : Kok G) (hW : KSx G) (X : KX) (hX : KR X = rm_X7_readCommand) (C : Fr G X cX7_readCommand 5 yX7_readCommand.cls (some .boolean) wsX7_readCommand) (k3 : Nat) (hk3 : gK k3) (Q : Int → Ii → Jj → Prop) (l4 : Int) (I : Ii) (J : Jj) (h : B_X7_readCommand_179 k3 Q l4 I J) : Wz G X 5 (QsU G X (QsB Q)) 0 0 179 [none, some (.ref (kadr G 101)), some (.ref (kadr G 106)), none, some (.int (iZ l4))] [] I J := by
  unfold B_X7_readCommand_179 at h
  refine wz_aload_n C rfl rfl dX7_readCommand_179 ?_
  refine wz_iload C rfl dX7_readCommand_180 ?_
  refine wz_iconst C dX7_readCommand_182 ?_
  refine wz_iconst C dX7_readCommand_183 ?_
  refine wm_callV C (o := 106) (As := [.int (iZ l4), .int (iZ 0), .int (iZ 0)]) (st := []) (a' := 0) (b' := 0) rfl rfl (k_X6_addCommand G hG l4 0 0 I J _ h) 3 gX7_readCommand_X6_addCommand rfl (by decide +kernel) (by rw [hX]; exact ⟨Nat.le_of_ble_eq_true rfl, Nat.le_of_ble_eq_true rfl⟩) rfl (Nat.le_of_ble_eq_true rfl) rfl rfl rfl dX7_readCommand_184 (kk_sV (fun I14 J14 h => ?_))
  refine wz_aload_n C rfl rfl dX7_readCommand_187 ?_
  refine wz_iconst C dX7_readCommand_188 ?_
  refine wm_callV C (o := 101) (As := [.int (iZ 3)]) (st := []) (a' := 0) (b' := 0) rfl rfl (k_X10_takes G hG 3 I14 J14 _ h) 1 gX7_readCommand_X10_takes rfl (by decide +kernel) (by rw [hX]; exact ⟨Nat.le_of_ble_eq_true rfl, Nat.le_of_ble_eq_true rfl⟩) rfl (Nat.le_of_ble_eq_true rfl) rfl rfl rfl dX7_readCommand_189 (kk_sB (fun v15 I15 J15 hb15 h => ?_))
  exact wz_zret C h.1 dX7_readCommand_192 ⟨_, rfl, h.1, h.2⟩
set_option maxHeartbeats 4000000 in
set_option maxRecDepth 100000 in
theorem bk_X7_readCommand_40 (G : KG) (hG : Kok G) (hW : KSx G) (X : KX) (hX : KR X = rm_X7_readCommand) (C : Fr G X cX7_readCommand 5 yX7_readCommand.cls (some .boolean) wsX7_readCommand) (k3 : Nat) (hk3 : gK k3) (Q : Int → Ii → Jj → Prop) (l4 : Int) (I : Ii) (J : Jj) (h : B_X7_readCommand_40 k3 Q l4 I J) : Wz G X 5 (QsU G X (QsB Q)) 0 0 40 [some (.ref (kadr G 104)), some (.ref (kadr G 101)), some (.ref (kadr G 106)), some (.ref (kadr G k3)), some (.int (iZ l4))] [] I J := by
  unfold B_X7_readCommand_40 at h
  refine wz_aload_n C rfl rfl dX7_readCommand_40 ?_
  refine wz_getI C rfl f_X7_readCommand_59 rfl dX7_readCommand_41 ?_
  refine wz_bipush C (by decide) dX7_readCommand_44 ?_
  obtain ⟨g6, h⟩ := h
  refine wz_icmp_lt C (tgt := 56) g6 (by decide) dX7_readCommand_46 (by decide) (fun c => ?_) (fun c => ?_)
  · replace h := h.1 c
    refine wz_iload C rfl dX7_readCommand_56 ?_
    obtain ⟨g7, h⟩ := h
    have c : (l4 < 2 ∨ 8 < l4) ∨ l4 = 2 ∨ l4 = 3 ∨ l4 = 4 ∨ l4 = 5 ∨ l4 = 6 ∨ l4 = 7 ∨ l4 = 8 := by omega
    rcases c with c | c | c | c | c | c | c | c
    · replace h := h.1 c
      refine wz_tableOut C (tgt := 179) g7 dX7_readCommand_58 c (by decide) ?_
      exact Wz.drop (bk_X7_readCommand_179 G hG hW X hX C k3 hk3 Q l4 I J h) (And.intro rfl (And.intro rfl (And.intro rfl trivial)))
    · replace h := h.2.1 c
      refine wz_tableIn C (v := 2) (tgt := 107) c dX7_readCommand_58 (by decide) rfl (by decide) ?_
      refine wz_aload_n C rfl rfl dX7_readCommand_107 ?_
      refine wz_aload_n C rfl rfl dX7_readCommand_108 ?_
      refine wz_aload_n C rfl rfl dX7_readCommand_109 ?_
      refine wm_callV C (o := 104) (As := [.ref (kadr G 101), .ref (kadr G 106)]) (st := []) (a' := 0) (b' := 0) rfl rfl (k_X7_readMove G hG I J _ h) 2 gX7_readCommand_X7_readMove rfl (by decide +kernel) (by rw [hX]; exact ⟨Nat.le_of_ble_eq_true rfl, Nat.le_of_ble_eq_true rfl⟩) rfl (Nat.le_of_ble_eq_true rfl) rfl rfl rfl dX7_readCommand_110 (kk_sB (fun v8 I8 J8 hb8 h => ?_))
      refine wz_if_eq C (tgt := 128) (rgB hb8) dX7_readCommand_113 (by decide) (fun c => ?_) (fun c => ?_)
      · replace h := h.1 c
        refine wz_iconst C dX7_readCommand_128 ?_
        exact wz_zret C (Or.inl rfl) dX7_readCommand_129 ⟨_, rfl, (Or.inl rfl), h⟩
      · replace h := h.2 c
        refine wz_aload_n C rfl rfl dX7_readCommand_116 ?_
        refine wz_iconst C dX7_readCommand_117 ?_
        refine wm_callV C (o := 101) (As := [.int (iZ 3)]) (st := []) (a' := 0) (b' := 0) rfl rfl (k_X10_takes G hG 3 I8 J8 _ h) 1 gX7_readCommand_X10_takes rfl (by decide +kernel) (by rw [hX]; exact ⟨Nat.le_of_ble_eq_true rfl, Nat.le_of_ble_eq_true rfl⟩) rfl (Nat.le_of_ble_eq_true rfl) rfl rfl rfl dX7_readCommand_118 (kk_sB (fun v9 I9 J9 hb9 h => ?_))
        refine wz_if_eq C (tgt := 128) (rgB hb9) dX7_readCommand_121 (by decide) (fun c => ?_) (fun c => ?_)
        · replace h := h.1 c
          refine wz_iconst C dX7_readCommand_128 ?_
          exact wz_zret C (Or.inl rfl) dX7_readCommand_129 ⟨_, rfl, (Or.inl rfl), h⟩
        · replace h := h.2 c
          refine wz_iconst C dX7_readCommand_124 ?_
          refine wz_goto C dX7_readCommand_125 (tgt := 129) (by decide) ?_
          exact wz_zret C (Or.inr rfl) dX7_readCommand_129 ⟨_, rfl, (Or.inr rfl), h⟩
    · replace h := h.2.2.1 c
      refine wz_tableIn C (v := 3) (tgt := 179) c dX7_readCommand_58 (by decide) rfl (by decide) ?_
      exact Wz.drop (bk_X7_readCommand_179 G hG hW X hX C k3 hk3 Q l4 I J h) (And.intro rfl (And.intro rfl (And.intro rfl trivial)))
    · replace h := h.2.2.2.1 c
      refine wz_tableIn C (v := 4) (tgt := 130) c dX7_readCommand_58 (by decide) rfl (by decide) ?_
      exact Wz.drop (bk_X7_readCommand_130 G hG hW X hX C k3 hk3 Q l4 I J h) (And.intro rfl (And.intro rfl (And.intro rfl (And.intro rfl trivial))))
    · replace h := h.2.2.2.2.1 c
      refine wz_tableIn C (v := 5) (tgt := 179) c dX7_readCommand_58 (by decide) rfl (by decide) ?_
      exact Wz.drop (bk_X7_readCommand_179 G hG hW X hX C k3 hk3 Q l4 I J h) (And.intro rfl (And.intro rfl (And.intro rfl trivial)))
    · replace h := h.2.2.2.2.2.1 c
      refine wz_tableIn C (v := 6) (tgt := 155) c dX7_readCommand_58 (by decide) rfl (by decide) ?_
      refine wz_aload_n C rfl rfl dX7_readCommand_155 ?_
      refine wz_aload_n C rfl rfl dX7_readCommand_156 ?_
      refine wz_aload_n C rfl rfl dX7_readCommand_157 ?_
      refine wz_aload_n C rfl rfl dX7_readCommand_158 ?_
      refine wm_callV C (o := 104) (As := [.ref (kadr G 101), .ref (kadr G 106), .ref (kadr G k3)]) (st := []) (a' := 0) (b' := 0) rfl rfl (k_X7_readApart G hG k3 I J _ h) 3 gX7_readCommand_X7_readApart rfl (by decide +kernel) (by rw [hX]; exact ⟨Nat.le_of_ble_eq_true rfl, Nat.le_of_ble_eq_true rfl⟩) rfl (Nat.le_of_ble_eq_true rfl) rfl rfl rfl dX7_readCommand_159 (kk_sB (fun v10 I10 J10 hb10 h => ?_))
      refine wz_if_eq C (tgt := 177) (rgB hb10) dX7_readCommand_162 (by decide) (fun c => ?_) (fun c => ?_)
      · replace h := h.1 c
        refine wz_iconst C dX7_readCommand_177 ?_
        exact wz_zret C (Or.inl rfl) dX7_readCommand_178 ⟨_, rfl, (Or.inl rfl), h⟩
      · replace h := h.2 c
        refine wz_aload_n C rfl rfl dX7_readCommand_165 ?_
        refine wz_iconst C dX7_readCommand_166 ?_
        refine wm_callV C (o := 101) (As := [.int (iZ 3)]) (st := []) (a' := 0) (b' := 0) rfl rfl (k_X10_takes G hG 3 I10 J10 _ h) 1 gX7_readCommand_X10_takes rfl (by decide +kernel) (by rw [hX]; exact ⟨Nat.le_of_ble_eq_true rfl, Nat.le_of_ble_eq_true rfl⟩) rfl (Nat.le_of_ble_eq_true rfl) rfl rfl rfl dX7_readCommand_167 (kk_sB (fun v11 I11 J11 hb11 h => ?_))
        refine wz_if_eq C (tgt := 177) (rgB hb11) dX7_readCommand_170 (by decide) (fun c => ?_) (fun c => ?_)
        · replace h := h.1 c
          refine wz_iconst C dX7_readCommand_177 ?_
          exact wz_zret C (Or.inl rfl) dX7_readCommand_178 ⟨_, rfl, (Or.inl rfl), h⟩
        · replace h := h.2 c
          refine wz_iconst C dX7_readCommand_173 ?_
          refine wz_goto C dX7_readCommand_174 (tgt := 178) (by decide) ?_
          exact wz_zret C (Or.inr rfl) dX7_readCommand_178 ⟨_, rfl, (Or.inr rfl), h⟩
    · replace h := h.2.2.2.2.2.2.1 c
      refine wz_tableIn C (v := 7) (tgt := 130) c dX7_readCommand_58 (by decide) rfl (by decide) ?_
      exact Wz.drop (bk_X7_readCommand_130 G hG hW X hX C k3 hk3 Q l4 I J h) (And.intro rfl (And.intro rfl (And.intro rfl (And.intro rfl trivial))))
    · replace h := h.2.2.2.2.2.2.2 c
      refine wz_tableIn C (v := 8) (tgt := 100) c dX7_readCommand_58 (by decide) rfl (by decide) ?_
      refine wz_aload_n C rfl rfl dX7_readCommand_100 ?_
      refine wz_aload_n C rfl rfl dX7_readCommand_101 ?_
      refine wz_aload_n C rfl rfl dX7_readCommand_102 ?_
      refine wm_callV C (o := 104) (As := [.ref (kadr G 101), .ref (kadr G 106)]) (st := []) (a' := 0) (b' := 0) rfl rfl (k_X7_readRepeat G hG I J _ h) 2 gX7_readCommand_X7_readRepeat rfl (by decide +kernel) (by rw [hX]; exact ⟨Nat.le_of_ble_eq_true rfl, Nat.le_of_ble_eq_true rfl⟩) rfl (Nat.le_of_ble_eq_true rfl) rfl rfl rfl dX7_readCommand_103 (kk_sB (fun v12 I12 J12 hb12 h => ?_))
      exact wz_zret C h.1 dX7_readCommand_106 ⟨_, rfl, h.1, h.2⟩
  · replace h := h.2 c
    refine wz_aload_n C rfl rfl dX7_readCommand_49 ?_
    refine wz_bipush C (by decide) dX7_readCommand_50 ?_
    refine wm_callV C (o := 101) (As := [.int (iZ 6)]) (st := []) (a' := 0) (b' := 0) rfl rfl (k_X10_fail G hG 6 I J _ h) 1 gX7_readCommand_X10_fail rfl (by decide +kernel) (by rw [hX]; exact ⟨Nat.le_of_ble_eq_true rfl, Nat.le_of_ble_eq_true rfl⟩) rfl (Nat.le_of_ble_eq_true rfl) rfl rfl rfl dX7_readCommand_52 (kk_sB (fun v13 I13 J13 hb13 h => ?_))
    exact wz_zret C h.1 dX7_readCommand_55 ⟨_, rfl, h.1, h.2⟩
set_option maxHeartbeats 4000000 in
set_option maxRecDepth 100000 in
theorem k_X7_readCommand (G : KG) (hG : Kok G) (hW : KSx G) (k3 : Nat) (I : Ii) (J : Jj) (Q : Int → Ii → Jj → Prop) (hr5 : rg (I 101 5)) (h : wp_X7_readCommand k3 I J Q) : Ctr G yX7_readCommand wsX7_readCommand rm_X7_readCommand [.ref (kadr G 104), .ref (kadr G 101), .ref (kadr G 106), .ref (kadr G k3)] (I, J) (QsB Q) := by
  unfold wp_X7_readCommand at h
  obtain ⟨hk3, h⟩ := h
  refine Ctr.ofZ (cc := cX7_readCommand) (nL := 5) (ret := (some .boolean)) [some (.ref (kadr G 104)), some (.ref (kadr G 101)), some (.ref (kadr G 106)), some (.ref (kadr G k3)), none] hG (by decide +kernel) rfl (Nat.le_of_ble_eq_true rfl) (Nat.le_of_ble_eq_true rfl) (by simp [lvA, lv_args, Value.category]) ?_
  intro X hX C
  refine wz_aload_n C rfl rfl dX7_readCommand_0 ?_
  refine wz_aload_n C rfl rfl dX7_readCommand_1 ?_
  refine wm_callV C (o := 104) (As := [.ref (kadr G 101)]) (st := []) (a' := 0) (b' := 0) rfl rfl (k_X7_kindOfWord G hG hW I J _ hr5 h) 1 gX7_readCommand_X7_kindOfWord rfl (by decide +kernel) (by rw [hX]; exact ⟨Nat.le_of_ble_eq_true rfl, Nat.le_of_ble_eq_true rfl⟩) rfl (Nat.le_of_ble_eq_true rfl) rfl rfl rfl dX7_readCommand_2 (kk_sI (fun v1 I1 J1 h => ?_))
  refine wz_istore_4 C rfl dX7_readCommand_5 ?_
  refine wz_iload C rfl dX7_readCommand_7 ?_
  refine wz_iconst C dX7_readCommand_9 ?_
  obtain ⟨g2, h⟩ := h
  refine wz_icmp_ne C (tgt := 19) g2 (by decide) dX7_readCommand_10 (by decide) (fun c => ?_) (fun c => ?_)
  · replace h := h.1 c
    refine wz_iload C rfl dX7_readCommand_19 ?_
    refine wz_bipush C (by decide) dX7_readCommand_21 ?_
    refine wz_icmp_ne C (tgt := 40) g2 (by decide) dX7_readCommand_23 (by decide) (fun c => ?_) (fun c => ?_)
    · replace h := h.1 c
      exact bk_X7_readCommand_40 G hG hW X hX C k3 hk3 Q v1 I1 J1 h
    · replace h := h.2 c
      refine wz_aload_n C rfl rfl dX7_readCommand_26 ?_
      refine wz_getI C rfl f_X7_readCommand_29 rfl dX7_readCommand_27 ?_
      refine wz_iconst C dX7_readCommand_30 ?_
      obtain ⟨g3, h⟩ := h
      refine wz_icmp_lt C (tgt := 40) g3 (by decide) dX7_readCommand_31 (by decide) (fun c => ?_) (fun c => ?_)
      · replace h := h.1 c
        exact bk_X7_readCommand_40 G hG hW X hX C k3 hk3 Q v1 I1 J1 h
      · replace h := h.2 c
        refine wz_aload_n C rfl rfl dX7_readCommand_34 ?_
        refine wz_iconst C dX7_readCommand_35 ?_
        refine wm_callV C (o := 101) (As := [.int (iZ 4)]) (st := []) (a' := 0) (b' := 0) rfl rfl (k_X10_fail G hG 4 I1 J1 _ h) 1 gX7_readCommand_X10_fail rfl (by decide +kernel) (by rw [hX]; exact ⟨Nat.le_of_ble_eq_true rfl, Nat.le_of_ble_eq_true rfl⟩) rfl (Nat.le_of_ble_eq_true rfl) rfl rfl rfl dX7_readCommand_36 (kk_sB (fun v4 I4 J4 hb4 h => ?_))
        exact wz_zret C h.1 dX7_readCommand_39 ⟨_, rfl, h.1, h.2⟩
  · replace h := h.2 c
    refine wz_aload_n C rfl rfl dX7_readCommand_13 ?_
    refine wz_iconst C dX7_readCommand_14 ?_
    refine wm_callV C (o := 101) (As := [.int (iZ 1)]) (st := []) (a' := 0) (b' := 0) rfl rfl (k_X10_fail G hG 1 I1 J1 _ h) 1 gX7_readCommand_X10_fail rfl (by decide +kernel) (by rw [hX]; exact ⟨Nat.le_of_ble_eq_true rfl, Nat.le_of_ble_eq_true rfl⟩) rfl (Nat.le_of_ble_eq_true rfl) rfl rfl rfl dX7_readCommand_15 (kk_sB (fun v5 I5 J5 hb5 h => ?_))
    exact wz_zret C h.1 dX7_readCommand_18 ⟨_, rfl, h.1, h.2⟩
theorem in_X9_read_X10 : ∀ w ∈ wsX100, w ∈ wsX9_read := by decide +kernel
theorem in_X9_read_X9 : ∀ w ∈ wsX90, w ∈ wsX9_read := by decide +kernel
theorem f_X9_read_14 : FLk wsX9_read RX9 14 9 0 := flk 9 0 rfl tyX9_ok nmX9 in_X9_read_X9 (by decide) (by decide +kernel)
theorem f_X9_read_25 : FLk wsX9_read RX9 25 10 5 := flk 10 5 rfl tyX10_ok nmX10 in_X9_read_X10 (by decide) (by decide +kernel)
def rm_X9_read : Room := { frames := 6, cells := 0, slots := 0, locals := 222 }
set_option maxHeartbeats 4000000 in
set_option maxRecDepth 100000 in
theorem lk_X9_read_11 (G : KG) (hG : Kok G) (hW : KSx G) (X : KX) (hX : KR X = rm_X9_read) (C : Fr G X cX9_read 4 yX9_read.cls (some .boolean) wsX9_read) (k2 : Nat) (hk2 : gK k2) (Q : Int → Ii → Jj → Prop) : ∀ (n : Nat) (l3 : Int) (I : Ii) (J : Jj), L_X9_read_11 k2 Q n l3 I J → Wz G X 4 (QsU G X (QsB Q)) 0 0 11 [some (.ref (kadr G 103)), some (.ref (kadr G 101)), some (.ref (kadr G k2)), some (.int (iZ l3))] [] I J := by
  intro n
  induction n with
  | zero => intro l3 I J h; exact False.elim h
  | succ n w11 =>
    intro l3 I J h
    have h : Lb_X9_read_11 k2 Q (L_X9_read_11 k2 Q n) l3 I J := h
    unfold Lb_X9_read_11 at h
    generalize L_X9_read_11 k2 Q n = r11 at h w11
    refine wz_iload_n C rfl rfl dX9_read_11 ?_
    refine wz_sipush C (by decide) dX9_read_12 ?_
    obtain ⟨g3, h⟩ := h
    refine wz_icmp_gt C (tgt := 56) g3 (by decide) dX9_read_15 (by decide) (fun c => ?_) (fun c => ?_)
    · replace h := h.1 c
      refine wz_iconst C dX9_read_56 ?_
      exact wz_zret C (Or.inl rfl) dX9_read_57 ⟨_, rfl, (Or.inl rfl), h⟩
    · replace h := h.2 c
      refine wz_aload_n C rfl rfl dX9_read_18 ?_
      refine wm_callV C (o := 101) (As := []) (st := []) (a' := 0) (b' := 0) rfl rfl (k_X10_advance G hG I J _ h) 0 gX9_read_X10_advance rfl (by decide +kernel) (by rw [hX]; exact ⟨Nat.le_of_ble_eq_true rfl, Nat.le_of_ble_eq_true rfl⟩) rfl (Nat.le_of_ble_eq_true rfl) rfl rfl rfl dX9_read_19 (kk_sV (fun I4 J4 h => ?_))
      refine wz_aload_n C rfl rfl dX9_read_22 ?_
      refine wz_getI C rfl f_X9_read_25 rfl dX9_read_23 ?_
      obtain ⟨g5, h⟩ := h
      refine wz_if_ne C (tgt := 31) g5 dX9_read_26 (by decide) (fun c => ?_) (fun c => ?_)
      · replace h := h.1 c
        refine wz_aload_n C rfl rfl dX9_read_31 ?_
        refine wz_aload_n C rfl rfl dX9_read_32 ?_
        refine wz_aload_n C rfl rfl dX9_read_33 ?_
        refine wm_callV C (o := 103) (As := [.ref (kadr G 101), .ref (kadr G k2)]) (st := []) (a' := 0) (b' := 0) rfl rfl (k_X9_readStatement G hG hW k2 I4 J4 _ g5 h) 2 gX9_read_X9_readStatement rfl (by decide +kernel) (by rw [hX]; exact ⟨Nat.le_of_ble_eq_true rfl, Nat.le_of_ble_eq_true rfl⟩) rfl (Nat.le_of_ble_eq_true rfl) rfl rfl rfl dX9_read_34 (kk_sB (fun v6 I6 J6 hb6 h => ?_))
        refine wz_if_eq C (tgt := 48) (rgB hb6) dX9_read_37 (by decide) (fun c => ?_) (fun c => ?_)
        · replace h := h.1 c
          refine wz_iconst C dX9_read_48 ?_
          exact wz_zret C (Or.inl rfl) dX9_read_49 ⟨_, rfl, (Or.inl rfl), h⟩
        · replace h := h.2 c
          refine wz_aload_n C rfl rfl dX9_read_40 ?_
          refine wz_iconst C dX9_read_41 ?_
          refine wm_callV C (o := 101) (As := [.int (iZ 3)]) (st := []) (a' := 0) (b' := 0) rfl rfl (k_X10_takes G hG 3 I6 J6 _ h) 1 gX9_read_X10_takes rfl (by decide +kernel) (by rw [hX]; exact ⟨Nat.le_of_ble_eq_true rfl, Nat.le_of_ble_eq_true rfl⟩) rfl (Nat.le_of_ble_eq_true rfl) rfl rfl rfl dX9_read_42 (kk_sB (fun v7 I7 J7 hb7 h => ?_))
          refine wz_if_ne C (tgt := 50) (rgB hb7) dX9_read_45 (by decide) (fun c => ?_) (fun c => ?_)
          · replace h := h.1 c
            refine wz_iinc_3 C rfl dX9_read_50 ?_
            refine wz_goto C dX9_read_53 (tgt := 11) (by decide) ?_
            exact w11 (l3 + 1) I7 J7 h
          · replace h := h.2 c
            refine wz_iconst C dX9_read_48 ?_
            exact wz_zret C (Or.inl rfl) dX9_read_49 ⟨_, rfl, (Or.inl rfl), h⟩
      · replace h := h.2 c
        refine wz_iconst C dX9_read_29 ?_
        exact wz_zret C (Or.inr rfl) dX9_read_30 ⟨_, rfl, (Or.inr rfl), h⟩
set_option maxHeartbeats 4000000 in
set_option maxRecDepth 100000 in
theorem k_X9_read (G : KG) (hG : Kok G) (hW : KSx G) (k2 : Nat) (I : Ii) (J : Jj) (Q : Int → Ii → Jj → Prop) (h : wp_X9_read k2 I J Q) : Ctr G yX9_read wsX9_read rm_X9_read [.ref (kadr G 103), .ref (kadr G 101), .ref (kadr G k2)] (I, J) (QsB Q) := by
  unfold wp_X9_read at h
  obtain ⟨hk2, h⟩ := h
  refine Ctr.ofZ (cc := cX9_read) (nL := 4) (ret := (some .boolean)) [some (.ref (kadr G 103)), some (.ref (kadr G 101)), some (.ref (kadr G k2)), none] hG (by decide +kernel) rfl (Nat.le_of_ble_eq_true rfl) (Nat.le_of_ble_eq_true rfl) (by simp [lvA, lv_args, Value.category]) ?_
  intro X hX C
  refine wz_aload_n C rfl rfl dX9_read_0 ?_
  refine wm_callV C (o := k2) (As := []) (st := []) (a' := 0) (b' := 0) (spX2 hk2) rfl (k_X2_clear G hG k2 I J _ h) 0 gX9_read_X2_clear rfl (by decide +kernel) (by rw [hX]; exact ⟨Nat.le_of_ble_eq_true rfl, Nat.le_of_ble_eq_true rfl⟩) rfl (Nat.le_of_ble_eq_true rfl) rfl rfl rfl dX9_read_1 (kk_sV (fun I1 J1 h => ?_))
  refine wz_aload_n C rfl rfl dX9_read_4 ?_
  refine wz_iconst C dX9_read_5 ?_
  refine wd_putI C f_X9_read_14 fp_X9_0 rfl dX9_read_6 (fun I2 e => ?_)
  replace h := h I2 e
  refine wz_iconst C dX9_read_9 ?_
  refine wz_istore_3 C rfl dX9_read_10 ?_
  obtain ⟨n, h⟩ := h
  exact lk_X9_read_11 G hG hW X hX C k2 hk2 Q n 0 I2 J1 h
theorem in_X11_readText_X11 : ∀ w ∈ wsX110, w ∈ wsX11_readText := by decide +kernel
theorem in_X11_readText_X2 : ∀ w ∈ wsX20, w ∈ wsX11_readText := by decide +kernel
theorem f_X11_readText_12 : FLk wsX11_readText RX11 12 11 0 := flk 11 0 rfl tyX11_ok nmX11 in_X11_readText_X11 (by decide) (by decide +kernel)
theorem f_X11_readText_19 : FLk wsX11_readText RX11 19 11 1 := flk 11 1 rfl tyX11_ok nmX11 in_X11_readText_X11 (by decide) (by decide +kernel)
theorem f_X11_readText_44 : FLk wsX11_readText RX11 44 11 5 := flk 11 5 rfl tyX11_ok nmX11 in_X11_readText_X11 (by decide) (by decide +kernel)
theorem f_X11_readText_40 : FLk wsX11_readText RX11 40 11 4 := flk 11 4 rfl tyX11_ok nmX11 in_X11_readText_X11 (by decide) (by decide +kernel)
theorem f_X11_readText_53 : FLk wsX11_readText RX11 53 11 7 := flk 11 7 rfl tyX11_ok nmX11 in_X11_readText_X11 (by decide) (by decide +kernel)
theorem f_X11_readText_66 : FLk wsX11_readText RX11 66 11 11 := flk 11 11 rfl tyX11_ok nmX11 in_X11_readText_X11 (by decide) (by decide +kernel)
theorem f_X11_readText_141 : FLk wsX11_readText RX11 141 2 0 := flk 2 0 rfl tyX2_ok nmX2 in_X11_readText_X2 (by decide) (by decide +kernel)
def rm_X11_readText : Room := { frames := 7, cells := 0, slots := 0, locals := 245 }
set_option maxHeartbeats 4000000 in
set_option maxRecDepth 100000 in
theorem k_X11_readText (G : KG) (hG : Kok G) (hW : KSx G) (I : Ii) (J : Jj) (Q : Int → Ii → Jj → Prop) (h : wp_X11_readText I J Q) : Ctr G yX11_readText wsX11_readText rm_X11_readText [.ref (kadr G 100)] (I, J) (QsI Q) := by
  unfold wp_X11_readText at h
  skip
  refine Ctr.ofZ (cc := cX11_readText) (nL := 1) (ret := (some .int)) [some (.ref (kadr G 100))] hG (by decide +kernel) rfl (Nat.le_of_ble_eq_true rfl) (Nat.le_of_ble_eq_true rfl) (by simp [lvA, lv_args, Value.category]) ?_
  intro X hX C
  refine wz_aload_n C rfl rfl dX11_readText_0 ?_
  refine wz_getR C (j := 101) f_X11_readText_12 rfl dX11_readText_1 ?_
  refine wm_callV C (o := 101) (As := []) (st := []) (a' := 0) (b' := 0) rfl rfl (k_X10_begin G hG I J _ h) 0 gX11_readText_X10_begin rfl (by decide +kernel) (by rw [hX]; exact ⟨Nat.le_of_ble_eq_true rfl, Nat.le_of_ble_eq_true rfl⟩) rfl (Nat.le_of_ble_eq_true rfl) rfl rfl rfl dX11_readText_4 (kk_sV (fun I1 J1 h => ?_))
  refine wz_aload_n C rfl rfl dX11_readText_7 ?_
  refine wz_getR C (j := 103) f_X11_readText_19 rfl dX11_readText_8 ?_
  refine wz_aload_n C rfl rfl dX11_readText_11 ?_
  refine wz_getR C (j := 101) f_X11_readText_12 rfl dX11_readText_12 ?_
  refine wz_aload_n C rfl rfl dX11_readText_15 ?_
  refine wz_getR C (j := 210) f_X11_readText_44 rfl dX11_readText_16 ?_
  refine wm_callV C (o := 103) (As := [.ref (kadr G 101), .ref (kadr G 210)]) (st := []) (a' := 0) (b' := 0) rfl rfl (k_X9_read G hG hW 210 I1 J1 _ h) 2 gX11_readText_X9_read rfl (by decide +kernel) (by rw [hX]; exact ⟨Nat.le_of_ble_eq_true rfl, Nat.le_of_ble_eq_true rfl⟩) rfl (Nat.le_of_ble_eq_true rfl) rfl rfl rfl dX11_readText_19 (kk_sB (fun v2 I2 J2 hb2 h => ?_))
  refine wz_if_ne C (tgt := 35) (rgB hb2) dX11_readText_22 (by decide) (fun c => ?_) (fun c => ?_)
  · replace h := h.1 c
    refine wz_aload_n C rfl rfl dX11_readText_35 ?_
    refine wz_getR C (j := 200) f_X11_readText_40 rfl dX11_readText_36 ?_
    refine wz_aload_n C rfl rfl dX11_readText_39 ?_
    refine wz_getR C (j := 210) f_X11_readText_44 rfl dX11_readText_40 ?_
    refine wm_callV C (o := 200) (As := [.ref (kadr G 210)]) (st := []) (a' := 0) (b' := 0) rfl rfl (k_X2_copyFrom G hG 200 210 I2 J2 _ h) 1 gX11_readText_X2_copyFrom rfl (by decide +kernel) (by rw [hX]; exact ⟨Nat.le_of_ble_eq_true rfl, Nat.le_of_ble_eq_true rfl⟩) rfl (Nat.le_of_ble_eq_true rfl) rfl rfl rfl dX11_readText_43 (kk_sV (fun I3 J3 h => ?_))
    refine wz_aload_n C rfl rfl dX11_readText_46 ?_
    refine wz_getR C (j := 300) f_X11_readText_53 rfl dX11_readText_47 ?_
    refine wz_aload_n C rfl rfl dX11_readText_50 ?_
    refine wz_getR C (j := 200) f_X11_readText_40 rfl dX11_readText_51 ?_
    refine wm_callV C (o := 300) (As := [.ref (kadr G 200)]) (st := []) (a' := 0) (b' := 0) rfl rfl (k_X8_start G hG 300 200 I3 J3 _ h) 1 gX11_readText_X8_start rfl (by decide +kernel) (by rw [hX]; exact ⟨Nat.le_of_ble_eq_true rfl, Nat.le_of_ble_eq_true rfl⟩) rfl (Nat.le_of_ble_eq_true rfl) rfl rfl rfl dX11_readText_54 (kk_sV (fun I4 J4 h => ?_))
    refine wz_aload_n C rfl rfl dX11_readText_57 ?_
    refine wz_getR C (j := 111) f_X11_readText_66 rfl dX11_readText_58 ?_
    refine wm_callV C (o := 111) (As := []) (st := []) (a' := 0) (b' := 0) rfl rfl (k_X3_forget G hG I4 J4 _ h) 0 gX11_readText_X3_forget rfl (by decide +kernel) (by rw [hX]; exact ⟨Nat.le_of_ble_eq_true rfl, Nat.le_of_ble_eq_true rfl⟩) rfl (Nat.le_of_ble_eq_true rfl) rfl rfl rfl dX11_readText_61 (kk_sV (fun I5 J5 h => ?_))
    refine wz_aload_n C rfl rfl dX11_readText_64 ?_
    refine wz_getR C (j := 200) f_X11_readText_40 rfl dX11_readText_65 ?_
    refine wz_getI C rfl f_X11_readText_141 rfl dX11_readText_68 ?_
    exact wz_iret C dX11_readText_71 ⟨_, rfl, h⟩
  · replace h := h.2 c
    exact False.elim h
theorem in_X7_read_X10 : ∀ w ∈ wsX100, w ∈ wsX7_read := by decide +kernel
theorem f_X7_read_25 : FLk wsX7_read RX7 25 10 5 := flk 10 5 rfl tyX10_ok nmX10 in_X7_read_X10 (by decide) (by decide +kernel)
theorem f_X7_read_29 : FLk wsX7_read RX7 29 10 8 := flk 10 8 rfl tyX10_ok nmX10 in_X7_read_X10 (by decide) (by decide +kernel)
def rm_X7_read : Room := { frames := 7, cells := 0, slots := 0, locals := 245 }
set_option maxHeartbeats 4000000 in
set_option maxRecDepth 100000 in
theorem bk_X7_read_60 (G : KG) (hG : Kok G) (hW : KSx G) (X : KX) (hX : KR X = rm_X7_read) (C : Fr G X cX7_read 6 yX7_read.cls (some .boolean) wsX7_read) (k3 : Nat) (hk3 : gK k3) (Q : Int → Ii → Jj → Prop) (r7 : Int → Ii → Jj → Prop) (w7 : ∀ (l4 : Int) (I : Ii) (J : Jj), r7 l4 I J → Wz G X 6 (QsU G X (QsB Q)) 0 0 7 [some (.ref (kadr G 104)), some (.ref (kadr G 101)), some (.ref (kadr G 106)), some (.ref (kadr G k3)), some (.int (iZ l4)), none] [] I J) (l4 : Int) (t0 : Int) (I : Ii) (J : Jj) (hr5 : rg (I 101 5)) (h : B_X7_read_60 k3 Q r7 l4 t0 I J) : Wz G X 6 (QsU G X (QsB Q)) 0 0 60 [some (.ref (kadr G 104)), some (.ref (kadr G 101)), some (.ref (kadr G 106)), some (.ref (kadr G k3)), some (.int (iZ l4)), none] [.int (iZ t0)] I J := by
  unfold B_X7_read_60 at h
  refine wz_istore_5 C rfl dX7_read_60 ?_
  refine wz_iload C rfl dX7_read_62 ?_
  obtain ⟨g7, h⟩ := h
  refine wz_if_eq C (tgt := 79) g7 dX7_read_64 (by decide) (fun c => ?_) (fun c => ?_)
  · replace h := h.1 c
    refine wz_aload_n C rfl rfl dX7_read_79 ?_
    refine wz_aload_n C rfl rfl dX7_read_80 ?_
    refine wz_aload_n C rfl rfl dX7_read_81 ?_
    refine wz_aload_n C rfl rfl dX7_read_82 ?_
    refine wm_callV C (o := 104) (As := [.ref (kadr G 101), .ref (kadr G 106), .ref (kadr G k3)]) (st := []) (a' := 0) (b' := 0) rfl rfl (k_X7_readCommand G hG hW k3 I J _ hr5 h) 3 gX7_read_X7_readCommand rfl (by decide +kernel) (by rw [hX]; exact ⟨Nat.le_of_ble_eq_true rfl, Nat.le_of_ble_eq_true rfl⟩) rfl (Nat.le_of_ble_eq_true rfl) rfl rfl rfl dX7_read_83 (kk_sB (fun v8 I8 J8 hb8 h => ?_))
    refine wz_if_ne C (tgt := 91) (rgB hb8) dX7_read_86 (by decide) (fun c => ?_) (fun c => ?_)
    · replace h := h.1 c
      refine wz_iinc_4 C rfl dX7_read_91 ?_
      refine wz_goto C dX7_read_94 (tgt := 7) (by decide) ?_
      exact Wz.drop (w7 (l4 + 1) I8 J8 h) (And.intro rfl (And.intro rfl (And.intro rfl (And.intro rfl (And.intro rfl trivial)))))
    · replace h := h.2 c
      refine wz_iconst C dX7_read_89 ?_
      exact wz_zret C (Or.inl rfl) dX7_read_90 ⟨_, rfl, (Or.inl rfl), h⟩
  · replace h := h.2 c
    refine wz_aload_n C rfl rfl dX7_read_67 ?_
    refine wz_aload_n C rfl rfl dX7_read_68 ?_
    refine wz_aload_n C rfl rfl dX7_read_69 ?_
    refine wm_callV C (o := 104) (As := [.ref (kadr G 101), .ref (kadr G 106)]) (st := []) (a' := 0) (b' := 0) rfl rfl (k_X7_readClose G hG I J _ h) 2 gX7_read_X7_readClose rfl (by decide +kernel) (by rw [hX]; exact ⟨Nat.le_of_ble_eq_true rfl, Nat.le_of_ble_eq_true rfl⟩) rfl (Nat.le_of_ble_eq_true rfl) rfl rfl rfl dX7_read_70 (kk_sB (fun v9 I9 J9 hb9 h => ?_))
    refine wz_if_eq C (tgt := 89) (rgB hb9) dX7_read_73 (by decide) (fun c => ?_) (fun c => ?_)
    · replace h := h.1 c
      refine wz_iconst C dX7_read_89 ?_
      exact wz_zret C (Or.inl rfl) dX7_read_90 ⟨_, rfl, (Or.inl rfl), h⟩
    · replace h := h.2 c
      refine wz_goto C dX7_read_76 (tgt := 91) (by decide) ?_
      refine wz_iinc_4 C rfl dX7_read_91 ?_
      refine wz_goto C dX7_read_94 (tgt := 7) (by decide) ?_
      exact Wz.drop (w7 (l4 + 1) I9 J9 h) (And.intro rfl (And.intro rfl (And.intro rfl (And.intro rfl (And.intro rfl trivial)))))
set_option maxHeartbeats 4000000 in
set_option maxRecDepth 100000 in
theorem lk_X7_read_7 (G : KG) (hG : Kok G) (hW : KSx G) (X : KX) (hX : KR X = rm_X7_read) (C : Fr G X cX7_read 6 yX7_read.cls (some .boolean) wsX7_read) (k3 : Nat) (hk3 : gK k3) (Q : Int → Ii → Jj → Prop) : ∀ (n : Nat) (l4 : Int) (I : Ii) (J : Jj), L_X7_read_7 k3 Q n l4 I J → Wz G X 6 (QsU G X (QsB Q)) 0 0 7 [some (.ref (kadr G 104)), some (.ref (kadr G 101)), some (.ref (kadr G 106)), some (.ref (kadr G k3)), some (.int (iZ l4)), none] [] I J := by
  intro n
  induction n with
  | zero => intro l4 I J h; exact False.elim h
  | succ n w7 =>
    intro l4 I J h
    have h : Lb_X7_read_7 k3 Q (L_X7_read_7 k3 Q n) l4 I J := h
    unfold Lb_X7_read_7 at h
    generalize L_X7_read_7 k3 Q n = r7 at h w7
    refine wz_iload C rfl dX7_read_7 ?_
    refine wz_sipush C (by decide) dX7_read_9 ?_
    obtain ⟨g2, h⟩ := h
    refine wz_icmp_gt C (tgt := 97) g2 (by decide) dX7_read_12 (by decide) (fun c => ?_) (fun c => ?_)
    · replace h := h.1 c
      refine wz_iconst C dX7_read_97 ?_
      exact wz_zret C (Or.inl rfl) dX7_read_98 ⟨_, rfl, (Or.inl rfl), h⟩
    · replace h := h.2 c
      refine wz_aload_n C rfl rfl dX7_read_15 ?_
      refine wm_callV C (o := 101) (As := []) (st := []) (a' := 0) (b' := 0) rfl rfl (k_X10_advance G hG I J _ h) 0 gX7_read_X10_advance rfl (by decide +kernel) (by rw [hX]; exact ⟨Nat.le_of_ble_eq_true rfl, Nat.le_of_ble_eq_true rfl⟩) rfl (Nat.le_of_ble_eq_true rfl) rfl rfl rfl dX7_read_16 (kk_sV (fun I3 J3 h => ?_))
      refine wz_aload_n C rfl rfl dX7_read_19 ?_
      refine wz_getI C rfl f_X7_read_25 rfl dX7_read_20 ?_
      obtain ⟨g4, h⟩ := h
      refine wz_if_ne C (tgt := 47) g4 dX7_read_23 (by decide) (fun c => ?_) (fun c => ?_)
      · replace h := h.1 c
        refine wz_aload_n C rfl rfl dX7_read_47 ?_
        refine wz_getI C rfl f_X7_read_25 rfl dX7_read_48 ?_
        refine wz_iconst C dX7_read_51 ?_
        refine wz_icmp_ne C (tgt := 59) g4 (by decide) dX7_read_52 (by decide) (fun c => ?_) (fun c => ?_)
        · replace h := h.1 c
          refine wz_iconst C dX7_read_59 ?_
          exact bk_X7_read_60 G hG hW X hX C k3 hk3 Q r7 w7 l4 0 I3 J3 g4 h
        · replace h := h.2 c
          refine wz_iconst C dX7_read_55 ?_
          refine wz_goto C dX7_read_56 (tgt := 60) (by decide) ?_
          exact bk_X7_read_60 G hG hW X hX C k3 hk3 Q r7 w7 l4 1 I3 J3 g4 h
      · replace h := h.2 c
        refine wz_aload_n C rfl rfl dX7_read_26 ?_
        refine wz_getI C rfl f_X7_read_29 rfl dX7_read_27 ?_
        obtain ⟨g5, h⟩ := h
        refine wz_if_eq C (tgt := 41) g5 dX7_read_30 (by decide) (fun c => ?_) (fun c => ?_)
        · replace h := h.1 c
          refine wz_iconst C dX7_read_41 ?_
          refine wz_goto C dX7_read_42 (tgt := 46) (by decide) ?_
          exact wz_zret C (Or.inr rfl) dX7_read_46 ⟨_, rfl, (Or.inr rfl), h⟩
        · replace h := h.2 c
          refine wz_aload_n C rfl rfl dX7_read_33 ?_
          refine wz_iconst C dX7_read_34 ?_
          refine wm_callV C (o := 101) (As := [.int (iZ 1)]) (st := []) (a' := 0) (b' := 0) rfl rfl (k_X10_fail G hG 1 I3 J3 _ h) 1 gX7_read_X10_fail rfl (by decide +kernel) (by rw [hX]; exact ⟨Nat.le_of_ble_eq_true rfl, Nat.le_of_ble_eq_true rfl⟩) rfl (Nat.le_of_ble_eq_true rfl) rfl rfl rfl dX7_read_35 (kk_sB (fun v6 I6 J6 hb6 h => ?_))
          refine wz_if_eq C (tgt := 45) (rgB hb6) dX7_read_38 (by decide) (fun c => ?_) (fun c => ?_)
          · replace h := h.1 c
            refine wz_iconst C dX7_read_45 ?_
            exact wz_zret C (Or.inl rfl) dX7_read_46 ⟨_, rfl, (Or.inl rfl), h⟩
          · replace h := h.2 c
            refine wz_iconst C dX7_read_41 ?_
            refine wz_goto C dX7_read_42 (tgt := 46) (by decide) ?_
            exact wz_zret C (Or.inr rfl) dX7_read_46 ⟨_, rfl, (Or.inr rfl), h⟩
set_option maxHeartbeats 4000000 in
set_option maxRecDepth 100000 in
theorem k_X7_read (G : KG) (hG : Kok G) (hW : KSx G) (k3 : Nat) (I : Ii) (J : Jj) (Q : Int → Ii → Jj → Prop) (h : wp_X7_read k3 I J Q) : Ctr G yX7_read wsX7_read rm_X7_read [.ref (kadr G 104), .ref (kadr G 101), .ref (kadr G 106), .ref (kadr G k3)] (I, J) (QsB Q) := by
  unfold wp_X7_read at h
  obtain ⟨hk3, h⟩ := h
  refine Ctr.ofZ (cc := cX7_read) (nL := 6) (ret := (some .boolean)) [some (.ref (kadr G 104)), some (.ref (kadr G 101)), some (.ref (kadr G 106)), some (.ref (kadr G k3)), none, none] hG (by decide +kernel) rfl (Nat.le_of_ble_eq_true rfl) (Nat.le_of_ble_eq_true rfl) (by simp [lvA, lv_args, Value.category]) ?_
  intro X hX C
  refine wz_aload_n C rfl rfl dX7_read_0 ?_
  refine wm_callV C (o := 106) (As := []) (st := []) (a' := 0) (b' := 0) rfl rfl (k_X6_clear G hG I J _ h) 0 gX7_read_X6_clear rfl (by decide +kernel) (by rw [hX]; exact ⟨Nat.le_of_ble_eq_true rfl, Nat.le_of_ble_eq_true rfl⟩) rfl (Nat.le_of_ble_eq_true rfl) rfl rfl rfl dX7_read_1 (kk_sV (fun I1 J1 h => ?_))
  refine wz_iconst C dX7_read_4 ?_
  refine wz_istore_4 C rfl dX7_read_5 ?_
  obtain ⟨n, h⟩ := h
  exact lk_X7_read_7 G hG hW X hX C k3 hk3 Q n 0 I1 J1 h
theorem in_X11_runScript_X11 : ∀ w ∈ wsX110, w ∈ wsX11_runScript := by decide +kernel
theorem f_X11_runScript_12 : FLk wsX11_runScript RX11 12 11 0 := flk 11 0 rfl tyX11_ok nmX11 in_X11_runScript_X11 (by decide) (by decide +kernel)
theorem f_X11_runScript_26 : FLk wsX11_runScript RX11 26 11 2 := flk 11 2 rfl tyX11_ok nmX11 in_X11_runScript_X11 (by decide) (by decide +kernel)
theorem f_X11_runScript_33 : FLk wsX11_runScript RX11 33 11 3 := flk 11 3 rfl tyX11_ok nmX11 in_X11_runScript_X11 (by decide) (by decide +kernel)
theorem f_X11_runScript_40 : FLk wsX11_runScript RX11 40 11 4 := flk 11 4 rfl tyX11_ok nmX11 in_X11_runScript_X11 (by decide) (by decide +kernel)
theorem f_X11_runScript_66 : FLk wsX11_runScript RX11 66 11 11 := flk 11 11 rfl tyX11_ok nmX11 in_X11_runScript_X11 (by decide) (by decide +kernel)
theorem f_X11_runScript_53 : FLk wsX11_runScript RX11 53 11 7 := flk 11 7 rfl tyX11_ok nmX11 in_X11_runScript_X11 (by decide) (by decide +kernel)
def rm_X11_runScript : Room := { frames := 8, cells := 0, slots := 0, locals := 270 }
set_option maxHeartbeats 4000000 in
set_option maxRecDepth 100000 in
theorem k_X11_runScript (G : KG) (hG : Kok G) (hW : KSx G) (I : Ii) (J : Jj) (Q : Int → Ii → Jj → Prop) (h : wp_X11_runScript I J Q) : Ctr G yX11_runScript wsX11_runScript rm_X11_runScript [.ref (kadr G 100)] (I, J) (QsI Q) := by
  unfold wp_X11_runScript at h
  skip
  refine Ctr.ofZ (cc := cX11_runScript) (nL := 1) (ret := (some .int)) [some (.ref (kadr G 100))] hG (by decide +kernel) rfl (Nat.le_of_ble_eq_true rfl) (Nat.le_of_ble_eq_true rfl) (by simp [lvA, lv_args, Value.category]) ?_
  intro X hX C
  refine wz_aload_n C rfl rfl dX11_runScript_0 ?_
  refine wz_getR C (j := 101) f_X11_runScript_12 rfl dX11_runScript_1 ?_
  refine wm_callV C (o := 101) (As := []) (st := []) (a' := 0) (b' := 0) rfl rfl (k_X10_begin G hG I J _ h) 0 gX11_runScript_X10_begin rfl (by decide +kernel) (by rw [hX]; exact ⟨Nat.le_of_ble_eq_true rfl, Nat.le_of_ble_eq_true rfl⟩) rfl (Nat.le_of_ble_eq_true rfl) rfl rfl rfl dX11_runScript_4 (kk_sV (fun I1 J1 h => ?_))
  refine wz_aload_n C rfl rfl dX11_runScript_7 ?_
  refine wz_getR C (j := 104) f_X11_runScript_26 rfl dX11_runScript_8 ?_
  refine wz_aload_n C rfl rfl dX11_runScript_11 ?_
  refine wz_getR C (j := 101) f_X11_runScript_12 rfl dX11_runScript_12 ?_
  refine wz_aload_n C rfl rfl dX11_runScript_15 ?_
  refine wz_getR C (j := 106) f_X11_runScript_33 rfl dX11_runScript_16 ?_
  refine wz_aload_n C rfl rfl dX11_runScript_19 ?_
  refine wz_getR C (j := 200) f_X11_runScript_40 rfl dX11_runScript_20 ?_
  refine wm_callV C (o := 104) (As := [.ref (kadr G 101), .ref (kadr G 106), .ref (kadr G 200)]) (st := []) (a' := 0) (b' := 0) rfl rfl (k_X7_read G hG hW 200 I1 J1 _ h) 3 gX11_runScript_X7_read rfl (by decide +kernel) (by rw [hX]; exact ⟨Nat.le_of_ble_eq_true rfl, Nat.le_of_ble_eq_true rfl⟩) rfl (Nat.le_of_ble_eq_true rfl) rfl rfl rfl dX11_runScript_23 (kk_sB (fun v2 I2 J2 hb2 h => ?_))
  refine wz_if_ne C (tgt := 39) (rgB hb2) dX11_runScript_26 (by decide) (fun c => ?_) (fun c => ?_)
  · replace h := h.1 c
    refine wz_aload_n C rfl rfl dX11_runScript_39 ?_
    refine wz_getR C (j := 111) f_X11_runScript_66 rfl dX11_runScript_40 ?_
    refine wz_aload_n C rfl rfl dX11_runScript_43 ?_
    refine wz_getR C (j := 300) f_X11_runScript_53 rfl dX11_runScript_44 ?_
    refine wm_callV C (o := 111) (As := [.ref (kadr G 300)]) (st := []) (a' := 0) (b' := 0) rfl rfl (k_X3_keep G hG 300 I2 J2 _ h) 1 gX11_runScript_X3_keep rfl (by decide +kernel) (by rw [hX]; exact ⟨Nat.le_of_ble_eq_true rfl, Nat.le_of_ble_eq_true rfl⟩) rfl (Nat.le_of_ble_eq_true rfl) rfl rfl rfl dX11_runScript_47 (kk_sV (fun I3 J3 h => ?_))
    refine wz_aload_n C rfl rfl dX11_runScript_50 ?_
    refine wm_callV C (o := 100) (As := []) (st := []) (a' := 0) (b' := 0) rfl rfl (k_X11_runCommands G hG I3 J3 _ h) 0 gX11_runScript_X11_runCommands rfl (by decide +kernel) (by rw [hX]; exact ⟨Nat.le_of_ble_eq_true rfl, Nat.le_of_ble_eq_true rfl⟩) rfl (Nat.le_of_ble_eq_true rfl) rfl rfl rfl dX11_runScript_51 (kk_sI (fun v4 I4 J4 h => ?_))
    exact wz_iret C dX11_runScript_54 ⟨_, rfl, h⟩
  · replace h := h.2 c
    exact False.elim h
