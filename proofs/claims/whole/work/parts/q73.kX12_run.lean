theorem in_X12_runScript_X12 : ∀ w ∈ wsX120, w ∈ wsX12_runScript := by decide +kernel
theorem f_X12_runScript_449 : FLk wsX12_runScript RX12 449 12 41 := flk 12 41 rfl tyX12_ok nmX12 in_X12_runScript_X12 (by decide) (by decide +kernel)
theorem f_X12_runScript_446 : FLk wsX12_runScript RX12 446 12 42 := flk 12 42 rfl tyX12_ok nmX12 in_X12_runScript_X12 (by decide) (by decide +kernel)
theorem f_X12_runScript_132 : FLk wsX12_runScript RX12 132 12 6 := flk 12 6 rfl tyX12_ok nmX12 in_X12_runScript_X12 (by decide) (by decide +kernel)
theorem f_X12_runScript_145 : FLk wsX12_runScript RX12 145 12 43 := flk 12 43 rfl tyX12_ok nmX12 in_X12_runScript_X12 (by decide) (by decide +kernel)
def rm_X12_runScript : Room := { frames := 11, cells := 0, slots := 0, locals := 251 }
set_option maxHeartbeats 4000000 in
set_option maxRecDepth 100000 in
theorem bk_X12_runScript_51 (G : KG) (hG : Kok G) (X : KX) (hX : KR X = rm_X12_runScript) (C : Fr G X cX12_runScript 2 yX12_runScript.cls (some .int) wsX12_runScript) (Q : Int → Ii → Jj → Prop) (r14 : Ii → Jj → Prop) (w14 : ∀  (I : Ii) (J : Jj), r14  I J → Wz G X 2 (QsU G X (QsI Q)) 0 0 14 [some (.ref (kadr G 0)), none] [] I J)  (I : Ii) (J : Jj) (h : B_X12_runScript_51 Q r14  I J) : Wz G X 2 (QsU G X (QsI Q)) 0 0 51 [some (.ref (kadr G 0)), none] [] I J := by
  unfold B_X12_runScript_51 at h
  refine wz_aload_n C rfl rfl dX12_runScript_51 ?_
  refine wm_callV C (o := 0) (As := []) (st := []) (a' := 0) (b' := 0) rfl rfl (k_X12_closes G hG I J _ h) 0 gX12_runScript_X12_closes rfl (by decide +kernel) (by rw [hX]; exact ⟨Nat.le_of_ble_eq_true rfl, Nat.le_of_ble_eq_true rfl⟩) rfl (Nat.le_of_ble_eq_true rfl) rfl rfl rfl dX12_runScript_52 (kk_sV (fun I13 J13 h => ?_))
  refine wz_goto C dX12_runScript_55 (tgt := 14) (by decide) ?_
  exact w14 I13 J13 h
set_option maxHeartbeats 4000000 in
set_option maxRecDepth 100000 in
theorem bk_X12_runScript_77 (G : KG) (hG : Kok G) (X : KX) (hX : KR X = rm_X12_runScript) (C : Fr G X cX12_runScript 2 yX12_runScript.cls (some .int) wsX12_runScript) (Q : Int → Ii → Jj → Prop)  (I : Ii) (J : Jj) (h : B_X12_runScript_77 Q  I J) : Wz G X 2 (QsU G X (QsI Q)) 0 0 77 [some (.ref (kadr G 0)), none] [] I J := by
  unfold B_X12_runScript_77 at h
  refine wz_aload_n C rfl rfl dX12_runScript_77 ?_
  refine wm_callV C (o := 0) (As := []) (st := []) (a' := 0) (b' := 0) rfl rfl (k_X12_endsText G hG I J _ h) 0 gX12_runScript_X12_endsText rfl (by decide +kernel) (by rw [hX]; exact ⟨Nat.le_of_ble_eq_true rfl, Nat.le_of_ble_eq_true rfl⟩) rfl (Nat.le_of_ble_eq_true rfl) rfl rfl rfl dX12_runScript_78 (kk_sB (fun v14 I14 J14 hb14 h => ?_))
  refine wz_if_ne C (tgt := 86) (rgB hb14) dX12_runScript_81 (by decide) (fun c => ?_) (fun c => ?_)
  · replace h := h.1 c
    refine wz_aload_n C rfl rfl dX12_runScript_86 ?_
    refine wm_callV C (o := 0) (As := []) (st := []) (a' := 0) (b' := 0) rfl rfl (k_X12_laysAside G hG I14 J14 _ h) 0 gX12_runScript_X12_laysAside rfl (by decide +kernel) (by rw [hX]; exact ⟨Nat.le_of_ble_eq_true rfl, Nat.le_of_ble_eq_true rfl⟩) rfl (Nat.le_of_ble_eq_true rfl) rfl rfl rfl dX12_runScript_87 (kk_sV (fun I15 J15 h => ?_))
    refine wz_aload_n C rfl rfl dX12_runScript_90 ?_
    refine wm_callV C (o := 0) (As := []) (st := []) (a' := 0) (b' := 0) rfl rfl (k_X12_runs G hG I15 J15 _ h) 0 gX12_runScript_X12_runs rfl (by decide +kernel) (by rw [hX]; exact ⟨Nat.le_of_ble_eq_true rfl, Nat.le_of_ble_eq_true rfl⟩) rfl (Nat.le_of_ble_eq_true rfl) rfl rfl rfl dX12_runScript_91 (kk_sI (fun v16 I16 J16 h => ?_))
    refine wz_istore_1 C rfl dX12_runScript_94 ?_
    refine wz_aload_n C rfl rfl dX12_runScript_95 ?_
    refine wm_callV C (o := 0) (As := []) (st := []) (a' := 0) (b' := 0) rfl rfl (k_X12_keeps G hG I16 J16 _ h) 0 gX12_runScript_X12_keeps rfl (by decide +kernel) (by rw [hX]; exact ⟨Nat.le_of_ble_eq_true rfl, Nat.le_of_ble_eq_true rfl⟩) rfl (Nat.le_of_ble_eq_true rfl) rfl rfl rfl dX12_runScript_96 (kk_sV (fun I17 J17 h => ?_))
    refine wz_iload_n C rfl rfl dX12_runScript_99 ?_
    exact wz_iret C dX12_runScript_100 ⟨_, rfl, h⟩
  · replace h := h.2 c
    refine wz_iconst C dX12_runScript_84 ?_
    exact wz_iret C dX12_runScript_85 ⟨_, rfl, h⟩
set_option maxHeartbeats 4000000 in
set_option maxRecDepth 100000 in
theorem bk_X12_runScript_58 (G : KG) (hG : Kok G) (X : KX) (hX : KR X = rm_X12_runScript) (C : Fr G X cX12_runScript 2 yX12_runScript.cls (some .int) wsX12_runScript) (Q : Int → Ii → Jj → Prop)  (I : Ii) (J : Jj) (h : B_X12_runScript_58 Q  I J) : Wz G X 2 (QsU G X (QsI Q)) 0 0 58 [some (.ref (kadr G 0)), none] [] I J := by
  unfold B_X12_runScript_58 at h
  refine wz_aload_n C rfl rfl dX12_runScript_58 ?_
  refine wm_callV C (o := 0) (As := []) (st := []) (a' := 0) (b' := 0) rfl rfl (k_X12_isGood G hG I J _ h) 0 gX12_runScript_X12_isGood rfl (by decide +kernel) (by rw [hX]; exact ⟨Nat.le_of_ble_eq_true rfl, Nat.le_of_ble_eq_true rfl⟩) rfl (Nat.le_of_ble_eq_true rfl) rfl rfl rfl dX12_runScript_59 (kk_sB (fun v10 I10 J10 hb10 h => ?_))
  refine wz_if_eq C (tgt := 77) (rgB hb10) dX12_runScript_62 (by decide) (fun c => ?_) (fun c => ?_)
  · replace h := h.1 c
    exact bk_X12_runScript_77 G hG X hX C Q I10 J10 h
  · replace h := h.2 c
    refine wz_aload_n C rfl rfl dX12_runScript_65 ?_
    refine wz_getI C rfl f_X12_runScript_145 rfl dX12_runScript_66 ?_
    obtain ⟨g11, h⟩ := h
    refine wz_if_le C (tgt := 77) g11 dX12_runScript_69 (by decide) (fun c => ?_) (fun c => ?_)
    · replace h := h.1 c
      exact bk_X12_runScript_77 G hG X hX C Q I10 J10 h
    · replace h := h.2 c
      refine wz_aload_n C rfl rfl dX12_runScript_72 ?_
      refine wz_iconst C dX12_runScript_73 ?_
      refine wm_callV C (o := 0) (As := [.int (iZ 1)]) (st := []) (a' := 0) (b' := 0) rfl rfl (k_X12_wrong G hG 1 I10 J10 _ h) 1 gX12_runScript_X12_wrong rfl (by decide +kernel) (by rw [hX]; exact ⟨Nat.le_of_ble_eq_true rfl, Nat.le_of_ble_eq_true rfl⟩) rfl (Nat.le_of_ble_eq_true rfl) rfl rfl rfl dX12_runScript_74 (kk_sV (fun I12 J12 h => ?_))
      exact bk_X12_runScript_77 G hG X hX C Q I12 J12 h
set_option maxHeartbeats 4000000 in
set_option maxRecDepth 100000 in
theorem lk_X12_runScript_14 (G : KG) (hG : Kok G) (X : KX) (hX : KR X = rm_X12_runScript) (C : Fr G X cX12_runScript 2 yX12_runScript.cls (some .int) wsX12_runScript) (Q : Int → Ii → Jj → Prop) : ∀ (n : Nat)  (I : Ii) (J : Jj), L_X12_runScript_14 Q n  I J → Wz G X 2 (QsU G X (QsI Q)) 0 0 14 [some (.ref (kadr G 0)), none] [] I J := by
  intro n
  induction n with
  | zero => intro  I J h; exact False.elim h
  | succ n w14 =>
    intro  I J h
    have h : Lb_X12_runScript_14 Q (L_X12_runScript_14 Q n)  I J := h
    unfold Lb_X12_runScript_14 at h
    generalize L_X12_runScript_14 Q n = r14 at h w14
    refine wz_aload_n C rfl rfl dX12_runScript_14 ?_
    refine wm_callV C (o := 0) (As := []) (st := []) (a' := 0) (b' := 0) rfl rfl (k_X12_isGood G hG I J _ h) 0 gX12_runScript_X12_isGood rfl (by decide +kernel) (by rw [hX]; exact ⟨Nat.le_of_ble_eq_true rfl, Nat.le_of_ble_eq_true rfl⟩) rfl (Nat.le_of_ble_eq_true rfl) rfl rfl rfl dX12_runScript_15 (kk_sB (fun v4 I4 J4 hb4 h => ?_))
    refine wz_if_eq C (tgt := 58) (rgB hb4) dX12_runScript_18 (by decide) (fun c => ?_) (fun c => ?_)
    · replace h := h.1 c
      exact bk_X12_runScript_58 G hG X hX C Q I4 J4 h
    · replace h := h.2 c
      refine wz_aload_n C rfl rfl dX12_runScript_21 ?_
      refine wz_getI C rfl f_X12_runScript_132 rfl dX12_runScript_22 ?_
      obtain ⟨g5, h⟩ := h
      refine wz_if_eq C (tgt := 58) g5 dX12_runScript_25 (by decide) (fun c => ?_) (fun c => ?_)
      · replace h := h.1 c
        exact bk_X12_runScript_58 G hG X hX C Q I4 J4 h
      · replace h := h.2 c
        refine wz_aload_n C rfl rfl dX12_runScript_28 ?_
        refine wz_getI C rfl f_X12_runScript_145 rfl dX12_runScript_29 ?_
        refine wz_istore_1 C rfl dX12_runScript_32 ?_
        refine wz_aload_n C rfl rfl dX12_runScript_33 ?_
        refine wm_callV C (o := 0) (As := []) (st := []) (a' := 0) (b' := 0) rfl rfl (k_X12_command G hG I4 J4 _ h) 0 gX12_runScript_X12_command rfl (by decide +kernel) (by rw [hX]; exact ⟨Nat.le_of_ble_eq_true rfl, Nat.le_of_ble_eq_true rfl⟩) rfl (Nat.le_of_ble_eq_true rfl) rfl rfl rfl dX12_runScript_34 (kk_sV (fun I6 J6 h => ?_))
        refine wz_aload_n C rfl rfl dX12_runScript_37 ?_
        refine wz_getI C rfl f_X12_runScript_145 rfl dX12_runScript_38 ?_
        refine wz_iload_n C rfl rfl dX12_runScript_41 ?_
        obtain ⟨g7, h⟩ := h
        obtain ⟨g8, h⟩ := h
        refine wz_icmp_ne C (tgt := 51) g7 g8 dX12_runScript_42 (by decide) (fun c => ?_) (fun c => ?_)
        · replace h := h.1 c
          exact Wz.drop (bk_X12_runScript_51 G hG X hX C Q r14 w14 I6 J6 h) (And.intro rfl trivial)
        · replace h := h.2 c
          refine wz_aload_n C rfl rfl dX12_runScript_45 ?_
          refine wz_bipush C (by decide) dX12_runScript_46 ?_
          refine wm_callV C (o := 0) (As := [.int (iZ 59)]) (st := []) (a' := 0) (b' := 0) rfl rfl (k_X12_mustSign G hG 59 I6 J6 _ h) 1 gX12_runScript_X12_mustSign rfl (by decide +kernel) (by rw [hX]; exact ⟨Nat.le_of_ble_eq_true rfl, Nat.le_of_ble_eq_true rfl⟩) rfl (Nat.le_of_ble_eq_true rfl) rfl rfl rfl dX12_runScript_48 (kk_sV (fun I9 J9 h => ?_))
          exact Wz.drop (bk_X12_runScript_51 G hG X hX C Q r14 w14 I9 J9 h) (And.intro rfl trivial)
set_option maxHeartbeats 4000000 in
set_option maxRecDepth 100000 in
theorem k_X12_runScript (G : KG) (hG : Kok G) (I : Ii) (J : Jj) (Q : Int → Ii → Jj → Prop) (h : wp_X12_runScript I J Q) : Ctr G yX12_runScript wsX12_runScript rm_X12_runScript [.ref (kadr G 0)] (I, J) (QsI Q) := by
  unfold wp_X12_runScript at h
  skip
  refine Ctr.ofZ (cc := cX12_runScript) (nL := 2) (ret := (some .int)) [some (.ref (kadr G 0)), none] hG (by decide +kernel) rfl (Nat.le_of_ble_eq_true rfl) (Nat.le_of_ble_eq_true rfl) (by simp [lvA, lv_args, Value.category]) ?_
  intro X hX C
  refine wz_aload_n C rfl rfl dX12_runScript_0 ?_
  refine wm_callV C (o := 0) (As := []) (st := []) (a' := 0) (b' := 0) rfl rfl (k_X12_beginsText G hG I J _ h) 0 gX12_runScript_X12_beginsText rfl (by decide +kernel) (by rw [hX]; exact ⟨Nat.le_of_ble_eq_true rfl, Nat.le_of_ble_eq_true rfl⟩) rfl (Nat.le_of_ble_eq_true rfl) rfl rfl rfl dX12_runScript_1 (kk_sV (fun I1 J1 h => ?_))
  refine wz_aload_n C rfl rfl dX12_runScript_4 ?_
  refine wz_iconst C dX12_runScript_5 ?_
  refine wd_putI C f_X12_runScript_449 fp_X12_41 rfl dX12_runScript_6 (fun I2 e => ?_)
  replace h := h I2 e
  refine wz_aload_n C rfl rfl dX12_runScript_9 ?_
  refine wz_iconst C dX12_runScript_10 ?_
  refine wd_putI C f_X12_runScript_446 fp_X12_42 rfl dX12_runScript_11 (fun I3 e => ?_)
  replace h := h I3 e
  obtain ⟨n, h⟩ := h
  exact lk_X12_runScript_14 G hG X hX C Q n I3 J1 h
