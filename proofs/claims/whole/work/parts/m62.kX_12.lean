theorem in_X11_runCommands_X11 : ∀ w ∈ wsX110, w ∈ wsX11_runCommands := by decide +kernel
theorem in_X11_runCommands_X6 : ∀ w ∈ wsX60, w ∈ wsX11_runCommands := by decide +kernel
theorem f_X11_runCommands_33 : FLk wsX11_runCommands RX11 33 11 3 := flk 11 3 rfl tyX11_ok nmX11 in_X11_runCommands_X11 (by decide) (by decide +kernel)
theorem f_X11_runCommands_158 : FLk wsX11_runCommands RX11 158 6 4 := flk 6 4 rfl tyX6_ok nmX6 in_X11_runCommands_X6 (by decide) (by decide +kernel)
theorem f_X11_runCommands_161 : FLk wsX11_runCommands RX11 161 6 0 := flk 6 0 rfl tyX6_ok nmX6 in_X11_runCommands_X6 (by decide) (by decide +kernel)
theorem f_X11_runCommands_175 : FLk wsX11_runCommands RX11 175 6 1 := flk 6 1 rfl tyX6_ok nmX6 in_X11_runCommands_X6 (by decide) (by decide +kernel)
theorem f_X11_runCommands_178 : FLk wsX11_runCommands RX11 178 6 2 := flk 6 2 rfl tyX6_ok nmX6 in_X11_runCommands_X6 (by decide) (by decide +kernel)
def rm_X11_runCommands : Room := { frames := 6, cells := 0, slots := 0, locals := 178 }
set_option maxHeartbeats 4000000 in
set_option maxRecDepth 100000 in
theorem lk_X11_runCommands_6 (G : KG) (hG : Kok G) (X : KX) (hX : KR X = rm_X11_runCommands) (C : Fr G X cX11_runCommands 7 yX11_runCommands.cls (some .int) wsX11_runCommands) (Q : Int → Ii → Jj → Prop) : ∀ (n : Nat) (l1 : Int) (l2 : Int) (l3 : Int) (I : Ii) (J : Jj), L_X11_runCommands_6 Q n l1 l2 l3 I J → Wz G X 7 (QsU G X (QsI Q)) 0 0 6 [some (.ref (kadr G 100)), some (.int (iZ l1)), some (.int (iZ l2)), some (.int (iZ l3)), none, none, none] [] I J := by
  intro n
  induction n with
  | zero => intro l1 l2 l3 I J h; exact False.elim h
  | succ n w6 =>
    intro l1 l2 l3 I J h
    have h : Lb_X11_runCommands_6 Q (L_X11_runCommands_6 Q n) l1 l2 l3 I J := h
    unfold Lb_X11_runCommands_6 at h
    generalize L_X11_runCommands_6 Q n = r6 at h w6
    refine wz_iload_n C rfl rfl dX11_runCommands_6 ?_
    refine wz_ldc C (n := 1000000) (v := 1000000) (by decide) (by decide +kernel) dX11_runCommands_7 ?_
    obtain ⟨g1, h⟩ := h
    refine wz_icmp_ge C (tgt := 145) g1 (by decide) dX11_runCommands_9 (by decide) (fun c => ?_) (fun c => ?_)
    · replace h := h.1 c
      refine wz_iload_n C rfl rfl dX11_runCommands_145 ?_
      exact wz_iret C dX11_runCommands_146 ⟨_, rfl, h⟩
    · replace h := h.2 c
      refine wz_iload_n C rfl rfl dX11_runCommands_12 ?_
      refine wz_aload_n C rfl rfl dX11_runCommands_13 ?_
      refine wz_getR C (j := 106) f_X11_runCommands_33 rfl dX11_runCommands_14 ?_
      refine wz_getI C rfl f_X11_runCommands_158 rfl dX11_runCommands_17 ?_
      obtain ⟨g2, h⟩ := h
      obtain ⟨g3, h⟩ := h
      refine wz_icmp_ge C (tgt := 145) g2 g3 dX11_runCommands_20 (by decide) (fun c => ?_) (fun c => ?_)
      · replace h := h.1 c
        refine wz_iload_n C rfl rfl dX11_runCommands_145 ?_
        exact wz_iret C dX11_runCommands_146 ⟨_, rfl, h⟩
      · replace h := h.2 c
        refine wz_iload_n C rfl rfl dX11_runCommands_23 ?_
        refine wz_bipush C (by decide) dX11_runCommands_24 ?_
        obtain ⟨g4, h⟩ := h
        refine wz_icmp_ge C (tgt := 145) g4 (by decide) dX11_runCommands_26 (by decide) (fun c => ?_) (fun c => ?_)
        · replace h := h.1 c
          refine wz_iload_n C rfl rfl dX11_runCommands_145 ?_
          exact wz_iret C dX11_runCommands_146 ⟨_, rfl, h⟩
        · replace h := h.2 c
          refine wz_aload_n C rfl rfl dX11_runCommands_29 ?_
          refine wz_getR C (j := 106) f_X11_runCommands_33 rfl dX11_runCommands_30 ?_
          refine wz_getR C (j := 107) f_X11_runCommands_161 rfl dX11_runCommands_33 ?_
          refine wz_iload_n C rfl rfl dX11_runCommands_36 ?_
          refine wm_callS C (As := [.ref (kadr G 107), .int (iZ l2)]) (st := []) (a' := 0) (b' := 0) (k_X11_at G hG 107 l2 I J _ h) 2 gX11_runCommands_X11_at rfl (by decide +kernel) (by rw [hX]; exact ⟨Nat.le_of_ble_eq_true rfl, Nat.le_of_ble_eq_true rfl⟩) rfl (Nat.le_of_ble_eq_true rfl) rfl rfl rfl dX11_runCommands_37 (kk_sI (fun v5 I5 J5 h => ?_))
          refine wz_istore_4 C rfl dX11_runCommands_40 ?_
          refine wz_iload C rfl dX11_runCommands_42 ?_
          refine wz_bipush C (by decide) dX11_runCommands_44 ?_
          obtain ⟨g6, h⟩ := h
          refine wz_icmp_ne C (tgt := 63) g6 (by decide) dX11_runCommands_46 (by decide) (fun c => ?_) (fun c => ?_)
          · replace h := h.1 c
            refine wz_iload C rfl dX11_runCommands_63 ?_
            refine wz_bipush C (by decide) dX11_runCommands_65 ?_
            refine wz_icmp_ne C (tgt := 82) g6 (by decide) dX11_runCommands_67 (by decide) (fun c => ?_) (fun c => ?_)
            · replace h := h.1 c
              refine wz_aload_n C rfl rfl dX11_runCommands_82 ?_
              refine wz_getR C (j := 106) f_X11_runCommands_33 rfl dX11_runCommands_83 ?_
              refine wz_getR C (j := 108) f_X11_runCommands_175 rfl dX11_runCommands_86 ?_
              refine wz_iload_n C rfl rfl dX11_runCommands_89 ?_
              refine wm_callS C (As := [.ref (kadr G 108), .int (iZ l2)]) (st := []) (a' := 0) (b' := 0) (k_X11_at G hG 108 l2 I5 J5 _ h) 2 gX11_runCommands_X11_at rfl (by decide +kernel) (by rw [hX]; exact ⟨Nat.le_of_ble_eq_true rfl, Nat.le_of_ble_eq_true rfl⟩) rfl (Nat.le_of_ble_eq_true rfl) rfl rfl rfl dX11_runCommands_90 (kk_sI (fun v7 I7 J7 h => ?_))
              refine wz_istore_5 C rfl dX11_runCommands_93 ?_
              refine wz_aload_n C rfl rfl dX11_runCommands_95 ?_
              refine wz_getR C (j := 106) f_X11_runCommands_33 rfl dX11_runCommands_96 ?_
              refine wz_getR C (j := 109) f_X11_runCommands_178 rfl dX11_runCommands_99 ?_
              refine wz_iload_n C rfl rfl dX11_runCommands_102 ?_
              refine wm_callS C (As := [.ref (kadr G 109), .int (iZ l2)]) (st := []) (a' := 0) (b' := 0) (k_X11_at G hG 109 l2 I7 J7 _ h) 2 gX11_runCommands_X11_at rfl (by decide +kernel) (by rw [hX]; exact ⟨Nat.le_of_ble_eq_true rfl, Nat.le_of_ble_eq_true rfl⟩) rfl (Nat.le_of_ble_eq_true rfl) rfl rfl rfl dX11_runCommands_103 (kk_sI (fun v8 I8 J8 h => ?_))
              refine wz_istore_6 C rfl dX11_runCommands_106 ?_
              refine wz_aload_n C rfl rfl dX11_runCommands_108 ?_
              refine wz_iload C rfl dX11_runCommands_109 ?_
              refine wz_iload C rfl dX11_runCommands_111 ?_
              refine wz_iload C rfl dX11_runCommands_113 ?_
              refine wm_callV C (o := 100) (As := [.int (iZ v5), .int (iZ v7), .int (iZ v8)]) (st := []) (a' := 0) (b' := 0) rfl rfl (k_X11_canPerform G hG v5 v7 v8 I8 J8 _ h) 3 gX11_runCommands_X11_canPerform rfl (by decide +kernel) (by rw [hX]; exact ⟨Nat.le_of_ble_eq_true rfl, Nat.le_of_ble_eq_true rfl⟩) rfl (Nat.le_of_ble_eq_true rfl) rfl rfl rfl dX11_runCommands_115 (kk_sB (fun v9 I9 J9 hb9 h => ?_))
              refine wz_if_ne C (tgt := 123) (rgB hb9) dX11_runCommands_118 (by decide) (fun c => ?_) (fun c => ?_)
              · replace h := h.1 c
                refine wz_aload_n C rfl rfl dX11_runCommands_123 ?_
                refine wz_iload C rfl dX11_runCommands_124 ?_
                refine wz_iload C rfl dX11_runCommands_126 ?_
                refine wz_iload C rfl dX11_runCommands_128 ?_
                refine wm_callV C (o := 100) (As := [.int (iZ v5), .int (iZ v7), .int (iZ v8)]) (st := []) (a' := 0) (b' := 0) rfl rfl (k_X11_perform G hG v5 v7 v8 I9 J9 _ h) 3 gX11_runCommands_X11_perform rfl (by decide +kernel) (by rw [hX]; exact ⟨Nat.le_of_ble_eq_true rfl, Nat.le_of_ble_eq_true rfl⟩) rfl (Nat.le_of_ble_eq_true rfl) rfl rfl rfl dX11_runCommands_130 (kk_sV (fun I10 J10 h => ?_))
                refine wz_iinc_1 C rfl dX11_runCommands_133 ?_
                refine wz_iinc_2 C rfl dX11_runCommands_136 ?_
                refine wz_iinc_3 C rfl dX11_runCommands_139 ?_
                refine wz_goto C dX11_runCommands_142 (tgt := 6) (by decide) ?_
                exact Wz.drop (w6 (l1 + 1) (l2 + 1) (l3 + 1) I10 J10 h) (And.intro rfl (And.intro rfl (And.intro rfl (And.intro rfl trivial))))
              · replace h := h.2 c
                refine wz_iload_n C rfl rfl dX11_runCommands_121 ?_
                exact wz_iret C dX11_runCommands_122 ⟨_, rfl, h⟩
            · replace h := h.2 c
              refine wz_aload_n C rfl rfl dX11_runCommands_70 ?_
              refine wz_getR C (j := 106) f_X11_runCommands_33 rfl dX11_runCommands_71 ?_
              refine wz_iload_n C rfl rfl dX11_runCommands_74 ?_
              refine wm_callV C (o := 106) (As := [.int (iZ l2)]) (st := []) (a' := 0) (b' := 0) rfl rfl (k_X6_behindClose G hG l2 I5 J5 _ h) 1 gX11_runCommands_X6_behindClose rfl (by decide +kernel) (by rw [hX]; exact ⟨Nat.le_of_ble_eq_true rfl, Nat.le_of_ble_eq_true rfl⟩) rfl (Nat.le_of_ble_eq_true rfl) rfl rfl rfl dX11_runCommands_75 (kk_sI (fun v11 I11 J11 h => ?_))
              refine wz_istore_2 C rfl dX11_runCommands_78 ?_
              refine wz_goto C dX11_runCommands_79 (tgt := 139) (by decide) ?_
              refine wz_iinc_3 C rfl dX11_runCommands_139 ?_
              refine wz_goto C dX11_runCommands_142 (tgt := 6) (by decide) ?_
              exact Wz.drop (w6 l1 v11 (l3 + 1) I11 J11 h) (And.intro rfl (And.intro rfl (And.intro rfl (And.intro rfl trivial))))
          · replace h := h.2 c
            refine wz_aload_n C rfl rfl dX11_runCommands_49 ?_
            refine wz_getR C (j := 106) f_X11_runCommands_33 rfl dX11_runCommands_50 ?_
            refine wz_iload_n C rfl rfl dX11_runCommands_53 ?_
            refine wm_callV C (o := 106) (As := [.int (iZ l2)]) (st := []) (a' := 0) (b' := 0) rfl rfl (k_X6_beginRepeat G hG l2 I5 J5 _ h) 1 gX11_runCommands_X6_beginRepeat rfl (by decide +kernel) (by rw [hX]; exact ⟨Nat.le_of_ble_eq_true rfl, Nat.le_of_ble_eq_true rfl⟩) rfl (Nat.le_of_ble_eq_true rfl) rfl rfl rfl dX11_runCommands_54 (kk_sV (fun I12 J12 h => ?_))
            refine wz_iinc_2 C rfl dX11_runCommands_57 ?_
            refine wz_goto C dX11_runCommands_60 (tgt := 139) (by decide) ?_
            refine wz_iinc_3 C rfl dX11_runCommands_139 ?_
            refine wz_goto C dX11_runCommands_142 (tgt := 6) (by decide) ?_
            exact Wz.drop (w6 l1 (l2 + 1) (l3 + 1) I12 J12 h) (And.intro rfl (And.intro rfl (And.intro rfl (And.intro rfl trivial))))
set_option maxHeartbeats 4000000 in
set_option maxRecDepth 100000 in
theorem k_X11_runCommands (G : KG) (hG : Kok G) (I : Ii) (J : Jj) (Q : Int → Ii → Jj → Prop) (h : wp_X11_runCommands I J Q) : Ctr G yX11_runCommands wsX11_runCommands rm_X11_runCommands [.ref (kadr G 100)] (I, J) (QsI Q) := by
  unfold wp_X11_runCommands at h
  skip
  refine Ctr.ofZ (cc := cX11_runCommands) (nL := 7) (ret := (some .int)) [some (.ref (kadr G 100)), none, none, none, none, none, none] hG (by decide +kernel) rfl (Nat.le_of_ble_eq_true rfl) (Nat.le_of_ble_eq_true rfl) (by simp [lvA, lv_args, Value.category]) ?_
  intro X hX C
  refine wz_iconst C dX11_runCommands_0 ?_
  refine wz_istore_1 C rfl dX11_runCommands_1 ?_
  refine wz_iconst C dX11_runCommands_2 ?_
  refine wz_istore_2 C rfl dX11_runCommands_3 ?_
  refine wz_iconst C dX11_runCommands_4 ?_
  refine wz_istore_3 C rfl dX11_runCommands_5 ?_
  obtain ⟨n, h⟩ := h
  exact lk_X11_runCommands_6 G hG X hX C Q n 0 0 0 I J h
