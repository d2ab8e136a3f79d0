theorem in_X4_greatestGain_X4 : ∀ w ∈ wsX40, w ∈ wsX4_greatestGain := by decide +kernel
theorem f_X4_greatestGain_36 : FLk wsX4_greatestGain RX4 36 7 0 := flk 7 0 rfl tyX4_ok nmX4 in_X4_greatestGain_X4 (by decide) (by decide +kernel)
theorem f_X4_greatestGain_45 : FLk wsX4_greatestGain RX4 45 7 1 := flk 7 1 rfl tyX4_ok nmX4 in_X4_greatestGain_X4 (by decide) (by decide +kernel)
theorem f_X4_greatestGain_62 : FLk wsX4_greatestGain RX4 62 7 4 := flk 7 4 rfl tyX4_ok nmX4 in_X4_greatestGain_X4 (by decide) (by decide +kernel)
def rm_X4_greatestGain : Room := { frames := 2, cells := 0, slots := 0, locals := 47 }
set_option maxHeartbeats 4000000 in
set_option maxRecDepth 100000 in
theorem bk_X4_greatestGain_122 (G : KG) (hG : KokC G) (X : KX) (hX : KR X = rm_X4_greatestGain) (C : Fr G X cX4_greatestGain 11 yX4_greatestGain.cls (some .int) wsX4_greatestGain) (l1 : Int) (Q : Int → Ii → Jj → Prop) (r10 : Int → Int → Int → Int → Ii → Jj → Prop) (w10 : ∀ (l2 : Int) (l3 : Int) (l4 : Int) (l5 : Int) (I : Ii) (J : Jj), r10 l2 l3 l4 l5 I J → Wz G X 11 (QsU G X (QsI Q)) 0 0 10 [some (.ref (kadr G 113)), some (.int (iZ l1)), some (.int (iZ l2)), some (.int (iZ l3)), some (.int (iZ l4)), some (.int (iZ l5)), none, none, none, none, none] [] I J) (r22 : Int → Int → Int → Int → Int → Ii → Jj → Prop) (w22 : ∀ (l2 : Int) (l3 : Int) (l4 : Int) (l5 : Int) (l6 : Int) (I : Ii) (J : Jj), r22 l2 l3 l4 l5 l6 I J → Wz G X 11 (QsU G X (QsI Q)) 0 0 22 [some (.ref (kadr G 113)), some (.int (iZ l1)), some (.int (iZ l2)), some (.int (iZ l3)), some (.int (iZ l4)), some (.int (iZ l5)), some (.int (iZ l6)), none, none, none, none] [] I J) (l2 : Int) (l3 : Int) (l4 : Int) (l5 : Int) (l6 : Int) (l7 : Int) (l8 : Int) (l9 : Int) (t0 : Int) (I : Ii) (J : Jj) (h : B_X4_greatestGain_122 l1 Q r10 r22 l2 l3 l4 l5 l6 l7 l8 l9 t0 I J)   : Wz G X 11 (QsU G X (QsI Q)) 0 0 122 [some (.ref (kadr G 113)), some (.int (iZ l1)), some (.int (iZ l2)), some (.int (iZ l3)), some (.int (iZ l4)), some (.int (iZ l5)), some (.int (iZ l6)), some (.int (iZ l7)), some (.int (iZ l8)), some (.int (iZ l9)), none] [.int (iZ t0)] I J := by
  have hz := hG.2
  unfold B_X4_greatestGain_122 at h
  refine wz_istore_10 C rfl dX4_greatestGain_122 ?_
  refine wz_iload C rfl dX4_greatestGain_124 ?_
  obtain ⟨g17, h⟩ := h
  refine wz_if_eq C (tgt := 150) g17 dX4_greatestGain_126 (by decide) (fun c => ?_) (fun c => ?_)
  · replace h := h.1 c
    refine wz_iinc_6 C rfl dX4_greatestGain_150 ?_
    refine wz_goto C dX4_greatestGain_153 (tgt := 22) (by decide) ?_
    exact Wz.drop (w22 l2 l3 l4 l5 (l6 + 1) I J h) (And.intro rfl (And.intro rfl (And.intro rfl (And.intro rfl (And.intro rfl (And.intro rfl (And.intro rfl trivial)))))))
  · replace h := h.2 c
    refine wz_iload C rfl dX4_greatestGain_129 ?_
    obtain ⟨g18, h⟩ := h
    refine wz_if_eq C (tgt := 150) g18 dX4_greatestGain_131 (by decide) (fun c => ?_) (fun c => ?_)
    · replace h := h.1 c
      refine wz_iinc_6 C rfl dX4_greatestGain_150 ?_
      refine wz_goto C dX4_greatestGain_153 (tgt := 22) (by decide) ?_
      exact Wz.drop (w22 l2 l3 l4 l5 (l6 + 1) I J h) (And.intro rfl (And.intro rfl (And.intro rfl (And.intro rfl (And.intro rfl (And.intro rfl (And.intro rfl trivial)))))))
    · replace h := h.2 c
      refine wz_iload C rfl dX4_greatestGain_134 ?_
      refine wz_bipush C (by decide) dX4_greatestGain_136 ?_
      refine wz_imul C dX4_greatestGain_138 ?_
      refine wz_iload C rfl dX4_greatestGain_139 ?_
      refine wz_iadd C dX4_greatestGain_141 ?_
      refine wz_istore_2 C rfl dX4_greatestGain_142 ?_
      refine wz_iload C rfl dX4_greatestGain_143 ?_
      refine wz_istore_3 C rfl dX4_greatestGain_145 ?_
      refine wz_iload C rfl dX4_greatestGain_146 ?_
      refine wz_istore_4 C rfl dX4_greatestGain_148 ?_
      refine wz_iinc_6 C rfl dX4_greatestGain_150 ?_
      refine wz_goto C dX4_greatestGain_153 (tgt := 22) (by decide) ?_
      exact Wz.drop (w22 ((l5 * 10) + l6) l7 l8 l5 (l6 + 1) I J h) (And.intro rfl (And.intro rfl (And.intro rfl (And.intro rfl (And.intro rfl (And.intro rfl (And.intro rfl trivial)))))))
set_option maxHeartbeats 4000000 in
set_option maxRecDepth 100000 in
theorem bk_X4_greatestGain_91 (G : KG) (hG : KokC G) (X : KX) (hX : KR X = rm_X4_greatestGain) (C : Fr G X cX4_greatestGain 11 yX4_greatestGain.cls (some .int) wsX4_greatestGain) (l1 : Int) (Q : Int → Ii → Jj → Prop) (r10 : Int → Int → Int → Int → Ii → Jj → Prop) (w10 : ∀ (l2 : Int) (l3 : Int) (l4 : Int) (l5 : Int) (I : Ii) (J : Jj), r10 l2 l3 l4 l5 I J → Wz G X 11 (QsU G X (QsI Q)) 0 0 10 [some (.ref (kadr G 113)), some (.int (iZ l1)), some (.int (iZ l2)), some (.int (iZ l3)), some (.int (iZ l4)), some (.int (iZ l5)), none, none, none, none, none] [] I J) (r22 : Int → Int → Int → Int → Int → Ii → Jj → Prop) (w22 : ∀ (l2 : Int) (l3 : Int) (l4 : Int) (l5 : Int) (l6 : Int) (I : Ii) (J : Jj), r22 l2 l3 l4 l5 l6 I J → Wz G X 11 (QsU G X (QsI Q)) 0 0 22 [some (.ref (kadr G 113)), some (.int (iZ l1)), some (.int (iZ l2)), some (.int (iZ l3)), some (.int (iZ l4)), some (.int (iZ l5)), some (.int (iZ l6)), none, none, none, none] [] I J) (l2 : Int) (l3 : Int) (l4 : Int) (l5 : Int) (l6 : Int) (l7 : Int) (l8 : Int) (t0 : Int) (I : Ii) (J : Jj) (h : B_X4_greatestGain_91 l1 Q r10 r22 l2 l3 l4 l5 l6 l7 l8 t0 I J)   : Wz G X 11 (QsU G X (QsI Q)) 0 0 91 [some (.ref (kadr G 113)), some (.int (iZ l1)), some (.int (iZ l2)), some (.int (iZ l3)), some (.int (iZ l4)), some (.int (iZ l5)), some (.int (iZ l6)), some (.int (iZ l7)), some (.int (iZ l8)), none, none] [.int (iZ t0)] I J := by
  have hz := hG.2
  unfold B_X4_greatestGain_91 at h
  refine wz_istore_9 C rfl dX4_greatestGain_91 ?_
  refine wz_iload_n C rfl rfl dX4_greatestGain_93 ?_
  refine wz_iconst C dX4_greatestGain_94 ?_
  obtain ⟨g12, h⟩ := h
  refine wz_icmp_eq C (tgt := 117) g12 (by decide) dX4_greatestGain_95 (by decide) (fun c => ?_) (fun c => ?_)
  · replace h := h.1 c
    refine wz_iconst C dX4_greatestGain_117 ?_
    refine wz_goto C dX4_greatestGain_118 (tgt := 122) (by decide) ?_
    exact bk_X4_greatestGain_122 G hG X hX C l1 Q r10 w10 r22 w22 l2 l3 l4 l5 l6 l7 l8 t0 1 I J h
  · replace h := h.2 c
    refine wz_iload C rfl dX4_greatestGain_98 ?_
    refine wz_iload_n C rfl rfl dX4_greatestGain_100 ?_
    obtain ⟨g13, h⟩ := h
    obtain ⟨g14, h⟩ := h
    refine wz_icmp_gt C (tgt := 117) g13 g14 dX4_greatestGain_101 (by decide) (fun c => ?_) (fun c => ?_)
    · replace h := h.1 c
      refine wz_iconst C dX4_greatestGain_117 ?_
      refine wz_goto C dX4_greatestGain_118 (tgt := 122) (by decide) ?_
      exact bk_X4_greatestGain_122 G hG X hX C l1 Q r10 w10 r22 w22 l2 l3 l4 l5 l6 l7 l8 t0 1 I J h
    · replace h := h.2 c
      refine wz_iload C rfl dX4_greatestGain_104 ?_
      refine wz_iload_n C rfl rfl dX4_greatestGain_106 ?_
      refine wz_icmp_ne C (tgt := 121) g13 g14 dX4_greatestGain_107 (by decide) (fun c => ?_) (fun c => ?_)
      · replace h := h.1 c
        refine wz_iconst C dX4_greatestGain_121 ?_
        exact bk_X4_greatestGain_122 G hG X hX C l1 Q r10 w10 r22 w22 l2 l3 l4 l5 l6 l7 l8 t0 0 I J h
      · replace h := h.2 c
        refine wz_iload C rfl dX4_greatestGain_110 ?_
        refine wz_iload C rfl dX4_greatestGain_112 ?_
        obtain ⟨g15, h⟩ := h
        obtain ⟨g16, h⟩ := h
        refine wz_icmp_ge C (tgt := 121) g15 g16 dX4_greatestGain_114 (by decide) (fun c => ?_) (fun c => ?_)
        · replace h := h.1 c
          refine wz_iconst C dX4_greatestGain_121 ?_
          exact bk_X4_greatestGain_122 G hG X hX C l1 Q r10 w10 r22 w22 l2 l3 l4 l5 l6 l7 l8 t0 0 I J h
        · replace h := h.2 c
          refine wz_iconst C dX4_greatestGain_117 ?_
          refine wz_goto C dX4_greatestGain_118 (tgt := 122) (by decide) ?_
          exact bk_X4_greatestGain_122 G hG X hX C l1 Q r10 w10 r22 w22 l2 l3 l4 l5 l6 l7 l8 t0 1 I J h
set_option maxHeartbeats 4000000 in
set_option maxRecDepth 100000 in
theorem lk_X4_greatestGain_22 (G : KG) (hG : KokC G) (X : KX) (hX : KR X = rm_X4_greatestGain) (C : Fr G X cX4_greatestGain 11 yX4_greatestGain.cls (some .int) wsX4_greatestGain) (l1 : Int) (Q : Int → Ii → Jj → Prop) (r10 : Int → Int → Int → Int → Ii → Jj → Prop) (w10 : ∀ (l2 : Int) (l3 : Int) (l4 : Int) (l5 : Int) (I : Ii) (J : Jj), r10 l2 l3 l4 l5 I J → Wz G X 11 (QsU G X (QsI Q)) 0 0 10 [some (.ref (kadr G 113)), some (.int (iZ l1)), some (.int (iZ l2)), some (.int (iZ l3)), some (.int (iZ l4)), some (.int (iZ l5)), none, none, none, none, none] [] I J) : ∀ (n : Nat) (l2 : Int) (l3 : Int) (l4 : Int) (l5 : Int) (l6 : Int) (I : Ii) (J : Jj), L_X4_greatestGain_22 l1 Q r10 n l2 l3 l4 l5 l6 I J → Wz G X 11 (QsU G X (QsI Q)) 0 0 22 [some (.ref (kadr G 113)), some (.int (iZ l1)), some (.int (iZ l2)), some (.int (iZ l3)), some (.int (iZ l4)), some (.int (iZ l5)), some (.int (iZ l6)), none, none, none, none] [] I J := by
  have hz := hG.2
  intro n
  induction n with
  | zero => intro l2 l3 l4 l5 l6 I J h; exact False.elim h
  | succ n w22 =>
    intro l2 l3 l4 l5 l6 I J h
    have h : Lb_X4_greatestGain_22 l1 Q r10 (L_X4_greatestGain_22 l1 Q r10 n) l2 l3 l4 l5 l6 I J := h
    unfold Lb_X4_greatestGain_22 at h
    generalize L_X4_greatestGain_22 l1 Q r10 n = r22 at h w22
    refine wz_iload C rfl dX4_greatestGain_22 ?_
    refine wz_aload_n C rfl rfl dX4_greatestGain_24 ?_
    refine wz_getI C rfl f_X4_greatestGain_45 (sOc hz rfl) dX4_greatestGain_25 ?_
    obtain ⟨g3, h⟩ := h
    obtain ⟨g4, h⟩ := h
    refine wz_icmp_ge C (tgt := 156) g3 g4 dX4_greatestGain_28 (by decide) (fun c => ?_) (fun c => ?_)
    · replace h := h.1 c
      refine wz_iinc_5 C rfl dX4_greatestGain_156 ?_
      refine wz_goto C dX4_greatestGain_159 (tgt := 10) (by decide) ?_
      exact Wz.drop (w10 l2 l3 l4 (l5 + 1) I J h) (And.intro rfl (And.intro rfl (And.intro rfl (And.intro rfl (And.intro rfl (And.intro rfl trivial))))))
    · replace h := h.2 c
      refine wz_aload_n C rfl rfl dX4_greatestGain_31 ?_
      refine wz_iload C rfl dX4_greatestGain_32 ?_
      refine wz_iload C rfl dX4_greatestGain_34 ?_
      refine wm_callV C (o := 113) (As := [.int (iZ l5), .int (iZ l6)]) (st := []) (a' := 0) (b' := 0) (shK_c hz rfl) rfl (k_X4_gainOf G hG l5 l6 I J _ h) 2 gX4_greatestGain_X4_gainOf rfl (by decide +kernel) (by rw [hX]; exact ⟨Nat.le_of_ble_eq_true rfl, Nat.le_of_ble_eq_true rfl⟩) rfl (Nat.le_of_ble_eq_true rfl) rfl rfl rfl dX4_greatestGain_36 (kk_sI (fun v5 I5 J5 h => ?_))
      refine wz_istore_7 C rfl dX4_greatestGain_39 ?_
      refine wz_aload_n C rfl rfl dX4_greatestGain_41 ?_
      refine wz_iload C rfl dX4_greatestGain_42 ?_
      refine wz_iload C rfl dX4_greatestGain_44 ?_
      refine wm_callV C (o := 113) (As := [.int (iZ l5), .int (iZ l6)]) (st := []) (a' := 0) (b' := 0) (shK_c hz rfl) rfl (k_X4_debtsWith G hG l5 l6 I5 J5 _ h) 2 gX4_greatestGain_X4_debtsWith rfl (by decide +kernel) (by rw [hX]; exact ⟨Nat.le_of_ble_eq_true rfl, Nat.le_of_ble_eq_true rfl⟩) rfl (Nat.le_of_ble_eq_true rfl) rfl rfl rfl dX4_greatestGain_46 (kk_sI (fun v6 I6 J6 h => ?_))
      refine wz_istore_8 C rfl dX4_greatestGain_49 ?_
      refine wz_iload_n C rfl rfl dX4_greatestGain_51 ?_
      obtain ⟨g7, h⟩ := h
      refine wz_if_eq C (tgt := 72) g7 dX4_greatestGain_52 (by decide) (fun c => ?_) (fun c => ?_)
      · replace h := h.1 c
        refine wz_iload C rfl dX4_greatestGain_72 ?_
        obtain ⟨g8, h⟩ := h
        refine wz_if_le C (tgt := 90) g8 dX4_greatestGain_74 (by decide) (fun c => ?_) (fun c => ?_)
        · replace h := h.1 c
          refine wz_iconst C dX4_greatestGain_90 ?_
          exact bk_X4_greatestGain_91 G hG X hX C l1 Q r10 w10 r22 w22 l2 l3 l4 l5 l6 v5 v6 0 I6 J6 h
        · replace h := h.2 c
          refine wz_aload_n C rfl rfl dX4_greatestGain_77 ?_
          refine wz_iload C rfl dX4_greatestGain_78 ?_
          refine wm_callV C (o := 113) (As := [.int (iZ v6)]) (st := []) (a' := 0) (b' := 0) (shK_c hz rfl) rfl (k_X4_isTooMuch G hG v6 I6 J6 _ h) 1 gX4_greatestGain_X4_isTooMuch rfl (by decide +kernel) (by rw [hX]; exact ⟨Nat.le_of_ble_eq_true rfl, Nat.le_of_ble_eq_true rfl⟩) rfl (Nat.le_of_ble_eq_true rfl) rfl rfl rfl dX4_greatestGain_80 (kk_sB (fun v9 I9 J9 hb9 h => ?_))
          refine wz_if_ne C (tgt := 90) (rgB hb9) dX4_greatestGain_83 (by decide) (fun c => ?_) (fun c => ?_)
          · replace h := h.1 c
            refine wz_iconst C dX4_greatestGain_90 ?_
            exact bk_X4_greatestGain_91 G hG X hX C l1 Q r10 w10 r22 w22 l2 l3 l4 l5 l6 v5 v6 0 I9 J9 h
          · replace h := h.2 c
            refine wz_iconst C dX4_greatestGain_86 ?_
            refine wz_goto C dX4_greatestGain_87 (tgt := 91) (by decide) ?_
            exact bk_X4_greatestGain_91 G hG X hX C l1 Q r10 w10 r22 w22 l2 l3 l4 l5 l6 v5 v6 1 I9 J9 h
      · replace h := h.2 c
        refine wz_iload C rfl dX4_greatestGain_55 ?_
        refine wz_aload_n C rfl rfl dX4_greatestGain_57 ?_
        refine wz_getI C rfl f_X4_greatestGain_62 (sOc hz rfl) dX4_greatestGain_58 ?_
        obtain ⟨g10, h⟩ := h
        obtain ⟨g11, h⟩ := h
        refine wz_icmp_ge C (tgt := 68) g10 g11 dX4_greatestGain_61 (by decide) (fun c => ?_) (fun c => ?_)
        · replace h := h.1 c
          refine wz_iconst C dX4_greatestGain_68 ?_
          refine wz_goto C dX4_greatestGain_69 (tgt := 91) (by decide) ?_
          exact bk_X4_greatestGain_91 G hG X hX C l1 Q r10 w10 r22 w22 l2 l3 l4 l5 l6 v5 v6 0 I6 J6 h
        · replace h := h.2 c
          refine wz_iconst C dX4_greatestGain_64 ?_
          refine wz_goto C dX4_greatestGain_65 (tgt := 91) (by decide) ?_
          exact bk_X4_greatestGain_91 G hG X hX C l1 Q r10 w10 r22 w22 l2 l3 l4 l5 l6 v5 v6 1 I6 J6 h
set_option maxHeartbeats 4000000 in
set_option maxRecDepth 100000 in
theorem lk_X4_greatestGain_10 (G : KG) (hG : KokC G) (X : KX) (hX : KR X = rm_X4_greatestGain) (C : Fr G X cX4_greatestGain 11 yX4_greatestGain.cls (some .int) wsX4_greatestGain) (l1 : Int) (Q : Int → Ii → Jj → Prop) : ∀ (n : Nat) (l2 : Int) (l3 : Int) (l4 : Int) (l5 : Int) (I : Ii) (J : Jj), L_X4_greatestGain_10 l1 Q n l2 l3 l4 l5 I J → Wz G X 11 (QsU G X (QsI Q)) 0 0 10 [some (.ref (kadr G 113)), some (.int (iZ l1)), some (.int (iZ l2)), some (.int (iZ l3)), some (.int (iZ l4)), some (.int (iZ l5)), none, none, none, none, none] [] I J := by
  have hz := hG.2
  intro n
  induction n with
  | zero => intro l2 l3 l4 l5 I J h; exact False.elim h
  | succ n w10 =>
    intro l2 l3 l4 l5 I J h
    have h : Lb_X4_greatestGain_10 l1 Q (L_X4_greatestGain_10 l1 Q n) l2 l3 l4 l5 I J := h
    unfold Lb_X4_greatestGain_10 at h
    generalize L_X4_greatestGain_10 l1 Q n = r10 at h w10
    refine wz_iload C rfl dX4_greatestGain_10 ?_
    refine wz_aload_n C rfl rfl dX4_greatestGain_12 ?_
    refine wz_getI C rfl f_X4_greatestGain_36 (sOc hz rfl) dX4_greatestGain_13 ?_
    obtain ⟨g1, h⟩ := h
    obtain ⟨g2, h⟩ := h
    refine wz_icmp_ge C (tgt := 162) g1 g2 dX4_greatestGain_16 (by decide) (fun c => ?_) (fun c => ?_)
    · replace h := h.1 c
      refine wz_iload_n C rfl rfl dX4_greatestGain_162 ?_
      exact wz_iret C dX4_greatestGain_163 ⟨_, rfl, h⟩
    · replace h := h.2 c
      refine wz_iconst C dX4_greatestGain_19 ?_
      refine wz_istore_6 C rfl dX4_greatestGain_20 ?_
      obtain ⟨n, h⟩ := h
      exact lk_X4_greatestGain_22 G hG X hX C l1 Q r10 w10 n l2 l3 l4 l5 0 I J h
set_option maxHeartbeats 4000000 in
set_option maxRecDepth 100000 in
theorem k_X4_greatestGain (G : KG) (hG : KokC G) (l1 : Int) (I : Ii) (J : Jj) (Q : Int → Ii → Jj → Prop) (h : wp_X4_greatestGain l1 I J Q) : Ctr G yX4_greatestGain wsX4_greatestGain rm_X4_greatestGain [.ref (kadr G 113), .int (iZ l1)] (I, J) (QsI Q) := by
  unfold wp_X4_greatestGain at h
  skip
  refine Ctr.ofZ (cc := cX4_greatestGain) (nL := 11) (ret := (some .int)) [some (.ref (kadr G 113)), some (.int (iZ l1)), none, none, none, none, none, none, none, none, none] hG.1 (by decide +kernel) rfl (Nat.le_of_ble_eq_true rfl) (Nat.le_of_ble_eq_true rfl) (by simp [lvA, lv_args, Value.category]) ?_
  intro X hX C
  have hz := hG.2
  refine wz_iconst C dX4_greatestGain_0 ?_
  refine wz_istore_2 C rfl dX4_greatestGain_1 ?_
  refine wz_iconst C dX4_greatestGain_2 ?_
  refine wz_istore_3 C rfl dX4_greatestGain_3 ?_
  refine wz_iconst C dX4_greatestGain_4 ?_
  refine wz_istore_4 C rfl dX4_greatestGain_5 ?_
  refine wz_iconst C dX4_greatestGain_7 ?_
  refine wz_istore_5 C rfl dX4_greatestGain_8 ?_
  obtain ⟨n, h⟩ := h
  exact lk_X4_greatestGain_10 G hG X hX C l1 Q n (-1) 0 0 0 I J h
theorem in_X5_join_X2 : ∀ w ∈ wsX20, w ∈ wsX5_join := by decide +kernel
theorem in_X5_join_X5 : ∀ w ∈ wsX50, w ∈ wsX5_join := by decide +kernel
theorem in_X5_join_X8 : ∀ w ∈ wsX80, w ∈ wsX5_join := by decide +kernel
theorem f_X5_join_9 : FLk wsX5_join RX5 9 8 0 := flk 8 0 rfl tyX5_ok nmX5 in_X5_join_X5 (by decide) (by decide +kernel)
theorem f_X5_join_33 : FLk wsX5_join RX5 33 5 1 := flk 5 1 rfl tyX2_ok nmX2 in_X5_join_X2 (by decide) (by decide +kernel)
theorem f_X5_join_39 : FLk wsX5_join RX5 39 11 5 := flk 11 5 rfl tyX8_ok nmX8 in_X5_join_X8 (by decide) (by decide +kernel)
theorem f_X5_join_42 : FLk wsX5_join RX5 42 5 9 := flk 5 9 rfl tyX2_ok nmX2 in_X5_join_X2 (by decide) (by decide +kernel)
theorem f_X5_join_49 : FLk wsX5_join RX5 49 5 10 := flk 5 10 rfl tyX2_ok nmX2 in_X5_join_X2 (by decide) (by decide +kernel)
theorem f_X5_join_52 : FLk wsX5_join RX5 52 5 11 := flk 5 11 rfl tyX2_ok nmX2 in_X5_join_X2 (by decide) (by decide +kernel)
def rm_X5_join : Room := { frames := 1, cells := 0, slots := 0, locals := 23 }
set_option maxHeartbeats 4000000 in
set_option maxRecDepth 100000 in
theorem lk_X5_join_16 (G : KG) (hG : KokC G) (X : KX) (hX : KR X = rm_X5_join) (C : Fr G X cX5_join 7 yX5_join.cls none wsX5_join) (k1 : Nat) (k2 : Nat) (hk1 : gK k1) (hk2 : sK k2) (Q : Ii → Jj → Prop) : ∀ (n : Nat) (l3 : Int) (l4 : Int) (I : Ii) (J : Jj), L_X5_join_16 k1 k2 Q n l3 l4 I J → Wz G X 7 (QsU G X (QsV Q)) 0 0 16 [some (.ref (kadr G 120)), some (.ref (kadr G k1)), some (.ref (kadr G k2)), some (.int (iZ l3)), some (.int (iZ l4)), none, none] [] I J := by
  have hz := hG.2
  intro n
  induction n with
  | zero => intro l3 l4 I J h; exact False.elim h
  | succ n w16 =>
    intro l3 l4 I J h
    have h : Lb_X5_join_16 k1 k2 Q (L_X5_join_16 k1 k2 Q n) l3 l4 I J := h
    unfold Lb_X5_join_16 at h
    generalize L_X5_join_16 k1 k2 Q n = r16 at h w16
    refine wz_iload C rfl dX5_join_16 ?_
    refine wz_aload_n C rfl rfl dX5_join_18 ?_
    refine wz_getI C rfl f_X5_join_33 (sOc hz (soX2_1 hk1)) dX5_join_19 ?_
    obtain ⟨g3, h⟩ := h
    obtain ⟨g4, h⟩ := h
    refine wz_icmp_ge C (tgt := 119) g3 g4 dX5_join_22 (by decide) (fun c => ?_) (fun c => ?_)
    · replace h := h.1 c
      exact wz_vret C dX5_join_119 ⟨rfl, h⟩
    · replace h := h.2 c
      refine wz_aload_n C rfl rfl dX5_join_25 ?_
      refine wz_getR C (j := k2 + 3) f_X5_join_39 (sOc hz (soX8_5 hk2)) (by have := sK_ge hk2; omega) dX5_join_26 ?_
      refine wz_iload_n C rfl rfl dX5_join_29 ?_
      refine wz_aload_n C rfl rfl dX5_join_30 ?_
      refine wz_getR C (j := k1 + 3) f_X5_join_42 (sOc hz (soX2_9 hk1)) (by have := gK_ge hk1; omega) dX5_join_31 ?_
      refine wz_iload C rfl dX5_join_34 ?_
      refine wm_callSN C (As := [.ref (kadr G (k1 + 3)), .int (iZ l4)]) (st := [.int (iZ l3), .ref (kadr G (k2 + 3))]) (a' := 0) (b' := 0) (host := "ShareGraph") (k_X11_at G hG (k1 + 3) l4 I J _ h) 2 gX5_join_X11_at_n45 (by decide +kernel) (by decide +kernel) (by decide +kernel) rfl (by decide +kernel) (by rw [hX]; exact ⟨Nat.le_of_ble_eq_true rfl, Nat.le_of_ble_eq_true rfl⟩) rfl (Nat.le_of_ble_eq_true rfl) rfl rfl rfl dX5_join_36 (kk_sI (fun v5 I5 J5 h => ?_))
      refine wz_iadd C dX5_join_39 ?_
      refine wm_callSN C (As := [.ref (kadr G (k2 + 3)), .int (iZ (l3 + v5))]) (st := []) (a' := 0) (b' := 0) (host := "ShareGraph") (k_X11_at G hG (k2 + 3) (l3 + v5) I5 J5 _ h) 2 gX5_join_X11_at_n45 (by decide +kernel) (by decide +kernel) (by decide +kernel) rfl (by decide +kernel) (by rw [hX]; exact ⟨Nat.le_of_ble_eq_true rfl, Nat.le_of_ble_eq_true rfl⟩) rfl (Nat.le_of_ble_eq_true rfl) rfl rfl rfl dX5_join_40 (kk_sI (fun v6 I6 J6 h => ?_))
      refine wz_istore_5 C rfl dX5_join_43 ?_
      refine wz_aload_n C rfl rfl dX5_join_45 ?_
      refine wz_getR C (j := k2 + 3) f_X5_join_39 (sOc hz (soX8_5 hk2)) (by have := sK_ge hk2; omega) dX5_join_46 ?_
      refine wz_iload_n C rfl rfl dX5_join_49 ?_
      refine wz_aload_n C rfl rfl dX5_join_50 ?_
      refine wz_getR C (j := k1 + 4) f_X5_join_49 (sOc hz (soX2_10 hk1)) (by have := gK_ge hk1; omega) dX5_join_51 ?_
      refine wz_iload C rfl dX5_join_54 ?_
      refine wm_callSN C (As := [.ref (kadr G (k1 + 4)), .int (iZ l4)]) (st := [.int (iZ l3), .ref (kadr G (k2 + 3))]) (a' := 0) (b' := 0) (host := "ShareGraph") (k_X11_at G hG (k1 + 4) l4 I6 J6 _ h) 2 gX5_join_X11_at_n45 (by decide +kernel) (by decide +kernel) (by decide +kernel) rfl (by decide +kernel) (by rw [hX]; exact ⟨Nat.le_of_ble_eq_true rfl, Nat.le_of_ble_eq_true rfl⟩) rfl (Nat.le_of_ble_eq_true rfl) rfl rfl rfl dX5_join_56 (kk_sI (fun v7 I7 J7 h => ?_))
      refine wz_iadd C dX5_join_59 ?_
      refine wm_callSN C (As := [.ref (kadr G (k2 + 3)), .int (iZ (l3 + v7))]) (st := []) (a' := 0) (b' := 0) (host := "ShareGraph") (k_X11_at G hG (k2 + 3) (l3 + v7) I7 J7 _ h) 2 gX5_join_X11_at_n45 (by decide +kernel) (by decide +kernel) (by decide +kernel) rfl (by decide +kernel) (by rw [hX]; exact ⟨Nat.le_of_ble_eq_true rfl, Nat.le_of_ble_eq_true rfl⟩) rfl (Nat.le_of_ble_eq_true rfl) rfl rfl rfl dX5_join_60 (kk_sI (fun v8 I8 J8 h => ?_))
      refine wz_istore_6 C rfl dX5_join_63 ?_
      refine wz_aload_n C rfl rfl dX5_join_65 ?_
      refine wz_getR C (j := 121) f_X5_join_9 (sOc hz rfl) (by decide) dX5_join_66 ?_
      refine wz_iload C rfl dX5_join_69 ?_
      refine wz_bipush C (by decide) dX5_join_71 ?_
      refine wz_imul C dX5_join_73 ?_
      refine wz_iload C rfl dX5_join_74 ?_
      refine wz_iadd C dX5_join_76 ?_
      refine wz_aload_n C rfl rfl dX5_join_77 ?_
      refine wz_getR C (j := k1 + 5) f_X5_join_52 (sOc hz (soX2_11 hk1)) (by have := gK_ge hk1; omega) dX5_join_78 ?_
      refine wz_iload C rfl dX5_join_81 ?_
      refine wm_callSN C (As := [.ref (kadr G (k1 + 5)), .int (iZ l4)]) (st := [.int (iZ ((v6 * 14) + v8)), .ref (kadr G 121)]) (a' := 0) (b' := 0) (host := "ShareGraph") (k_X11_at G hG (k1 + 5) l4 I8 J8 _ h) 2 gX5_join_X11_at_n45 (by decide +kernel) (by decide +kernel) (by decide +kernel) rfl (by decide +kernel) (by rw [hX]; exact ⟨Nat.le_of_ble_eq_true rfl, Nat.le_of_ble_eq_true rfl⟩) rfl (Nat.le_of_ble_eq_true rfl) rfl rfl rfl dX5_join_83 (kk_sI (fun v9 I9 J9 h => ?_))
      refine wm_callSN C (As := [.ref (kadr G 121), .int (iZ ((v6 * 14) + v8)), .int (iZ v9)]) (st := []) (a' := 0) (b' := 0) (host := "ShareGraph") (k_X11_add G hG 121 ((v6 * 14) + v8) v9 I9 J9 _ h) 3 gX5_join_X11_add_n55 (by decide +kernel) (by decide +kernel) (by decide +kernel) rfl (by decide +kernel) (by rw [hX]; exact ⟨Nat.le_of_ble_eq_true rfl, Nat.le_of_ble_eq_true rfl⟩) rfl (Nat.le_of_ble_eq_true rfl) rfl rfl rfl dX5_join_86 (kk_sV (fun I10 J10 h => ?_))
      refine wz_aload_n C rfl rfl dX5_join_89 ?_
      refine wz_getR C (j := 121) f_X5_join_9 (sOc hz rfl) (by decide) dX5_join_90 ?_
      refine wz_iload C rfl dX5_join_93 ?_
      refine wz_bipush C (by decide) dX5_join_95 ?_
      refine wz_imul C dX5_join_97 ?_
      refine wz_iload C rfl dX5_join_98 ?_
      refine wz_iadd C dX5_join_100 ?_
      refine wz_aload_n C rfl rfl dX5_join_101 ?_
      refine wz_getR C (j := k1 + 5) f_X5_join_52 (sOc hz (soX2_11 hk1)) (by have := gK_ge hk1; omega) dX5_join_102 ?_
      refine wz_iload C rfl dX5_join_105 ?_
      refine wm_callSN C (As := [.ref (kadr G (k1 + 5)), .int (iZ l4)]) (st := [.int (iZ ((v8 * 14) + v6)), .ref (kadr G 121)]) (a' := 0) (b' := 0) (host := "ShareGraph") (k_X11_at G hG (k1 + 5) l4 I10 J10 _ h) 2 gX5_join_X11_at_n45 (by decide +kernel) (by decide +kernel) (by decide +kernel) rfl (by decide +kernel) (by rw [hX]; exact ⟨Nat.le_of_ble_eq_true rfl, Nat.le_of_ble_eq_true rfl⟩) rfl (Nat.le_of_ble_eq_true rfl) rfl rfl rfl dX5_join_107 (kk_sI (fun v11 I11 J11 h => ?_))
      refine wm_callSN C (As := [.ref (kadr G 121), .int (iZ ((v8 * 14) + v6)), .int (iZ v11)]) (st := []) (a' := 0) (b' := 0) (host := "ShareGraph") (k_X11_add G hG 121 ((v8 * 14) + v6) v11 I11 J11 _ h) 3 gX5_join_X11_add_n55 (by decide +kernel) (by decide +kernel) (by decide +kernel) rfl (by decide +kernel) (by rw [hX]; exact ⟨Nat.le_of_ble_eq_true rfl, Nat.le_of_ble_eq_true rfl⟩) rfl (Nat.le_of_ble_eq_true rfl) rfl rfl rfl dX5_join_110 (kk_sV (fun I12 J12 h => ?_))
      refine wz_iinc_4 C rfl dX5_join_113 ?_
      refine wz_goto C dX5_join_116 (tgt := 16) (by decide) ?_
      exact Wz.drop (w16 l3 (l4 + 1) I12 J12 h) (And.intro rfl (And.intro rfl (And.intro rfl (And.intro rfl (And.intro rfl trivial)))))
set_option maxHeartbeats 4000000 in
set_option maxRecDepth 100000 in
theorem k_X5_join (G : KG) (hG : KokC G) (k1 : Nat) (k2 : Nat) (I : Ii) (J : Jj) (Q : Ii → Jj → Prop) (h : wp_X5_join k1 k2 I J Q) : Ctr G yX5_join wsX5_join rm_X5_join [.ref (kadr G 120), .ref (kadr G k1), .ref (kadr G k2)] (I, J) (QsV Q) := by
  unfold wp_X5_join at h
  obtain ⟨hk1, h⟩ := h
  obtain ⟨hk2, h⟩ := h
  refine Ctr.ofZ (cc := cX5_join) (nL := 7) (ret := none) [some (.ref (kadr G 120)), some (.ref (kadr G k1)), some (.ref (kadr G k2)), none, none, none, none] hG.1 (by decide +kernel) rfl (Nat.le_of_ble_eq_true rfl) (Nat.le_of_ble_eq_true rfl) (by simp [lvA, lv_args, Value.category]) ?_
  intro X hX C
  have hz := hG.2
  refine wz_aload_n C rfl rfl dX5_join_0 ?_
  refine wz_getR C (j := 121) f_X5_join_9 (sOc hz rfl) (by decide) dX5_join_1 ?_
  refine wz_iconst C dX5_join_4 ?_
  refine wm_callSo C (As := [.ref (kadr G 121), .int (iZ 0)]) (st := []) (a' := 0) (b' := 0) (k_J7_fill_53178 G hG 121 0 I J _ h) 2 (goodIn_wsS gX5_join_J7_fill_53178) (by decide +kernel) (by decide +kernel) (by decide +kernel) rfl (by decide +kernel) (by rw [hX]; exact ⟨Nat.le_of_ble_eq_true rfl, Nat.le_of_ble_eq_true rfl⟩) rfl (Nat.le_of_ble_eq_true rfl) rfl rfl rfl dX5_join_5 (kk_sV (fun I1 J1 h => ?_))
  refine wz_aload_n C rfl rfl dX5_join_8 ?_
  refine wm_callV C (o := k2) (As := []) (st := []) (a' := 0) (b' := 0) (shK_c hz (spX8 hk2)) rfl (k_X8_groupRow G hG k2 I1 J1 _ h) 0 gX5_join_X8_groupRow rfl (by decide +kernel) (by rw [hX]; exact ⟨Nat.le_of_ble_eq_true rfl, Nat.le_of_ble_eq_true rfl⟩) rfl (Nat.le_of_ble_eq_true rfl) rfl rfl rfl dX5_join_9 (kk_sI (fun v2 I2 J2 h => ?_))
  refine wz_istore_3 C rfl dX5_join_12 ?_
  refine wz_iconst C dX5_join_13 ?_
  refine wz_istore_4 C rfl dX5_join_14 ?_
  obtain ⟨n, h⟩ := h
  exact lk_X5_join_16 G hG X hX C k1 k2 hk1 hk2 Q n v2 0 I2 J2 h
theorem in_X5_mateBehind_X4 : ∀ w ∈ wsX40, w ∈ wsX5_mateBehind := by decide +kernel
theorem in_X5_mateBehind_X5 : ∀ w ∈ wsX50, w ∈ wsX5_mateBehind := by decide +kernel
theorem f_X5_mateBehind_63 : FLk wsX5_mateBehind RX5 63 7 0 := flk 7 0 rfl tyX4_ok nmX4 in_X5_mateBehind_X4 (by decide) (by decide +kernel)
theorem f_X5_mateBehind_75 : FLk wsX5_mateBehind RX5 75 7 7 := flk 7 7 rfl tyX4_ok nmX4 in_X5_mateBehind_X4 (by decide) (by decide +kernel)
theorem f_X5_mateBehind_15 : FLk wsX5_mateBehind RX5 15 8 1 := flk 8 1 rfl tyX5_ok nmX5 in_X5_mateBehind_X5 (by decide) (by decide +kernel)
theorem f_X5_mateBehind_78 : FLk wsX5_mateBehind RX5 78 7 8 := flk 7 8 rfl tyX4_ok nmX4 in_X5_mateBehind_X4 (by decide) (by decide +kernel)
theorem f_X5_mateBehind_81 : FLk wsX5_mateBehind RX5 81 7 2 := flk 7 2 rfl tyX4_ok nmX4 in_X5_mateBehind_X4 (by decide) (by decide +kernel)
theorem f_X5_mateBehind_9 : FLk wsX5_mateBehind RX5 9 8 0 := flk 8 0 rfl tyX5_ok nmX5 in_X5_mateBehind_X5 (by decide) (by decide +kernel)
def rm_X5_mateBehind : Room := { frames := 1, cells := 0, slots := 0, locals := 21 }
set_option maxHeartbeats 4000000 in
set_option maxRecDepth 100000 in
theorem lk_X5_mateBehind_10 (G : KG) (hG : KokC G) (X : KX) (hX : KR X = rm_X5_mateBehind) (C : Fr G X cX5_mateBehind 7 yX5_mateBehind.cls (some .int) wsX5_mateBehind) (l1 : Int) (Q : Int → Ii → Jj → Prop) : ∀ (n : Nat) (l3 : Int) (l4 : Int) (l5 : Int) (I : Ii) (J : Jj), L_X5_mateBehind_10 l1 Q n l3 l4 l5 I J → Wz G X 7 (QsU G X (QsI Q)) 0 0 10 [some (.ref (kadr G 120)), some (.int (iZ l1)), some (.ref (kadr G 113)), some (.int (iZ l3)), some (.int (iZ l4)), some (.int (iZ l5)), none] [] I J := by
  have hz := hG.2
  intro n
  induction n with
  | zero => intro l3 l4 l5 I J h; exact False.elim h
  | succ n w10 =>
    intro l3 l4 l5 I J h
    have h : Lb_X5_mateBehind_10 l1 Q (L_X5_mateBehind_10 l1 Q n) l3 l4 l5 I J := h
    unfold Lb_X5_mateBehind_10 at h
    generalize L_X5_mateBehind_10 l1 Q n = r10 at h w10
    refine wz_iload C rfl dX5_mateBehind_10 ?_
    refine wz_aload_n C rfl rfl dX5_mateBehind_12 ?_
    refine wz_getI C rfl f_X5_mateBehind_63 (sOc hz rfl) dX5_mateBehind_13 ?_
    obtain ⟨g1, h⟩ := h
    obtain ⟨g2, h⟩ := h
    refine wz_icmp_ge C (tgt := 125) g1 g2 dX5_mateBehind_16 (by decide) (fun c => ?_) (fun c => ?_)
    · replace h := h.1 c
      refine wz_iload_n C rfl rfl dX5_mateBehind_125 ?_
      exact wz_iret C dX5_mateBehind_126 ⟨_, rfl, h⟩
    · replace h := h.2 c
      refine wz_aload_n C rfl rfl dX5_mateBehind_19 ?_
      refine wz_getR C (j := 115) f_X5_mateBehind_75 (sOc hz rfl) (by decide) dX5_mateBehind_20 ?_
      refine wz_iload_n C rfl rfl dX5_mateBehind_23 ?_
      refine wm_callSN C (As := [.ref (kadr G 115), .int (iZ l1)]) (st := []) (a' := 0) (b' := 0) (host := "ShareGraph") (k_X11_at G hG 115 l1 I J _ h) 2 gX5_mateBehind_X11_at_n45 (by decide +kernel) (by decide +kernel) (by decide +kernel) rfl (by decide +kernel) (by rw [hX]; exact ⟨Nat.le_of_ble_eq_true rfl, Nat.le_of_ble_eq_true rfl⟩) rfl (Nat.le_of_ble_eq_true rfl) rfl rfl rfl dX5_mateBehind_24 (kk_sI (fun v3 I3 J3 h => ?_))
      refine wz_aload_n C rfl rfl dX5_mateBehind_27 ?_
      refine wz_getR C (j := 115) f_X5_mateBehind_75 (sOc hz rfl) (by decide) dX5_mateBehind_28 ?_
      refine wz_iload C rfl dX5_mateBehind_31 ?_
      refine wm_callSN C (As := [.ref (kadr G 115), .int (iZ l5)]) (st := [.int (iZ v3)]) (a' := 0) (b' := 0) (host := "ShareGraph") (k_X11_at G hG 115 l5 I3 J3 _ h) 2 gX5_mateBehind_X11_at_n45 (by decide +kernel) (by decide +kernel) (by decide +kernel) rfl (by decide +kernel) (by rw [hX]; exact ⟨Nat.le_of_ble_eq_true rfl, Nat.le_of_ble_eq_true rfl⟩) rfl (Nat.le_of_ble_eq_true rfl) rfl rfl rfl dX5_mateBehind_33 (kk_sI (fun v4 I4 J4 h => ?_))
      refine wz_iadd C dX5_mateBehind_36 ?_
      refine wz_istore_6 C rfl dX5_mateBehind_37 ?_
      refine wz_aload_n C rfl rfl dX5_mateBehind_39 ?_
      refine wz_getR C (j := 122) f_X5_mateBehind_15 (sOc hz rfl) (by decide) dX5_mateBehind_40 ?_
      refine wz_iload C rfl dX5_mateBehind_43 ?_
      refine wm_callSN C (As := [.ref (kadr G 122), .int (iZ l5)]) (st := []) (a' := 0) (b' := 0) (host := "ShareGraph") (k_X11_at G hG 122 l5 I4 J4 _ h) 2 gX5_mateBehind_X11_at_n45 (by decide +kernel) (by decide +kernel) (by decide +kernel) rfl (by decide +kernel) (by rw [hX]; exact ⟨Nat.le_of_ble_eq_true rfl, Nat.le_of_ble_eq_true rfl⟩) rfl (Nat.le_of_ble_eq_true rfl) rfl rfl rfl dX5_mateBehind_45 (kk_sI (fun v5 I5 J5 h => ?_))
      refine wz_iconst C dX5_mateBehind_48 ?_
      obtain ⟨g6, h⟩ := h
      refine wz_icmp_ne C (tgt := 119) g6 (by decide) dX5_mateBehind_49 (by decide) (fun c => ?_) (fun c => ?_)
      · replace h := h.1 c
        refine wz_iinc_5 C rfl dX5_mateBehind_119 ?_
        refine wz_goto C dX5_mateBehind_122 (tgt := 10) (by decide) ?_
        exact Wz.drop (w10 l3 l4 (l5 + 1) I5 J5 h) (And.intro rfl (And.intro rfl (And.intro rfl (And.intro rfl (And.intro rfl (And.intro rfl trivial))))))
      · replace h := h.2 c
        refine wz_aload_n C rfl rfl dX5_mateBehind_52 ?_
        refine wz_getR C (j := 116) f_X5_mateBehind_78 (sOc hz rfl) (by decide) dX5_mateBehind_53 ?_
        refine wz_iload C rfl dX5_mateBehind_56 ?_
        refine wm_callSN C (As := [.ref (kadr G 116), .int (iZ l5)]) (st := []) (a' := 0) (b' := 0) (host := "ShareGraph") (k_X11_at G hG 116 l5 I5 J5 _ h) 2 gX5_mateBehind_X11_at_n45 (by decide +kernel) (by decide +kernel) (by decide +kernel) rfl (by decide +kernel) (by rw [hX]; exact ⟨Nat.le_of_ble_eq_true rfl, Nat.le_of_ble_eq_true rfl⟩) rfl (Nat.le_of_ble_eq_true rfl) rfl rfl rfl dX5_mateBehind_58 (kk_sI (fun v7 I7 J7 h => ?_))
        refine wz_aload_n C rfl rfl dX5_mateBehind_61 ?_
        refine wz_getR C (j := 116) f_X5_mateBehind_78 (sOc hz rfl) (by decide) dX5_mateBehind_62 ?_
        refine wz_iload_n C rfl rfl dX5_mateBehind_65 ?_
        refine wm_callSN C (As := [.ref (kadr G 116), .int (iZ l1)]) (st := [.int (iZ v7)]) (a' := 0) (b' := 0) (host := "ShareGraph") (k_X11_at G hG 116 l1 I7 J7 _ h) 2 gX5_mateBehind_X11_at_n45 (by decide +kernel) (by decide +kernel) (by decide +kernel) rfl (by decide +kernel) (by rw [hX]; exact ⟨Nat.le_of_ble_eq_true rfl, Nat.le_of_ble_eq_true rfl⟩) rfl (Nat.le_of_ble_eq_true rfl) rfl rfl rfl dX5_mateBehind_66 (kk_sI (fun v8 I8 J8 h => ?_))
        obtain ⟨g9, h⟩ := h
        obtain ⟨g10, h⟩ := h
        refine wz_icmp_ne C (tgt := 119) g9 g10 dX5_mateBehind_69 (by decide) (fun c => ?_) (fun c => ?_)
        · replace h := h.1 c
          refine wz_iinc_5 C rfl dX5_mateBehind_119 ?_
          refine wz_goto C dX5_mateBehind_122 (tgt := 10) (by decide) ?_
          exact Wz.drop (w10 l3 l4 (l5 + 1) I8 J8 h) (And.intro rfl (And.intro rfl (And.intro rfl (And.intro rfl (And.intro rfl (And.intro rfl trivial))))))
        · replace h := h.2 c
          refine wz_iload C rfl dX5_mateBehind_72 ?_
          refine wz_aload_n C rfl rfl dX5_mateBehind_74 ?_
          refine wz_getI C rfl f_X5_mateBehind_81 (sOc hz rfl) dX5_mateBehind_75 ?_
          obtain ⟨g11, h⟩ := h
          obtain ⟨g12, h⟩ := h
          refine wz_icmp_gt C (tgt := 119) g11 g12 dX5_mateBehind_78 (by decide) (fun c => ?_) (fun c => ?_)
          · replace h := h.1 c
            refine wz_iinc_5 C rfl dX5_mateBehind_119 ?_
            refine wz_goto C dX5_mateBehind_122 (tgt := 10) (by decide) ?_
            exact Wz.drop (w10 l3 l4 (l5 + 1) I8 J8 h) (And.intro rfl (And.intro rfl (And.intro rfl (And.intro rfl (And.intro rfl (And.intro rfl trivial))))))
          · replace h := h.2 c
            refine wz_aload_n C rfl rfl dX5_mateBehind_81 ?_
            refine wz_getR C (j := 121) f_X5_mateBehind_9 (sOc hz rfl) (by decide) dX5_mateBehind_82 ?_
            refine wz_iload_n C rfl rfl dX5_mateBehind_85 ?_
            refine wz_bipush C (by decide) dX5_mateBehind_86 ?_
            refine wz_imul C dX5_mateBehind_88 ?_
            refine wz_iload C rfl dX5_mateBehind_89 ?_
            refine wz_iadd C dX5_mateBehind_91 ?_
            refine wm_callSN C (As := [.ref (kadr G 121), .int (iZ ((l1 * 14) + l5))]) (st := []) (a' := 0) (b' := 0) (host := "ShareGraph") (k_X11_at G hG 121 ((l1 * 14) + l5) I8 J8 _ h) 2 gX5_mateBehind_X11_at_n45 (by decide +kernel) (by decide +kernel) (by decide +kernel) rfl (by decide +kernel) (by rw [hX]; exact ⟨Nat.le_of_ble_eq_true rfl, Nat.le_of_ble_eq_true rfl⟩) rfl (Nat.le_of_ble_eq_true rfl) rfl rfl rfl dX5_mateBehind_92 (kk_sI (fun v13 I13 J13 h => ?_))
            refine wz_iload C rfl dX5_mateBehind_95 ?_
            obtain ⟨g14, h⟩ := h
            obtain ⟨g15, h⟩ := h
            refine wz_icmp_le C (tgt := 119) g14 g15 dX5_mateBehind_97 (by decide) (fun c => ?_) (fun c => ?_)
            · replace h := h.1 c
              refine wz_iinc_5 C rfl dX5_mateBehind_119 ?_
              refine wz_goto C dX5_mateBehind_122 (tgt := 10) (by decide) ?_
              exact Wz.drop (w10 l3 l4 (l5 + 1) I13 J13 h) (And.intro rfl (And.intro rfl (And.intro rfl (And.intro rfl (And.intro rfl (And.intro rfl trivial))))))
            · replace h := h.2 c
              refine wz_iload C rfl dX5_mateBehind_100 ?_
              refine wz_istore_3 C rfl dX5_mateBehind_102 ?_
              refine wz_aload_n C rfl rfl dX5_mateBehind_103 ?_
              refine wz_getR C (j := 121) f_X5_mateBehind_9 (sOc hz rfl) (by decide) dX5_mateBehind_104 ?_
              refine wz_iload_n C rfl rfl dX5_mateBehind_107 ?_
              refine wz_bipush C (by decide) dX5_mateBehind_108 ?_
              refine wz_imul C dX5_mateBehind_110 ?_
              refine wz_iload C rfl dX5_mateBehind_111 ?_
              refine wz_iadd C dX5_mateBehind_113 ?_
              refine wm_callSN C (As := [.ref (kadr G 121), .int (iZ ((l1 * 14) + l5))]) (st := []) (a' := 0) (b' := 0) (host := "ShareGraph") (k_X11_at G hG 121 ((l1 * 14) + l5) I13 J13 _ h) 2 gX5_mateBehind_X11_at_n45 (by decide +kernel) (by decide +kernel) (by decide +kernel) rfl (by decide +kernel) (by rw [hX]; exact ⟨Nat.le_of_ble_eq_true rfl, Nat.le_of_ble_eq_true rfl⟩) rfl (Nat.le_of_ble_eq_true rfl) rfl rfl rfl dX5_mateBehind_114 (kk_sI (fun v16 I16 J16 h => ?_))
              refine wz_istore_4 C rfl dX5_mateBehind_117 ?_
              refine wz_iinc_5 C rfl dX5_mateBehind_119 ?_
              refine wz_goto C dX5_mateBehind_122 (tgt := 10) (by decide) ?_
              exact Wz.drop (w10 l5 v16 (l5 + 1) I16 J16 h) (And.intro rfl (And.intro rfl (And.intro rfl (And.intro rfl (And.intro rfl (And.intro rfl trivial))))))
set_option maxHeartbeats 4000000 in
set_option maxRecDepth 100000 in
theorem k_X5_mateBehind (G : KG) (hG : KokC G) (l1 : Int) (I : Ii) (J : Jj) (Q : Int → Ii → Jj → Prop) (h : wp_X5_mateBehind l1 I J Q) : Ctr G yX5_mateBehind wsX5_mateBehind rm_X5_mateBehind [.ref (kadr G 120), .int (iZ l1), .ref (kadr G 113)] (I, J) (QsI Q) := by
  unfold wp_X5_mateBehind at h
  skip
  refine Ctr.ofZ (cc := cX5_mateBehind) (nL := 7) (ret := (some .int)) [some (.ref (kadr G 120)), some (.int (iZ l1)), some (.ref (kadr G 113)), none, none, none, none] hG.1 (by decide +kernel) rfl (Nat.le_of_ble_eq_true rfl) (Nat.le_of_ble_eq_true rfl) (by simp [lvA, lv_args, Value.category]) ?_
  intro X hX C
  have hz := hG.2
  refine wz_iconst C dX5_mateBehind_0 ?_
  refine wz_istore_3 C rfl dX5_mateBehind_1 ?_
  refine wz_iconst C dX5_mateBehind_2 ?_
  refine wz_istore_4 C rfl dX5_mateBehind_3 ?_
  refine wz_iload_n C rfl rfl dX5_mateBehind_5 ?_
  refine wz_iconst C dX5_mateBehind_6 ?_
  refine wz_iadd C dX5_mateBehind_7 ?_
  refine wz_istore_5 C rfl dX5_mateBehind_8 ?_
  obtain ⟨n, h⟩ := h
  exact lk_X5_mateBehind_10 G hG X hX C l1 Q n (-1) 0 (l1 + 1) I J h
theorem in_X5_numberMerged_X4 : ∀ w ∈ wsX40, w ∈ wsX5_numberMerged := by decide +kernel
theorem in_X5_numberMerged_X5 : ∀ w ∈ wsX50, w ∈ wsX5_numberMerged := by decide +kernel
theorem f_X5_numberMerged_84 : FLk wsX5_numberMerged RX5 84 8 3 := flk 8 3 rfl tyX5_ok nmX5 in_X5_numberMerged_X5 (by decide) (by decide +kernel)
theorem fp_X5_3 : FPk 8 3 .int := fun C9 T9 N9 h => by
  have h : some (RX5, TX5, 5) = some (C9, T9, N9) := h
  cases h
  exact ⟨rfl, by decide +kernel⟩
theorem f_X5_numberMerged_63 : FLk wsX5_numberMerged RX5 63 7 0 := flk 7 0 rfl tyX4_ok nmX4 in_X5_numberMerged_X4 (by decide) (by decide +kernel)
theorem f_X5_numberMerged_15 : FLk wsX5_numberMerged RX5 15 8 1 := flk 8 1 rfl tyX5_ok nmX5 in_X5_numberMerged_X5 (by decide) (by decide +kernel)
theorem f_X5_numberMerged_18 : FLk wsX5_numberMerged RX5 18 8 2 := flk 8 2 rfl tyX5_ok nmX5 in_X5_numberMerged_X5 (by decide) (by decide +kernel)
def rm_X5_numberMerged : Room := { frames := 1, cells := 0, slots := 0, locals := 22 }
set_option maxHeartbeats 4000000 in
set_option maxRecDepth 100000 in
theorem bk_X5_numberMerged_53 (G : KG) (hG : KokC G) (X : KX) (hX : KR X = rm_X5_numberMerged) (C : Fr G X cX5_numberMerged 4 yX5_numberMerged.cls none wsX5_numberMerged) (Q : Ii → Jj → Prop) (r7 : Int → Ii → Jj → Prop) (w7 : ∀ (l2 : Int) (I : Ii) (J : Jj), r7 l2 I J → Wz G X 4 (QsU G X (QsV Q)) 0 0 7 [some (.ref (kadr G 120)), some (.ref (kadr G 113)), some (.int (iZ l2)), none] [] I J) (l2 : Int) (I : Ii) (J : Jj) (h : B_X5_numberMerged_53 Q r7 l2 I J)   : Wz G X 4 (QsU G X (QsV Q)) 0 0 53 [some (.ref (kadr G 120)), some (.ref (kadr G 113)), some (.int (iZ l2)), none] [] I J := by
  have hz := hG.2
  unfold B_X5_numberMerged_53 at h
  refine wz_aload_n C rfl rfl dX5_numberMerged_53 ?_
  refine wz_getR C (j := 123) f_X5_numberMerged_18 (sOc hz rfl) (by decide) dX5_numberMerged_54 ?_
  refine wz_iload_n C rfl rfl dX5_numberMerged_57 ?_
  refine wz_aload_n C rfl rfl dX5_numberMerged_58 ?_
  refine wz_getI C rfl f_X5_numberMerged_84 (sOc hz rfl) dX5_numberMerged_59 ?_
  refine wm_callSN C (As := [.ref (kadr G 123), .int (iZ l2), .int (iZ (I 120 3))]) (st := []) (a' := 0) (b' := 0) (host := "ShareGraph") (k_X11_put G hG 123 l2 (I 120 3) I J _ h) 3 gX5_numberMerged_X11_put_n72 (by decide +kernel) (by decide +kernel) (by decide +kernel) rfl (by decide +kernel) (by rw [hX]; exact ⟨Nat.le_of_ble_eq_true rfl, Nat.le_of_ble_eq_true rfl⟩) rfl (Nat.le_of_ble_eq_true rfl) rfl rfl rfl dX5_numberMerged_62 (kk_sV (fun I9 J9 h => ?_))
  refine wz_aload_n C rfl rfl dX5_numberMerged_65 ?_
  refine wz_dup C rfl dX5_numberMerged_66 ?_
  refine wz_getI C rfl f_X5_numberMerged_84 (sOc hz rfl) dX5_numberMerged_67 ?_
  refine wz_iconst C dX5_numberMerged_70 ?_
  refine wz_iadd C dX5_numberMerged_71 ?_
  refine wd_putI C f_X5_numberMerged_84 fp_X5_3 (sOc hz rfl) dX5_numberMerged_72 (fun I10 e => ?_)
  replace h := h I10 e
  refine wz_iinc_2 C rfl dX5_numberMerged_75 ?_
  refine wz_goto C dX5_numberMerged_78 (tgt := 7) (by decide) ?_
  exact w7 (l2 + 1) I10 J9 h
set_option maxHeartbeats 4000000 in
set_option maxRecDepth 100000 in
theorem lk_X5_numberMerged_7 (G : KG) (hG : KokC G) (X : KX) (hX : KR X = rm_X5_numberMerged) (C : Fr G X cX5_numberMerged 4 yX5_numberMerged.cls none wsX5_numberMerged) (Q : Ii → Jj → Prop) : ∀ (n : Nat) (l2 : Int) (I : Ii) (J : Jj), L_X5_numberMerged_7 Q n l2 I J → Wz G X 4 (QsU G X (QsV Q)) 0 0 7 [some (.ref (kadr G 120)), some (.ref (kadr G 113)), some (.int (iZ l2)), none] [] I J := by
  have hz := hG.2
  intro n
  induction n with
  | zero => intro l2 I J h; exact False.elim h
  | succ n w7 =>
    intro l2 I J h
    have h : Lb_X5_numberMerged_7 Q (L_X5_numberMerged_7 Q n) l2 I J := h
    unfold Lb_X5_numberMerged_7 at h
    generalize L_X5_numberMerged_7 Q n = r7 at h w7
    refine wz_iload_n C rfl rfl dX5_numberMerged_7 ?_
    refine wz_aload_n C rfl rfl dX5_numberMerged_8 ?_
    refine wz_getI C rfl f_X5_numberMerged_63 (sOc hz rfl) dX5_numberMerged_9 ?_
    obtain ⟨g2, h⟩ := h
    obtain ⟨g3, h⟩ := h
    refine wz_icmp_ge C (tgt := 81) g2 g3 dX5_numberMerged_12 (by decide) (fun c => ?_) (fun c => ?_)
    · replace h := h.1 c
      exact wz_vret C dX5_numberMerged_81 ⟨rfl, h⟩
    · replace h := h.2 c
      refine wz_aload_n C rfl rfl dX5_numberMerged_15 ?_
      refine wz_getR C (j := 122) f_X5_numberMerged_15 (sOc hz rfl) (by decide) dX5_numberMerged_16 ?_
      refine wz_iload_n C rfl rfl dX5_numberMerged_19 ?_
      refine wm_callSN C (As := [.ref (kadr G 122), .int (iZ l2)]) (st := []) (a' := 0) (b' := 0) (host := "ShareGraph") (k_X11_at G hG 122 l2 I J _ h) 2 gX5_numberMerged_X11_at_n45 (by decide +kernel) (by decide +kernel) (by decide +kernel) rfl (by decide +kernel) (by rw [hX]; exact ⟨Nat.le_of_ble_eq_true rfl, Nat.le_of_ble_eq_true rfl⟩) rfl (Nat.le_of_ble_eq_true rfl) rfl rfl rfl dX5_numberMerged_20 (kk_sI (fun v4 I4 J4 h => ?_))
      refine wz_istore_3 C rfl dX5_numberMerged_23 ?_
      refine wz_iload_n C rfl rfl dX5_numberMerged_24 ?_
      refine wz_iconst C dX5_numberMerged_25 ?_
      obtain ⟨g5, h⟩ := h
      refine wz_icmp_eq C (tgt := 53) g5 (by decide) dX5_numberMerged_26 (by decide) (fun c => ?_) (fun c => ?_)
      · replace h := h.1 c
        exact Wz.drop (bk_X5_numberMerged_53 G hG X hX C Q r7 w7 l2 I4 J4 h) (And.intro rfl (And.intro rfl (And.intro rfl trivial)))
      · replace h := h.2 c
        refine wz_iload_n C rfl rfl dX5_numberMerged_29 ?_
        refine wz_iload_n C rfl rfl dX5_numberMerged_30 ?_
        obtain ⟨g6, h⟩ := h
        refine wz_icmp_ge C (tgt := 53) g5 g6 dX5_numberMerged_31 (by decide) (fun c => ?_) (fun c => ?_)
        · replace h := h.1 c
          exact Wz.drop (bk_X5_numberMerged_53 G hG X hX C Q r7 w7 l2 I4 J4 h) (And.intro rfl (And.intro rfl (And.intro rfl trivial)))
        · replace h := h.2 c
          refine wz_aload_n C rfl rfl dX5_numberMerged_34 ?_
          refine wz_getR C (j := 123) f_X5_numberMerged_18 (sOc hz rfl) (by decide) dX5_numberMerged_35 ?_
          refine wz_iload_n C rfl rfl dX5_numberMerged_38 ?_
          refine wz_aload_n C rfl rfl dX5_numberMerged_39 ?_
          refine wz_getR C (j := 123) f_X5_numberMerged_18 (sOc hz rfl) (by decide) dX5_numberMerged_40 ?_
          refine wz_iload_n C rfl rfl dX5_numberMerged_43 ?_
          refine wm_callSN C (As := [.ref (kadr G 123), .int (iZ v4)]) (st := [.int (iZ l2), .ref (kadr G 123)]) (a' := 0) (b' := 0) (host := "ShareGraph") (k_X11_at G hG 123 v4 I4 J4 _ h) 2 gX5_numberMerged_X11_at_n45 (by decide +kernel) (by decide +kernel) (by decide +kernel) rfl (by decide +kernel) (by rw [hX]; exact ⟨Nat.le_of_ble_eq_true rfl, Nat.le_of_ble_eq_true rfl⟩) rfl (Nat.le_of_ble_eq_true rfl) rfl rfl rfl dX5_numberMerged_44 (kk_sI (fun v7 I7 J7 h => ?_))
          refine wm_callSN C (As := [.ref (kadr G 123), .int (iZ l2), .int (iZ v7)]) (st := []) (a' := 0) (b' := 0) (host := "ShareGraph") (k_X11_put G hG 123 l2 v7 I7 J7 _ h) 3 gX5_numberMerged_X11_put_n72 (by decide +kernel) (by decide +kernel) (by decide +kernel) rfl (by decide +kernel) (by rw [hX]; exact ⟨Nat.le_of_ble_eq_true rfl, Nat.le_of_ble_eq_true rfl⟩) rfl (Nat.le_of_ble_eq_true rfl) rfl rfl rfl dX5_numberMerged_47 (kk_sV (fun I8 J8 h => ?_))
          refine wz_goto C dX5_numberMerged_50 (tgt := 75) (by decide) ?_
          refine wz_iinc_2 C rfl dX5_numberMerged_75 ?_
          refine wz_goto C dX5_numberMerged_78 (tgt := 7) (by decide) ?_
          exact Wz.drop (w7 (l2 + 1) I8 J8 h) (And.intro rfl (And.intro rfl (And.intro rfl trivial)))
set_option maxHeartbeats 4000000 in
set_option maxRecDepth 100000 in
theorem k_X5_numberMerged (G : KG) (hG : KokC G) (I : Ii) (J : Jj) (Q : Ii → Jj → Prop) (h : wp_X5_numberMerged I J Q) : Ctr G yX5_numberMerged wsX5_numberMerged rm_X5_numberMerged [.ref (kadr G 120), .ref (kadr G 113)] (I, J) (QsV Q) := by
  unfold wp_X5_numberMerged at h
  skip
  refine Ctr.ofZ (cc := cX5_numberMerged) (nL := 4) (ret := none) [some (.ref (kadr G 120)), some (.ref (kadr G 113)), none, none] hG.1 (by decide +kernel) rfl (Nat.le_of_ble_eq_true rfl) (Nat.le_of_ble_eq_true rfl) (by simp [lvA, lv_args, Value.category]) ?_
  intro X hX C
  have hz := hG.2
  refine wz_aload_n C rfl rfl dX5_numberMerged_0 ?_
  refine wz_iconst C dX5_numberMerged_1 ?_
  refine wd_putI C f_X5_numberMerged_84 fp_X5_3 (sOc hz rfl) dX5_numberMerged_2 (fun I1 e => ?_)
  replace h := h I1 e
  refine wz_iconst C dX5_numberMerged_5 ?_
  refine wz_istore_2 C rfl dX5_numberMerged_6 ?_
  obtain ⟨n, h⟩ := h
  exact lk_X5_numberMerged_7 G hG X hX C Q n 0 I1 J h
theorem in_X8_start_X2 : ∀ w ∈ wsX20, w ∈ wsX8_start := by decide +kernel
theorem in_X8_start_X8 : ∀ w ∈ wsX80, w ∈ wsX8_start := by decide +kernel
theorem f_X8_start_24 : FLk wsX8_start RX8 24 11 0 := flk 11 0 rfl tyX8_ok nmX8 in_X8_start_X8 (by decide) (by decide +kernel)
theorem fp_X8_0 : FPk 11 0 .int := fun C9 T9 N9 h => by
  have h : some (RX8, TX8, 7) = some (C9, T9, N9) := h
  cases h
  exact ⟨rfl, by decide +kernel⟩
theorem f_X8_start_28 : FLk wsX8_start RX8 28 5 4 := flk 5 4 rfl tyX2_ok nmX2 in_X8_start_X2 (by decide) (by decide +kernel)
theorem f_X8_start_33 : FLk wsX8_start RX8 33 11 1 := flk 11 1 rfl tyX8_ok nmX8 in_X8_start_X8 (by decide) (by decide +kernel)
theorem fp_X8_1 : FPk 11 1 .int := fun C9 T9 N9 h => by
  have h : some (RX8, TX8, 7) = some (C9, T9, N9) := h
  cases h
  exact ⟨rfl, by decide +kernel⟩
theorem f_X8_start_34 : FLk wsX8_start RX8 34 11 2 := flk 11 2 rfl tyX8_ok nmX8 in_X8_start_X8 (by decide) (by decide +kernel)
theorem fp_X8_2 : FPk 11 2 .int := fun C9 T9 N9 h => by
  have h : some (RX8, TX8, 7) = some (C9, T9, N9) := h
  cases h
  exact ⟨rfl, by decide +kernel⟩
theorem f_X8_start_9 : FLk wsX8_start RX8 9 11 3 := flk 11 3 rfl tyX8_ok nmX8 in_X8_start_X8 (by decide) (by decide +kernel)
theorem f_X8_start_15 : FLk wsX8_start RX8 15 11 4 := flk 11 4 rfl tyX8_ok nmX8 in_X8_start_X8 (by decide) (by decide +kernel)
theorem f_X8_start_43 : FLk wsX8_start RX8 43 5 0 := flk 5 0 rfl tyX2_ok nmX2 in_X8_start_X2 (by decide) (by decide +kernel)
theorem f_X8_start_18 : FLk wsX8_start RX8 18 11 5 := flk 11 5 rfl tyX8_ok nmX8 in_X8_start_X8 (by decide) (by decide +kernel)
def rm_X8_start : Room := { frames := 1, cells := 0, slots := 0, locals := 23 }
set_option maxHeartbeats 4000000 in
set_option maxRecDepth 100000 in
theorem lk_X8_start_40 (G : KG) (hG : KokC G) (X : KX) (hX : KR X = rm_X8_start) (C : Fr G X cX8_start 3 yX8_start.cls none wsX8_start) (k0 : Nat) (k1 : Nat) (hk0 : sK k0) (hk1 : gK k1) (Q : Ii → Jj → Prop) : ∀ (n : Nat) (l2 : Int) (I : Ii) (J : Jj), L_X8_start_40 k0 k1 Q n l2 I J → Wz G X 3 (QsU G X (QsV Q)) 0 0 40 [some (.ref (kadr G k0)), some (.ref (kadr G k1)), some (.int (iZ l2))] [] I J := by
  have hz := hG.2
  intro n
  induction n with
  | zero => intro l2 I J h; exact False.elim h
  | succ n w40 =>
    intro l2 I J h
    have h : Lb_X8_start_40 k0 k1 Q (L_X8_start_40 k0 k1 Q n) l2 I J := h
    unfold Lb_X8_start_40 at h
    generalize L_X8_start_40 k0 k1 Q n = r40 at h w40
    refine wz_iload_n C rfl rfl dX8_start_40 ?_
    refine wz_aload_n C rfl rfl dX8_start_41 ?_
    refine wz_getI C rfl f_X8_start_43 (sOc hz (soX2_0 hk1)) dX8_start_42 ?_
    obtain ⟨g6, h⟩ := h
    obtain ⟨g7, h⟩ := h
    refine wz_icmp_ge C (tgt := 63) g6 g7 dX8_start_45 (by decide) (fun c => ?_) (fun c => ?_)
    · replace h := h.1 c
      exact wz_vret C dX8_start_63 ⟨rfl, h⟩
    · replace h := h.2 c
      refine wz_aload_n C rfl rfl dX8_start_48 ?_
      refine wz_getR C (j := k0 + 3) f_X8_start_18 (sOc hz (soX8_5 hk0)) (by have := sK_ge hk0; omega) dX8_start_49 ?_
      refine wz_iload_n C rfl rfl dX8_start_52 ?_
      refine wz_iload_n C rfl rfl dX8_start_53 ?_
      refine wm_callSN C (As := [.ref (kadr G (k0 + 3)), .int (iZ l2), .int (iZ l2)]) (st := []) (a' := 0) (b' := 0) (host := "ShareGraph") (k_X11_put G hG (k0 + 3) l2 l2 I J _ h) 3 gX8_start_X11_put_n46 (by decide +kernel) (by decide +kernel) (by decide +kernel) rfl (by decide +kernel) (by rw [hX]; exact ⟨Nat.le_of_ble_eq_true rfl, Nat.le_of_ble_eq_true rfl⟩) rfl (Nat.le_of_ble_eq_true rfl) rfl rfl rfl dX8_start_54 (kk_sV (fun I8 J8 h => ?_))
      refine wz_iinc_2 C rfl dX8_start_57 ?_
      refine wz_goto C dX8_start_60 (tgt := 40) (by decide) ?_
      exact w40 (l2 + 1) I8 J8 h
set_option maxHeartbeats 4000000 in
set_option maxRecDepth 100000 in
theorem k_X8_start (G : KG) (hG : KokC G) (k0 : Nat) (k1 : Nat) (I : Ii) (J : Jj) (Q : Ii → Jj → Prop) (h : wp_X8_start k0 k1 I J Q) : Ctr G yX8_start wsX8_start rm_X8_start [.ref (kadr G k0), .ref (kadr G k1)] (I, J) (QsV Q) := by
  unfold wp_X8_start at h
  obtain ⟨hk0, h⟩ := h
  obtain ⟨hk1, h⟩ := h
  refine Ctr.ofZ (cc := cX8_start) (nL := 3) (ret := none) [some (.ref (kadr G k0)), some (.ref (kadr G k1)), none] hG.1 (by decide +kernel) rfl (Nat.le_of_ble_eq_true rfl) (Nat.le_of_ble_eq_true rfl) (by simp [lvA, lv_args, Value.category]) ?_
  intro X hX C
  have hz := hG.2
  refine wz_aload_n C rfl rfl dX8_start_0 ?_
  refine wz_iconst C dX8_start_1 ?_
  refine wd_putI C f_X8_start_24 fp_X8_0 (sOc hz (soX8_0 hk0)) dX8_start_2 (fun I1 e => ?_)
  replace h := h I1 e
  refine wz_aload_n C rfl rfl dX8_start_5 ?_
  refine wz_aload_n C rfl rfl dX8_start_6 ?_
  refine wz_getI C rfl f_X8_start_28 (sOc hz (soX2_4 hk1)) dX8_start_7 ?_
  refine wd_putI C f_X8_start_33 fp_X8_1 (sOc hz (soX8_1 hk0)) dX8_start_10 (fun I2 e => ?_)
  replace h := h I2 e
  refine wz_aload_n C rfl rfl dX8_start_13 ?_
  refine wz_iconst C dX8_start_14 ?_
  refine wd_putI C f_X8_start_34 fp_X8_2 (sOc hz (soX8_2 hk0)) dX8_start_15 (fun I3 e => ?_)
  replace h := h I3 e
  refine wz_aload_n C rfl rfl dX8_start_18 ?_
  refine wz_getR C (j := k0 + 1) f_X8_start_9 (sOc hz (soX8_3 hk0)) (by have := sK_ge hk0; omega) dX8_start_19 ?_
  refine wz_iconst C dX8_start_22 ?_
  refine wm_callSo C (As := [.ref (kadr G (k0 + 1)), .int (iZ 0)]) (st := []) (a' := 0) (b' := 0) (k_J7_fill_53178 G hG (k0 + 1) 0 I3 J _ h) 2 (goodIn_wsS gX8_start_J7_fill_53178) (by decide +kernel) (by decide +kernel) (by decide +kernel) rfl (by decide +kernel) (by rw [hX]; exact ⟨Nat.le_of_ble_eq_true rfl, Nat.le_of_ble_eq_true rfl⟩) rfl (Nat.le_of_ble_eq_true rfl) rfl rfl rfl dX8_start_23 (kk_sV (fun I4 J4 h => ?_))
  refine wz_aload_n C rfl rfl dX8_start_26 ?_
  refine wz_getR C (j := k0 + 2) f_X8_start_15 (sOc hz (soX8_4 hk0)) (by have := sK_ge hk0; omega) dX8_start_27 ?_
  refine wz_iconst C dX8_start_30 ?_
  refine wz_aload_n C rfl rfl dX8_start_31 ?_
  refine wz_getI C rfl f_X8_start_43 (sOc hz (soX2_0 hk1)) dX8_start_32 ?_
  refine wm_callSN C (As := [.ref (kadr G (k0 + 2)), .int (iZ 0), .int (iZ (I4 k1 0))]) (st := []) (a' := 0) (b' := 0) (host := "ShareGraph") (k_X11_put G hG (k0 + 2) 0 (I4 k1 0) I4 J4 _ h) 3 gX8_start_X11_put_n46 (by decide +kernel) (by decide +kernel) (by decide +kernel) rfl (by decide +kernel) (by rw [hX]; exact ⟨Nat.le_of_ble_eq_true rfl, Nat.le_of_ble_eq_true rfl⟩) rfl (Nat.le_of_ble_eq_true rfl) rfl rfl rfl dX8_start_35 (kk_sV (fun I5 J5 h => ?_))
  refine wz_iconst C dX8_start_38 ?_
  refine wz_istore_2 C rfl dX8_start_39 ?_
  obtain ⟨n, h⟩ := h
  exact lk_X8_start_40 G hG X hX C k0 k1 hk0 hk1 Q n 0 I5 J5 h
theorem in_X8_groupCount_X8 : ∀ w ∈ wsX80, w ∈ wsX8_groupCount := by decide +kernel
theorem f_X8_groupCount_15 : FLk wsX8_groupCount RX8 15 11 4 := flk 11 4 rfl tyX8_ok nmX8 in_X8_groupCount_X8 (by decide) (by decide +kernel)
theorem f_X8_groupCount_24 : FLk wsX8_groupCount RX8 24 11 0 := flk 11 0 rfl tyX8_ok nmX8 in_X8_groupCount_X8 (by decide) (by decide +kernel)
def rm_X8_groupCount : Room := { frames := 1, cells := 0, slots := 0, locals := 21 }
set_option maxHeartbeats 4000000 in
set_option maxRecDepth 100000 in
theorem k_X8_groupCount (G : KG) (hG : KokC G) (k0 : Nat) (I : Ii) (J : Jj) (Q : Int → Ii → Jj → Prop) (h : wp_X8_groupCount k0 I J Q) : Ctr G yX8_groupCount wsX8_groupCount rm_X8_groupCount [.ref (kadr G k0)] (I, J) (QsI Q) := by
  unfold wp_X8_groupCount at h
  obtain ⟨hk0, h⟩ := h
  refine Ctr.ofZ (cc := cX8_groupCount) (nL := 1) (ret := (some .int)) [some (.ref (kadr G k0))] hG.1 (by decide +kernel) rfl (Nat.le_of_ble_eq_true rfl) (Nat.le_of_ble_eq_true rfl) (by simp [lvA, lv_args, Value.category]) ?_
  intro X hX C
  have hz := hG.2
  refine wz_aload_n C rfl rfl dX8_groupCount_0 ?_
  refine wz_getR C (j := k0 + 2) f_X8_groupCount_15 (sOc hz (soX8_4 hk0)) (by have := sK_ge hk0; omega) dX8_groupCount_1 ?_
  refine wz_aload_n C rfl rfl dX8_groupCount_4 ?_
  refine wz_getI C rfl f_X8_groupCount_24 (sOc hz (soX8_0 hk0)) dX8_groupCount_5 ?_
  refine wm_callSN C (As := [.ref (kadr G (k0 + 2)), .int (iZ (I k0 0))]) (st := []) (a' := 0) (b' := 0) (host := "ShareGraph") (k_X11_at G hG (k0 + 2) (I k0 0) I J _ h) 2 gX8_groupCount_X11_at_n54 (by decide +kernel) (by decide +kernel) (by decide +kernel) rfl (by decide +kernel) (by rw [hX]; exact ⟨Nat.le_of_ble_eq_true rfl, Nat.le_of_ble_eq_true rfl⟩) rfl (Nat.le_of_ble_eq_true rfl) rfl rfl rfl dX8_groupCount_8 (kk_sI (fun v1 I1 J1 h => ?_))
  exact wz_iret C dX8_groupCount_11 ⟨_, rfl, h⟩
