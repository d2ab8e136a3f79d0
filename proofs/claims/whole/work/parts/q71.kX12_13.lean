theorem in_X12_runs_X12 : ∀ w ∈ wsX120, w ∈ wsX12_runs := by decide +kernel
theorem f_X12_runs_449 : FLk wsX12_runs RX12 449 12 41 := flk 12 41 rfl tyX12_ok nmX12 in_X12_runs_X12 (by decide) (by decide +kernel)
theorem f_X12_runs_69 : FLk wsX12_runs RX12 69 12 36 := flk 12 36 rfl tyX12_ok nmX12 in_X12_runs_X12 (by decide) (by decide +kernel)
theorem f_X12_runs_72 : FLk wsX12_runs RX12 72 12 37 := flk 12 37 rfl tyX12_ok nmX12 in_X12_runs_X12 (by decide) (by decide +kernel)
theorem f_X12_runs_75 : FLk wsX12_runs RX12 75 12 38 := flk 12 38 rfl tyX12_ok nmX12 in_X12_runs_X12 (by decide) (by decide +kernel)
theorem f_X12_runs_81 : FLk wsX12_runs RX12 81 12 40 := flk 12 40 rfl tyX12_ok nmX12 in_X12_runs_X12 (by decide) (by decide +kernel)
theorem f_X12_runs_78 : FLk wsX12_runs RX12 78 12 39 := flk 12 39 rfl tyX12_ok nmX12 in_X12_runs_X12 (by decide) (by decide +kernel)
def rm_X12_runs : Room := { frames := 10, cells := 0, slots := 0, locals := 226 }
set_option maxHeartbeats 4000000 in
set_option maxRecDepth 100000 in
theorem bk_X12_runs_141 (G : KG) (hG : Kok G) (X : KX) (hX : KR X = rm_X12_runs) (C : Fr G X cX12_runs 6 yX12_runs.cls (some .int) wsX12_runs) (Q : Int → Ii → Jj → Prop) (r9 : Int → Int → Int → Int → Ii → Jj → Prop) (w9 : ∀ (l1 : Int) (l2 : Int) (l3 : Int) (l4 : Int) (I : Ii) (J : Jj), r9 l1 l2 l3 l4 I J → Wz G X 6 (QsU G X (QsI Q)) 0 0 9 [some (.ref (kadr G 0)), some (.int (iZ l1)), some (.int (iZ l2)), some (.int (iZ l3)), some (.int (iZ l4)), none] [] I J) (l1 : Int) (l3 : Int) (l4 : Int) (t0 : Int) (t1 : Int) (I : Ii) (J : Jj) (h : B_X12_runs_141 Q r9 l1 l3 l4 t0 t1 I J) : Wz G X 6 (QsU G X (QsI Q)) 0 0 141 [some (.ref (kadr G 0)), some (.int (iZ l1)), none, some (.int (iZ l3)), some (.int (iZ l4)), none] [.int (iZ t1), .int (iZ t0)] I J := by
  unfold B_X12_runs_141 at h
  refine wm_callS C (As := [.int (iZ t1)]) (st := [.int (iZ t0)]) (a' := 0) (b' := 0) (k_X12_truth G hG t1 I J _ h) 1 gX12_runs_X12_truth rfl (by decide +kernel) (by rw [hX]; exact ⟨Nat.le_of_ble_eq_true rfl, Nat.le_of_ble_eq_true rfl⟩) rfl (Nat.le_of_ble_eq_true rfl) rfl rfl rfl dX12_runs_141 (kk_sI (fun v26 I26 J26 h => ?_))
  refine wz_isub C dX12_runs_144 ?_
  refine wz_istore_2 C rfl dX12_runs_145 ?_
  refine wz_goto C dX12_runs_146 (tgt := 9) (by decide) ?_
  exact w9 l1 (t0 - v26) l3 l4 I26 J26 h
set_option maxHeartbeats 4000000 in
set_option maxRecDepth 100000 in
theorem bk_X12_runs_129 (G : KG) (hG : Kok G) (X : KX) (hX : KR X = rm_X12_runs) (C : Fr G X cX12_runs 6 yX12_runs.cls (some .int) wsX12_runs) (Q : Int → Ii → Jj → Prop) (r9 : Int → Int → Int → Int → Ii → Jj → Prop) (w9 : ∀ (l1 : Int) (l2 : Int) (l3 : Int) (l4 : Int) (I : Ii) (J : Jj), r9 l1 l2 l3 l4 I J → Wz G X 6 (QsU G X (QsI Q)) 0 0 9 [some (.ref (kadr G 0)), some (.int (iZ l1)), some (.int (iZ l2)), some (.int (iZ l3)), some (.int (iZ l4)), none] [] I J) (l1 : Int) (l2 : Int) (l4 : Int) (l5 : Int) (t0 : Int) (I : Ii) (J : Jj) (h : B_X12_runs_129 Q r9 l1 l2 l4 l5 t0 I J) : Wz G X 6 (QsU G X (QsI Q)) 0 0 129 [some (.ref (kadr G 0)), some (.int (iZ l1)), some (.int (iZ l2)), none, some (.int (iZ l4)), some (.int (iZ l5))] [.int (iZ t0)] I J := by
  unfold B_X12_runs_129 at h
  refine wz_istore_3 C rfl dX12_runs_129 ?_
  refine wz_iload_n C rfl rfl dX12_runs_130 ?_
  refine wz_iload C rfl dX12_runs_131 ?_
  obtain ⟨g25, h⟩ := h
  refine wz_if_ne C (tgt := 140) g25 dX12_runs_133 (by decide) (fun c => ?_) (fun c => ?_)
  · replace h := h.1 c
    refine wz_iconst C dX12_runs_140 ?_
    exact Wz.drop (bk_X12_runs_141 G hG X hX C Q r9 w9 l1 t0 l4 l2 0 I J h) (And.intro rfl (And.intro rfl (And.intro rfl (And.intro rfl trivial))))
  · replace h := h.2 c
    refine wz_iconst C dX12_runs_136 ?_
    refine wz_goto C dX12_runs_137 (tgt := 141) (by decide) ?_
    exact Wz.drop (bk_X12_runs_141 G hG X hX C Q r9 w9 l1 t0 l4 l2 1 I J h) (And.intro rfl (And.intro rfl (And.intro rfl (And.intro rfl trivial))))
set_option maxHeartbeats 4000000 in
set_option maxRecDepth 100000 in
theorem bk_X12_runs_106 (G : KG) (hG : Kok G) (X : KX) (hX : KR X = rm_X12_runs) (C : Fr G X cX12_runs 6 yX12_runs.cls (some .int) wsX12_runs) (Q : Int → Ii → Jj → Prop) (r9 : Int → Int → Int → Int → Ii → Jj → Prop) (w9 : ∀ (l1 : Int) (l2 : Int) (l3 : Int) (l4 : Int) (I : Ii) (J : Jj), r9 l1 l2 l3 l4 I J → Wz G X 6 (QsU G X (QsI Q)) 0 0 9 [some (.ref (kadr G 0)), some (.int (iZ l1)), some (.int (iZ l2)), some (.int (iZ l3)), some (.int (iZ l4)), none] [] I J) (l1 : Int) (l2 : Int) (l3 : Int) (l4 : Int) (t0 : Int) (I : Ii) (J : Jj) (h : B_X12_runs_106 Q r9 l1 l2 l3 l4 t0 I J) : Wz G X 6 (QsU G X (QsI Q)) 0 0 106 [some (.ref (kadr G 0)), some (.int (iZ l1)), some (.int (iZ l2)), some (.int (iZ l3)), some (.int (iZ l4)), none] [.int (iZ t0)] I J := by
  unfold B_X12_runs_106 at h
  refine wz_istore_5 C rfl dX12_runs_106 ?_
  refine wz_iload C rfl dX12_runs_108 ?_
  obtain ⟨g23, h⟩ := h
  refine wz_if_eq C (tgt := 126) g23 dX12_runs_110 (by decide) (fun c => ?_) (fun c => ?_)
  · replace h := h.1 c
    refine wz_iload_n C rfl rfl dX12_runs_126 ?_
    refine wz_iconst C dX12_runs_127 ?_
    refine wz_iadd C dX12_runs_128 ?_
    exact Wz.drop (bk_X12_runs_129 G hG X hX C Q r9 w9 l1 l2 l4 t0 (l3 + 1) I J h) (And.intro rfl (And.intro rfl (And.intro rfl (And.intro rfl (And.intro rfl trivial)))))
  · replace h := h.2 c
    refine wz_aload_n C rfl rfl dX12_runs_113 ?_
    refine wz_getR C (j := 19) f_X12_runs_78 rfl dX12_runs_114 ?_
    refine wz_iload_n C rfl rfl dX12_runs_117 ?_
    refine wz_iconst C dX12_runs_118 ?_
    refine wz_isub C dX12_runs_119 ?_
    obtain ⟨g24, h⟩ := h
    refine wz_iaload C ((l2 - 1).toNat) (n := 2) rfl (zN g24) (zL g24) (by decide) rfl dX12_runs_120 ?_
    refine wz_iconst C dX12_runs_121 ?_
    refine wz_iadd C dX12_runs_122 ?_
    refine wz_goto C dX12_runs_123 (tgt := 129) (by decide) ?_
    exact Wz.drop (bk_X12_runs_129 G hG X hX C Q r9 w9 l1 l2 l4 t0 ((I 19 ((l2 - 1).toNat)) + 1) I J h) (And.intro rfl (And.intro rfl (And.intro rfl (And.intro rfl (And.intro rfl trivial)))))
set_option maxHeartbeats 4000000 in
set_option maxRecDepth 100000 in
theorem lk_X12_runs_9 (G : KG) (hG : Kok G) (X : KX) (hX : KR X = rm_X12_runs) (C : Fr G X cX12_runs 6 yX12_runs.cls (some .int) wsX12_runs) (Q : Int → Ii → Jj → Prop) : ∀ (n : Nat) (l1 : Int) (l2 : Int) (l3 : Int) (l4 : Int) (I : Ii) (J : Jj), L_X12_runs_9 Q n l1 l2 l3 l4 I J → Wz G X 6 (QsU G X (QsI Q)) 0 0 9 [some (.ref (kadr G 0)), some (.int (iZ l1)), some (.int (iZ l2)), some (.int (iZ l3)), some (.int (iZ l4)), none] [] I J := by
  intro n
  induction n with
  | zero => intro l1 l2 l3 l4 I J h; exact False.elim h
  | succ n w9 =>
    intro l1 l2 l3 l4 I J h
    have h : Lb_X12_runs_9 Q (L_X12_runs_9 Q n) l1 l2 l3 l4 I J := h
    unfold Lb_X12_runs_9 at h
    generalize L_X12_runs_9 Q n = r9 at h w9
    refine wz_iload C rfl dX12_runs_9 ?_
    obtain ⟨g1, h⟩ := h
    refine wz_if_eq C (tgt := 187) g1 dX12_runs_11 (by decide) (fun c => ?_) (fun c => ?_)
    · replace h := h.1 c
      refine wz_iload_n C rfl rfl dX12_runs_187 ?_
      exact wz_iret C dX12_runs_188 ⟨_, rfl, h⟩
    · replace h := h.2 c
      refine wz_iload_n C rfl rfl dX12_runs_14 ?_
      refine wz_aload_n C rfl rfl dX12_runs_15 ?_
      refine wz_getI C rfl f_X12_runs_449 rfl dX12_runs_16 ?_
      obtain ⟨g2, h⟩ := h
      obtain ⟨g3, h⟩ := h
      refine wz_icmp_ge C (tgt := 187) g2 g3 dX12_runs_19 (by decide) (fun c => ?_) (fun c => ?_)
      · replace h := h.1 c
        refine wz_iload_n C rfl rfl dX12_runs_187 ?_
        exact wz_iret C dX12_runs_188 ⟨_, rfl, h⟩
      · replace h := h.2 c
        refine wz_iload_n C rfl rfl dX12_runs_22 ?_
        refine wz_bipush C (by decide) dX12_runs_23 ?_
        obtain ⟨g4, h⟩ := h
        refine wz_icmp_ge C (tgt := 187) g4 (by decide) dX12_runs_25 (by decide) (fun c => ?_) (fun c => ?_)
        · replace h := h.1 c
          refine wz_iload_n C rfl rfl dX12_runs_187 ?_
          exact wz_iret C dX12_runs_188 ⟨_, rfl, h⟩
        · replace h := h.2 c
          refine wz_aload_n C rfl rfl dX12_runs_28 ?_
          refine wz_getR C (j := 16) f_X12_runs_69 rfl dX12_runs_29 ?_
          refine wz_iload_n C rfl rfl dX12_runs_32 ?_
          obtain ⟨g5, h⟩ := h
          refine wz_iaload C l3.toNat (n := 60) rfl (zN g5) (zL g5) (by decide) rfl dX12_runs_33 ?_
          refine wz_bipush C (by decide) dX12_runs_34 ?_
          obtain ⟨g6, h⟩ := h
          refine wz_icmp_ne C (tgt := 67) g6 (by decide) dX12_runs_36 (by decide) (fun c => ?_) (fun c => ?_)
          · replace h := h.1 c
            refine wz_aload_n C rfl rfl dX12_runs_67 ?_
            refine wz_getR C (j := 16) f_X12_runs_69 rfl dX12_runs_68 ?_
            refine wz_iload_n C rfl rfl dX12_runs_71 ?_
            obtain ⟨g7, h⟩ := h
            refine wz_iaload C l3.toNat (n := 60) rfl (zN g7) (zL g7) (by decide) rfl dX12_runs_72 ?_
            refine wz_bipush C (by decide) dX12_runs_73 ?_
            refine wz_icmp_ne C (tgt := 149) g6 (by decide) dX12_runs_75 (by decide) (fun c => ?_) (fun c => ?_)
            · replace h := h.1 c
              refine wz_aload_n C rfl rfl dX12_runs_149 ?_
              refine wz_aload_n C rfl rfl dX12_runs_150 ?_
              refine wz_getR C (j := 16) f_X12_runs_69 rfl dX12_runs_151 ?_
              refine wz_iload_n C rfl rfl dX12_runs_154 ?_
              obtain ⟨g8, h⟩ := h
              refine wz_iaload C l3.toNat (n := 60) rfl (zN g8) (zL g8) (by decide) rfl dX12_runs_155 ?_
              refine wz_aload_n C rfl rfl dX12_runs_156 ?_
              refine wz_getR C (j := 17) f_X12_runs_72 rfl dX12_runs_157 ?_
              refine wz_iload_n C rfl rfl dX12_runs_160 ?_
              obtain ⟨g9, h⟩ := h
              refine wz_iaload C l3.toNat (n := 60) rfl (zN g9) (zL g9) (by decide) rfl dX12_runs_161 ?_
              refine wz_aload_n C rfl rfl dX12_runs_162 ?_
              refine wz_getR C (j := 18) f_X12_runs_75 rfl dX12_runs_163 ?_
              refine wz_iload_n C rfl rfl dX12_runs_166 ?_
              obtain ⟨g10, h⟩ := h
              refine wz_iaload C l3.toNat (n := 60) rfl (zN g10) (zL g10) (by decide) rfl dX12_runs_167 ?_
              refine wm_callV C (o := 0) (As := [.int (iZ (I 16 l3.toNat)), .int (iZ (I 17 l3.toNat)), .int (iZ (I 18 l3.toNat))]) (st := []) (a' := 0) (b' := 0) rfl rfl (k_X12_does G hG (I 16 l3.toNat) (I 17 l3.toNat) (I 18 l3.toNat) I J _ h) 3 gX12_runs_X12_does rfl (by decide +kernel) (by rw [hX]; exact ⟨Nat.le_of_ble_eq_true rfl, Nat.le_of_ble_eq_true rfl⟩) rfl (Nat.le_of_ble_eq_true rfl) rfl rfl rfl dX12_runs_168 (kk_sB (fun v11 I11 J11 hb11 h => ?_))
              refine wz_istore_4 C rfl dX12_runs_171 ?_
              refine wz_iload_n C rfl rfl dX12_runs_173 ?_
              refine wz_iload C rfl dX12_runs_174 ?_
              refine wm_callS C (As := [.int (iZ v11)]) (st := [.int (iZ l1)]) (a' := 0) (b' := 0) (k_X12_truth G hG v11 I11 J11 _ h) 1 gX12_runs_X12_truth rfl (by decide +kernel) (by rw [hX]; exact ⟨Nat.le_of_ble_eq_true rfl, Nat.le_of_ble_eq_true rfl⟩) rfl (Nat.le_of_ble_eq_true rfl) rfl rfl rfl dX12_runs_176 (kk_sI (fun v12 I12 J12 h => ?_))
              refine wz_iadd C dX12_runs_179 ?_
              refine wz_istore_1 C rfl dX12_runs_180 ?_
              refine wz_iinc_3 C rfl dX12_runs_181 ?_
              refine wz_goto C dX12_runs_184 (tgt := 9) (by decide) ?_
              exact w9 (l1 + v12) l2 (l3 + 1) v11 I12 J12 h
            · replace h := h.2 c
              refine wz_aload_n C rfl rfl dX12_runs_78 ?_
              refine wz_getR C (j := 20) f_X12_runs_81 rfl dX12_runs_79 ?_
              refine wz_iload_n C rfl rfl dX12_runs_82 ?_
              refine wz_iconst C dX12_runs_83 ?_
              refine wz_isub C dX12_runs_84 ?_
              refine wz_dup2 C rfl rfl dX12_runs_85 ?_
              obtain ⟨g13, h⟩ := h
              refine wz_iaload C ((l2 - 1).toNat) (n := 2) rfl (zN g13) (zL g13) (by decide) rfl dX12_runs_86 ?_
              refine wz_iconst C dX12_runs_87 ?_
              refine wz_isub C dX12_runs_88 ?_
              obtain ⟨g14, h⟩ := h
              refine wd_iastore C ((l2 - 1).toNat) (n := 2) rfl (zN g14) (zL g14) (by decide) dX12_runs_89 (fun I15 e => ?_)
              replace h := h I15 e
              refine wz_aload_n C rfl rfl dX12_runs_90 ?_
              refine wz_getR C (j := 20) f_X12_runs_81 rfl dX12_runs_91 ?_
              refine wz_iload_n C rfl rfl dX12_runs_94 ?_
              refine wz_iconst C dX12_runs_95 ?_
              refine wz_isub C dX12_runs_96 ?_
              obtain ⟨g16, h⟩ := h
              refine wz_iaload C ((l2 - 1).toNat) (n := 2) rfl (zN g16) (zL g16) (by decide) rfl dX12_runs_97 ?_
              obtain ⟨g17, h⟩ := h
              refine wz_if_le C (tgt := 105) g17 dX12_runs_98 (by decide) (fun c => ?_) (fun c => ?_)
              · replace h := h.1 c
                refine wz_iconst C dX12_runs_105 ?_
                exact bk_X12_runs_106 G hG X hX C Q r9 w9 l1 l2 l3 l4 0 I15 J h
              · replace h := h.2 c
                refine wz_iconst C dX12_runs_101 ?_
                refine wz_goto C dX12_runs_102 (tgt := 106) (by decide) ?_
                exact bk_X12_runs_106 G hG X hX C Q r9 w9 l1 l2 l3 l4 1 I15 J h
          · replace h := h.2 c
            refine wz_aload_n C rfl rfl dX12_runs_39 ?_
            refine wz_getR C (j := 19) f_X12_runs_78 rfl dX12_runs_40 ?_
            refine wz_iload_n C rfl rfl dX12_runs_43 ?_
            refine wz_iload_n C rfl rfl dX12_runs_44 ?_
            obtain ⟨g18, h⟩ := h
            refine wd_iastore C l2.toNat (n := 2) rfl (zN g18) (zL g18) (by decide) dX12_runs_45 (fun I19 e => ?_)
            replace h := h I19 e
            refine wz_aload_n C rfl rfl dX12_runs_46 ?_
            refine wz_getR C (j := 20) f_X12_runs_81 rfl dX12_runs_47 ?_
            refine wz_iload_n C rfl rfl dX12_runs_50 ?_
            refine wz_aload_n C rfl rfl dX12_runs_51 ?_
            refine wz_getR C (j := 17) f_X12_runs_72 rfl dX12_runs_52 ?_
            refine wz_iload_n C rfl rfl dX12_runs_55 ?_
            obtain ⟨g20, h⟩ := h
            refine wz_iaload C l3.toNat (n := 60) rfl (zN g20) (zL g20) (by decide) rfl dX12_runs_56 ?_
            obtain ⟨g21, h⟩ := h
            refine wd_iastore C l2.toNat (n := 2) rfl (zN g21) (zL g21) (by decide) dX12_runs_57 (fun I22 e => ?_)
            replace h := h I22 e
            refine wz_iinc_2 C rfl dX12_runs_58 ?_
            refine wz_iinc_3 C rfl dX12_runs_61 ?_
            refine wz_goto C dX12_runs_64 (tgt := 9) (by decide) ?_
            exact w9 l1 (l2 + 1) (l3 + 1) l4 I22 J h
set_option maxHeartbeats 4000000 in
set_option maxRecDepth 100000 in
theorem k_X12_runs (G : KG) (hG : Kok G) (I : Ii) (J : Jj) (Q : Int → Ii → Jj → Prop) (h : wp_X12_runs I J Q) : Ctr G yX12_runs wsX12_runs rm_X12_runs [.ref (kadr G 0)] (I, J) (QsI Q) := by
  unfold wp_X12_runs at h
  skip
  refine Ctr.ofZ (cc := cX12_runs) (nL := 6) (ret := (some .int)) [some (.ref (kadr G 0)), none, none, none, none, none] hG (by decide +kernel) rfl (Nat.le_of_ble_eq_true rfl) (Nat.le_of_ble_eq_true rfl) (by simp [lvA, lv_args, Value.category]) ?_
  intro X hX C
  refine wz_iconst C dX12_runs_0 ?_
  refine wz_istore_1 C rfl dX12_runs_1 ?_
  refine wz_iconst C dX12_runs_2 ?_
  refine wz_istore_2 C rfl dX12_runs_3 ?_
  refine wz_iconst C dX12_runs_4 ?_
  refine wz_istore_3 C rfl dX12_runs_5 ?_
  refine wz_iconst C dX12_runs_6 ?_
  refine wz_istore_4 C rfl dX12_runs_7 ?_
  obtain ⟨n, h⟩ := h
  exact lk_X12_runs_9 G hG X hX C Q n 0 0 0 1 I J h
