theorem in_X12_next_X12 : ∀ w ∈ wsX120, w ∈ wsX12_next := by decide +kernel
theorem f_X12_next_7 : FLk wsX12_next RX12 7 15 1 := flk 15 1 rfl tyX12_ok nmX12 in_X12_next_X12 (by decide) (by decide +kernel)
def rm_X12_next : Room := { frames := 6, cells := 0, slots := 0, locals := 139 }
set_option maxHeartbeats 4000000 in
set_option maxRecDepth 100000 in
theorem bk_X12_next_103 (G : KG) (hG : Kok G) (hW : KWx G) (X : KX) (hX : KR X = rm_X12_next) (C : Fr G X cX12_next 6 yX12_next.cls (some .int) wsX12_next) (Q : Int → Ii → Jj → Prop) (r15 : Int → Int → Ii → Jj → Prop) (w15 : ∀ (l1 : Int) (l2 : Int) (I : Ii) (J : Jj), r15 l1 l2 I J → Wz G X 6 (QsU G X (QsI Q)) 0 0 15 [some (.ref (kadr G 1000)), some (.int (iZ l1)), some (.int (iZ l2)), none, none, none] [] I J) (r30 : Int → Int → Int → Int → Ii → Jj → Prop) (w30 : ∀ (l1 : Int) (l2 : Int) (l3 : Int) (l4 : Int) (I : Ii) (J : Jj), r30 l1 l2 l3 l4 I J → Wz G X 6 (QsU G X (QsI Q)) 0 0 30 [some (.ref (kadr G 1000)), some (.int (iZ l1)), some (.int (iZ l2)), some (.int (iZ l3)), some (.int (iZ l4)), none] [] I J) (r43 : Int → Int → Int → Int → Int → Ii → Jj → Prop) (w43 : ∀ (l1 : Int) (l2 : Int) (l3 : Int) (l4 : Int) (l5 : Int) (I : Ii) (J : Jj), r43 l1 l2 l3 l4 l5 I J → Wz G X 6 (QsU G X (QsI Q)) 0 0 43 [some (.ref (kadr G 1000)), some (.int (iZ l1)), some (.int (iZ l2)), some (.int (iZ l3)), some (.int (iZ l4)), some (.int (iZ l5))] [] I J) (l1 : Int) (l2 : Int) (l3 : Int) (l4 : Int) (l5 : Int) (I : Ii) (J : Jj) (h : B_X12_next_103 Q r15 r30 r43 l1 l2 l3 l4 l5 I J) : Wz G X 6 (QsU G X (QsI Q)) 0 0 103 [some (.ref (kadr G 1000)), some (.int (iZ l1)), some (.int (iZ l2)), some (.int (iZ l3)), some (.int (iZ l4)), some (.int (iZ l5))] [] I J := by
  unfold B_X12_next_103 at h
  refine wz_iload_n C rfl rfl dX12_next_103 ?_
  obtain ⟨g19, h⟩ := h
  refine wz_if_lt C (tgt := 176) g19 dX12_next_104 (by decide) (fun c => ?_) (fun c => ?_)
  · replace h := h.1 c
    refine wz_bipush C (by decide) dX12_next_176 ?_
    refine wz_iload C rfl dX12_next_178 ?_
    refine wz_imul C dX12_next_180 ?_
    refine wz_iload C rfl dX12_next_181 ?_
    refine wz_iadd C dX12_next_183 ?_
    refine wz_istore_3 C rfl dX12_next_184 ?_
    refine wz_iinc_5 C rfl dX12_next_185 ?_
    refine wz_goto C dX12_next_188 (tgt := 43) (by decide) ?_
    exact Wz.less (a0 := 0) (b0 := 0) (by omega) (by omega) (w43 l1 l2 (((10 : Int) * l4) + l5) l4 (l5 + (-1)) I J h)
  · replace h := h.2 c
    refine wz_aload_n C rfl rfl dX12_next_107 ?_
    refine wz_iload C rfl dX12_next_108 ?_
    refine wz_iload C rfl dX12_next_110 ?_
    refine wm_callV C (S := (I, J)) (o := 1000) (As := [.int (iZ l4), .int (iZ l5)]) (st := []) (a' := 0) (b' := 0) (shK_w (by decide) rfl) rfl (k_X12_gain G hG hW l4 l5 I J _ h) 2 gX12_next_X12_gain rfl (by decide +kernel) (by rw [hX]; exact ⟨Nat.le_of_ble_eq_true rfl, Nat.le_of_ble_eq_true rfl⟩) rfl (Nat.le_of_ble_eq_true rfl) (by show 0 + (0) = 0; omega) (by show 0 + (0) = 0; omega) rfl dX12_next_112 (kk_sI (fun v20 I20 J20 h => ?_))
    refine wz_aload_n C rfl rfl dX12_next_115 ?_
    refine wz_iload_n C rfl rfl dX12_next_116 ?_
    refine wz_bipush C (by decide) dX12_next_117 ?_
    obtain ⟨g21, h⟩ := h
    refine wd_idiv C g21 dX12_next_119 ?_
    refine wz_iload_n C rfl rfl dX12_next_120 ?_
    refine wz_bipush C (by decide) dX12_next_121 ?_
    obtain ⟨g22, h⟩ := h
    refine wd_irem C g22 dX12_next_123 ?_
    refine wm_callV C (S := (I20, J20)) (o := 1000) (As := [.int (iZ (l3 / 10)), .int (iZ (l3 % 10))]) (st := [.int (iZ v20)]) (a' := 0) (b' := 0) (shK_w (by decide) rfl) rfl (k_X12_gain G hG hW (l3 / 10) (l3 % 10) I20 J20 _ h) 2 gX12_next_X12_gain rfl (by decide +kernel) (by rw [hX]; exact ⟨Nat.le_of_ble_eq_true rfl, Nat.le_of_ble_eq_true rfl⟩) rfl (Nat.le_of_ble_eq_true rfl) (by show 0 + (0) = 0; omega) (by show 0 + (0) = 0; omega) rfl dX12_next_124 (kk_sI (fun v23 I23 J23 h => ?_))
    obtain ⟨g24, h⟩ := h
    obtain ⟨g25, h⟩ := h
    refine wz_icmp_gt C (tgt := 176) g24 g25 dX12_next_127 (by decide) (fun c => ?_) (fun c => ?_)
    · replace h := h.1 c
      refine wz_bipush C (by decide) dX12_next_176 ?_
      refine wz_iload C rfl dX12_next_178 ?_
      refine wz_imul C dX12_next_180 ?_
      refine wz_iload C rfl dX12_next_181 ?_
      refine wz_iadd C dX12_next_183 ?_
      refine wz_istore_3 C rfl dX12_next_184 ?_
      refine wz_iinc_5 C rfl dX12_next_185 ?_
      refine wz_goto C dX12_next_188 (tgt := 43) (by decide) ?_
      exact Wz.less (a0 := 0) (b0 := 0) (by omega) (by omega) (w43 l1 l2 (((10 : Int) * l4) + l5) l4 (l5 + (-1)) I23 J23 h)
    · replace h := h.2 c
      refine wz_aload_n C rfl rfl dX12_next_130 ?_
      refine wz_iload C rfl dX12_next_131 ?_
      refine wz_iload C rfl dX12_next_133 ?_
      refine wm_callV C (S := (I23, J23)) (o := 1000) (As := [.int (iZ l4), .int (iZ l5)]) (st := []) (a' := 0) (b' := 0) (shK_w (by decide) rfl) rfl (k_X12_gain G hG hW l4 l5 I23 J23 _ h) 2 gX12_next_X12_gain rfl (by decide +kernel) (by rw [hX]; exact ⟨Nat.le_of_ble_eq_true rfl, Nat.le_of_ble_eq_true rfl⟩) rfl (Nat.le_of_ble_eq_true rfl) (by show 0 + (0) = 0; omega) (by show 0 + (0) = 0; omega) rfl dX12_next_135 (kk_sI (fun v26 I26 J26 h => ?_))
      refine wz_aload_n C rfl rfl dX12_next_138 ?_
      refine wz_iload_n C rfl rfl dX12_next_139 ?_
      refine wz_bipush C (by decide) dX12_next_140 ?_
      obtain ⟨g27, h⟩ := h
      refine wd_idiv C g27 dX12_next_142 ?_
      refine wz_iload_n C rfl rfl dX12_next_143 ?_
      refine wz_bipush C (by decide) dX12_next_144 ?_
      obtain ⟨g28, h⟩ := h
      refine wd_irem C g28 dX12_next_146 ?_
      refine wm_callV C (S := (I26, J26)) (o := 1000) (As := [.int (iZ (l3 / 10)), .int (iZ (l3 % 10))]) (st := [.int (iZ v26)]) (a' := 0) (b' := 0) (shK_w (by decide) rfl) rfl (k_X12_gain G hG hW (l3 / 10) (l3 % 10) I26 J26 _ h) 2 gX12_next_X12_gain rfl (by decide +kernel) (by rw [hX]; exact ⟨Nat.le_of_ble_eq_true rfl, Nat.le_of_ble_eq_true rfl⟩) rfl (Nat.le_of_ble_eq_true rfl) (by show 0 + (0) = 0; omega) (by show 0 + (0) = 0; omega) rfl dX12_next_147 (kk_sI (fun v29 I29 J29 h => ?_))
      obtain ⟨g30, h⟩ := h
      obtain ⟨g31, h⟩ := h
      refine wz_icmp_ne C (tgt := 185) g30 g31 dX12_next_150 (by decide) (fun c => ?_) (fun c => ?_)
      · replace h := h.1 c
        refine wz_iinc_5 C rfl dX12_next_185 ?_
        refine wz_goto C dX12_next_188 (tgt := 43) (by decide) ?_
        exact Wz.less (a0 := 0) (b0 := 0) (by omega) (by omega) (w43 l1 l2 l3 l4 (l5 + (-1)) I29 J29 h)
      · replace h := h.2 c
        refine wz_aload_n C rfl rfl dX12_next_153 ?_
        refine wz_iload C rfl dX12_next_154 ?_
        refine wz_iload C rfl dX12_next_156 ?_
        refine wm_callV C (S := (I29, J29)) (o := 1000) (As := [.int (iZ l4), .int (iZ l5)]) (st := []) (a' := 0) (b' := 0) (shK_w (by decide) rfl) rfl (k_X12_debtsIf G hG hW l4 l5 I29 J29 _ h) 2 gX12_next_X12_debtsIf rfl (by decide +kernel) (by rw [hX]; exact ⟨Nat.le_of_ble_eq_true rfl, Nat.le_of_ble_eq_true rfl⟩) rfl (Nat.le_of_ble_eq_true rfl) (by show 0 + (0) = 0; omega) (by show 0 + (0) = 0; omega) rfl dX12_next_158 (kk_sI (fun v32 I32 J32 h => ?_))
        refine wz_aload_n C rfl rfl dX12_next_161 ?_
        refine wz_iload_n C rfl rfl dX12_next_162 ?_
        refine wz_bipush C (by decide) dX12_next_163 ?_
        obtain ⟨g33, h⟩ := h
        refine wd_idiv C g33 dX12_next_165 ?_
        refine wz_iload_n C rfl rfl dX12_next_166 ?_
        refine wz_bipush C (by decide) dX12_next_167 ?_
        obtain ⟨g34, h⟩ := h
        refine wd_irem C g34 dX12_next_169 ?_
        refine wm_callV C (S := (I32, J32)) (o := 1000) (As := [.int (iZ (l3 / 10)), .int (iZ (l3 % 10))]) (st := [.int (iZ v32)]) (a' := 0) (b' := 0) (shK_w (by decide) rfl) rfl (k_X12_debtsIf G hG hW (l3 / 10) (l3 % 10) I32 J32 _ h) 2 gX12_next_X12_debtsIf rfl (by decide +kernel) (by rw [hX]; exact ⟨Nat.le_of_ble_eq_true rfl, Nat.le_of_ble_eq_true rfl⟩) rfl (Nat.le_of_ble_eq_true rfl) (by show 0 + (0) = 0; omega) (by show 0 + (0) = 0; omega) rfl dX12_next_170 (kk_sI (fun v35 I35 J35 h => ?_))
        obtain ⟨g36, h⟩ := h
        obtain ⟨g37, h⟩ := h
        refine wz_icmp_gt C (tgt := 185) g36 g37 dX12_next_173 (by decide) (fun c => ?_) (fun c => ?_)
        · replace h := h.1 c
          refine wz_iinc_5 C rfl dX12_next_185 ?_
          refine wz_goto C dX12_next_188 (tgt := 43) (by decide) ?_
          exact Wz.less (a0 := 0) (b0 := 0) (by omega) (by omega) (w43 l1 l2 l3 l4 (l5 + (-1)) I35 J35 h)
        · replace h := h.2 c
          refine wz_bipush C (by decide) dX12_next_176 ?_
          refine wz_iload C rfl dX12_next_178 ?_
          refine wz_imul C dX12_next_180 ?_
          refine wz_iload C rfl dX12_next_181 ?_
          refine wz_iadd C dX12_next_183 ?_
          refine wz_istore_3 C rfl dX12_next_184 ?_
          refine wz_iinc_5 C rfl dX12_next_185 ?_
          refine wz_goto C dX12_next_188 (tgt := 43) (by decide) ?_
          exact Wz.less (a0 := 0) (b0 := 0) (by omega) (by omega) (w43 l1 l2 (((10 : Int) * l4) + l5) l4 (l5 + (-1)) I35 J35 h)
set_option maxHeartbeats 4000000 in
set_option maxRecDepth 100000 in
theorem lk_X12_next_43 (G : KG) (hG : Kok G) (hW : KWx G) (X : KX) (hX : KR X = rm_X12_next) (C : Fr G X cX12_next 6 yX12_next.cls (some .int) wsX12_next) (Q : Int → Ii → Jj → Prop) (r15 : Int → Int → Ii → Jj → Prop) (w15 : ∀ (l1 : Int) (l2 : Int) (I : Ii) (J : Jj), r15 l1 l2 I J → Wz G X 6 (QsU G X (QsI Q)) 0 0 15 [some (.ref (kadr G 1000)), some (.int (iZ l1)), some (.int (iZ l2)), none, none, none] [] I J) (r30 : Int → Int → Int → Int → Ii → Jj → Prop) (w30 : ∀ (l1 : Int) (l2 : Int) (l3 : Int) (l4 : Int) (I : Ii) (J : Jj), r30 l1 l2 l3 l4 I J → Wz G X 6 (QsU G X (QsI Q)) 0 0 30 [some (.ref (kadr G 1000)), some (.int (iZ l1)), some (.int (iZ l2)), some (.int (iZ l3)), some (.int (iZ l4)), none] [] I J) : ∀ (n : Nat) (l1 : Int) (l2 : Int) (l3 : Int) (l4 : Int) (l5 : Int) (I : Ii) (J : Jj), L_X12_next_43 Q r15 r30 n l1 l2 l3 l4 l5 I J → Wz G X 6 (QsU G X (QsI Q)) 0 0 43 [some (.ref (kadr G 1000)), some (.int (iZ l1)), some (.int (iZ l2)), some (.int (iZ l3)), some (.int (iZ l4)), some (.int (iZ l5))] [] I J := by
  intro n
  induction n with
  | zero => intro l1 l2 l3 l4 l5 I J h; exact False.elim h
  | succ n w43 =>
    intro l1 l2 l3 l4 l5 I J h
    have h : Lb_X12_next_43 Q r15 r30 (L_X12_next_43 Q r15 r30 n) l1 l2 l3 l4 l5 I J := h
    unfold Lb_X12_next_43 at h
    generalize L_X12_next_43 Q r15 r30 n = r43 at h w43
    refine wz_iload C rfl dX12_next_43 ?_
    obtain ⟨g7, h⟩ := h
    refine wz_if_lt C (tgt := 191) g7 dX12_next_45 (by decide) (fun c => ?_) (fun c => ?_)
    · replace h := h.1 c
      refine wz_iinc_4 C rfl dX12_next_191 ?_
      refine wz_goto C dX12_next_194 (tgt := 30) (by decide) ?_
      exact Wz.less (a0 := 0) (b0 := 0) (by omega) (by omega) (Wz.drop (w30 l1 l2 l3 (l4 + (-1)) I J h) (And.intro rfl (And.intro rfl (And.intro rfl (And.intro rfl (And.intro rfl trivial))))))
    · replace h := h.2 c
      refine wz_aload_n C rfl rfl dX12_next_48 ?_
      refine wz_iload C rfl dX12_next_49 ?_
      refine wm_callV C (S := (I, J)) (o := 1000) (As := [.int (iZ l4)]) (st := []) (a' := 0) (b' := 0) (shK_w (by decide) rfl) rfl (k_X12_partOf G hG hW l4 I J _ h) 1 gX12_next_X12_partOf rfl (by decide +kernel) (by rw [hX]; exact ⟨Nat.le_of_ble_eq_true rfl, Nat.le_of_ble_eq_true rfl⟩) rfl (Nat.le_of_ble_eq_true rfl) (by show 0 + (0) = 0; omega) (by show 0 + (0) = 0; omega) rfl dX12_next_51 (kk_sI (fun v8 I8 J8 h => ?_))
      refine wz_iload C rfl dX12_next_54 ?_
      obtain ⟨g9, h⟩ := h
      obtain ⟨g10, h⟩ := h
      refine wz_icmp_eq C (tgt := 185) g9 g10 dX12_next_56 (by decide) (fun c => ?_) (fun c => ?_)
      · replace h := h.1 c
        refine wz_iinc_5 C rfl dX12_next_185 ?_
        refine wz_goto C dX12_next_188 (tgt := 43) (by decide) ?_
        exact Wz.less (a0 := 0) (b0 := 0) (by omega) (by omega) (w43 l1 l2 l3 l4 (l5 + (-1)) I8 J8 h)
      · replace h := h.2 c
        refine wz_iload_n C rfl rfl dX12_next_59 ?_
        obtain ⟨g11, h⟩ := h
        refine wz_if_ne C (tgt := 78) g11 dX12_next_60 (by decide) (fun c => ?_) (fun c => ?_)
        · replace h := h.1 c
          refine wz_aload_n C rfl rfl dX12_next_78 ?_
          refine wz_iload C rfl dX12_next_79 ?_
          refine wz_iload C rfl dX12_next_81 ?_
          refine wm_callV C (S := (I8, J8)) (o := 1000) (As := [.int (iZ l4), .int (iZ l5)]) (st := []) (a' := 0) (b' := 0) (shK_w (by decide) rfl) rfl (k_X12_gain G hG hW l4 l5 I8 J8 _ h) 2 gX12_next_X12_gain rfl (by decide +kernel) (by rw [hX]; exact ⟨Nat.le_of_ble_eq_true rfl, Nat.le_of_ble_eq_true rfl⟩) rfl (Nat.le_of_ble_eq_true rfl) (by show 0 + (0) = 0; omega) (by show 0 + (0) = 0; omega) rfl dX12_next_83 (kk_sI (fun v12 I12 J12 h => ?_))
          obtain ⟨g13, h⟩ := h
          refine wz_if_le C (tgt := 185) g13 dX12_next_86 (by decide) (fun c => ?_) (fun c => ?_)
          · replace h := h.1 c
            refine wz_iinc_5 C rfl dX12_next_185 ?_
            refine wz_goto C dX12_next_188 (tgt := 43) (by decide) ?_
            exact Wz.less (a0 := 0) (b0 := 0) (by omega) (by omega) (w43 l1 l2 l3 l4 (l5 + (-1)) I12 J12 h)
          · replace h := h.2 c
            refine wz_aload_n C rfl rfl dX12_next_89 ?_
            refine wz_iload C rfl dX12_next_90 ?_
            refine wz_iload C rfl dX12_next_92 ?_
            refine wm_callV C (S := (I12, J12)) (o := 1000) (As := [.int (iZ l4), .int (iZ l5)]) (st := []) (a' := 0) (b' := 0) (shK_w (by decide) rfl) rfl (k_X12_why G hG hW l4 l5 I12 J12 _ h) 2 gX12_next_X12_why rfl (by decide +kernel) (by rw [hX]; exact ⟨Nat.le_of_ble_eq_true rfl, Nat.le_of_ble_eq_true rfl⟩) rfl (Nat.le_of_ble_eq_true rfl) (by show 0 + (0) = 0; omega) (by show 0 + (0) = 0; omega) rfl dX12_next_94 (kk_sI (fun v14 I14 J14 h => ?_))
            obtain ⟨g15, h⟩ := h
            refine wz_if_le C (tgt := 103) g15 dX12_next_97 (by decide) (fun c => ?_) (fun c => ?_)
            · replace h := h.1 c
              exact Wz.less (a0 := 0) (b0 := 0) (by omega) (by omega) (bk_X12_next_103 G hG hW X hX C Q r15 w15 r30 w30 r43 w43 l1 l2 l3 l4 l5 I14 J14 h)
            · replace h := h.2 c
              refine wz_goto C dX12_next_100 (tgt := 185) (by decide) ?_
              refine wz_iinc_5 C rfl dX12_next_185 ?_
              refine wz_goto C dX12_next_188 (tgt := 43) (by decide) ?_
              exact Wz.less (a0 := 0) (b0 := 0) (by omega) (by omega) (w43 l1 l2 l3 l4 (l5 + (-1)) I14 J14 h)
        · replace h := h.2 c
          refine wz_aload_n C rfl rfl dX12_next_63 ?_
          refine wz_iload C rfl dX12_next_64 ?_
          refine wz_iload C rfl dX12_next_66 ?_
          refine wm_callV C (S := (I8, J8)) (o := 1000) (As := [.int (iZ l4), .int (iZ l5)]) (st := []) (a' := 0) (b' := 0) (shK_w (by decide) rfl) rfl (k_X12_debtsIf G hG hW l4 l5 I8 J8 _ h) 2 gX12_next_X12_debtsIf rfl (by decide +kernel) (by rw [hX]; exact ⟨Nat.le_of_ble_eq_true rfl, Nat.le_of_ble_eq_true rfl⟩) rfl (Nat.le_of_ble_eq_true rfl) (by show 0 + (0) = 0; omega) (by show 0 + (0) = 0; omega) rfl dX12_next_68 (kk_sI (fun v16 I16 J16 h => ?_))
          refine wz_iload_n C rfl rfl dX12_next_71 ?_
          obtain ⟨g17, h⟩ := h
          obtain ⟨g18, h⟩ := h
          refine wz_icmp_lt C (tgt := 103) g17 g18 dX12_next_72 (by decide) (fun c => ?_) (fun c => ?_)
          · replace h := h.1 c
            exact Wz.less (a0 := 0) (b0 := 0) (by omega) (by omega) (bk_X12_next_103 G hG hW X hX C Q r15 w15 r30 w30 r43 w43 l1 l2 l3 l4 l5 I16 J16 h)
          · replace h := h.2 c
            refine wz_goto C dX12_next_75 (tgt := 185) (by decide) ?_
            refine wz_iinc_5 C rfl dX12_next_185 ?_
            refine wz_goto C dX12_next_188 (tgt := 43) (by decide) ?_
            exact Wz.less (a0 := 0) (b0 := 0) (by omega) (by omega) (w43 l1 l2 l3 l4 (l5 + (-1)) I16 J16 h)
set_option maxHeartbeats 4000000 in
set_option maxRecDepth 100000 in
theorem lk_X12_next_30 (G : KG) (hG : Kok G) (hW : KWx G) (X : KX) (hX : KR X = rm_X12_next) (C : Fr G X cX12_next 6 yX12_next.cls (some .int) wsX12_next) (Q : Int → Ii → Jj → Prop) (r15 : Int → Int → Ii → Jj → Prop) (w15 : ∀ (l1 : Int) (l2 : Int) (I : Ii) (J : Jj), r15 l1 l2 I J → Wz G X 6 (QsU G X (QsI Q)) 0 0 15 [some (.ref (kadr G 1000)), some (.int (iZ l1)), some (.int (iZ l2)), none, none, none] [] I J) : ∀ (n : Nat) (l1 : Int) (l2 : Int) (l3 : Int) (l4 : Int) (I : Ii) (J : Jj), L_X12_next_30 Q r15 n l1 l2 l3 l4 I J → Wz G X 6 (QsU G X (QsI Q)) 0 0 30 [some (.ref (kadr G 1000)), some (.int (iZ l1)), some (.int (iZ l2)), some (.int (iZ l3)), some (.int (iZ l4)), none] [] I J := by
  intro n
  induction n with
  | zero => intro l1 l2 l3 l4 I J h; exact False.elim h
  | succ n w30 =>
    intro l1 l2 l3 l4 I J h
    have h : Lb_X12_next_30 Q r15 (L_X12_next_30 Q r15 n) l1 l2 l3 l4 I J := h
    unfold Lb_X12_next_30 at h
    generalize L_X12_next_30 Q r15 n = r30 at h w30
    refine wz_iload C rfl dX12_next_30 ?_
    obtain ⟨g5, h⟩ := h
    refine wz_if_lt C (tgt := 197) g5 dX12_next_32 (by decide) (fun c => ?_) (fun c => ?_)
    · replace h := h.1 c
      refine wz_iload_n C rfl rfl dX12_next_197 ?_
      obtain ⟨g6, h⟩ := h
      refine wz_if_lt C (tgt := 203) g6 dX12_next_198 (by decide) (fun c => ?_) (fun c => ?_)
      · replace h := h.1 c
        refine wz_iinc_2 C rfl dX12_next_203 ?_
        refine wz_goto C dX12_next_206 (tgt := 15) (by decide) ?_
        exact Wz.less (a0 := 0) (b0 := 0) (by omega) (by omega) (Wz.drop (w15 l1 (l2 + 1) I J h) (And.intro rfl (And.intro rfl (And.intro rfl trivial))))
      · replace h := h.2 c
        refine wz_iload_n C rfl rfl dX12_next_201 ?_
        exact wz_iret C dX12_next_202 ⟨_, rfl, h⟩
    · replace h := h.2 c
      refine wz_aload_n C rfl rfl dX12_next_35 ?_
      refine wz_getI C rfl f_X12_next_7 (sOw rfl (by decide)) dX12_next_36 ?_
      refine wz_iconst C dX12_next_39 ?_
      refine wz_isub C dX12_next_40 ?_
      refine wz_istore_5 C rfl dX12_next_41 ?_
      obtain ⟨n, h⟩ := h
      exact Wz.less (a0 := 0) (b0 := 0) (by omega) (by omega) (lk_X12_next_43 G hG hW X hX C Q r15 w15 r30 w30 n l1 l2 l3 l4 ((I 1000 1) - 1) I J h)
set_option maxHeartbeats 4000000 in
set_option maxRecDepth 100000 in
theorem lk_X12_next_15 (G : KG) (hG : Kok G) (hW : KWx G) (X : KX) (hX : KR X = rm_X12_next) (C : Fr G X cX12_next 6 yX12_next.cls (some .int) wsX12_next) (Q : Int → Ii → Jj → Prop) : ∀ (n : Nat) (l1 : Int) (l2 : Int) (I : Ii) (J : Jj), L_X12_next_15 Q n l1 l2 I J → Wz G X 6 (QsU G X (QsI Q)) 0 0 15 [some (.ref (kadr G 1000)), some (.int (iZ l1)), some (.int (iZ l2)), none, none, none] [] I J := by
  intro n
  induction n with
  | zero => intro l1 l2 I J h; exact False.elim h
  | succ n w15 =>
    intro l1 l2 I J h
    have h : Lb_X12_next_15 Q (L_X12_next_15 Q n) l1 l2 I J := h
    unfold Lb_X12_next_15 at h
    generalize L_X12_next_15 Q n = r15 at h w15
    refine wz_iload_n C rfl rfl dX12_next_15 ?_
    refine wz_iconst C dX12_next_16 ?_
    obtain ⟨g3, h⟩ := h
    refine wz_icmp_ge C (tgt := 209) g3 (by decide) dX12_next_17 (by decide) (fun c => ?_) (fun c => ?_)
    · replace h := h.1 c
      refine wz_iconst C dX12_next_209 ?_
      exact wz_iret C dX12_next_210 ⟨_, rfl, h⟩
    · replace h := h.2 c
      refine wz_iconst C dX12_next_20 ?_
      refine wz_istore_3 C rfl dX12_next_21 ?_
      refine wz_aload_n C rfl rfl dX12_next_22 ?_
      refine wm_callV C (S := (I, J)) (o := 1000) (As := []) (st := []) (a' := 0) (b' := 0) (shK_w (by decide) rfl) rfl (k_X12_groups G hG hW I J _ h) 0 gX12_next_X12_groups rfl (by decide +kernel) (by rw [hX]; exact ⟨Nat.le_of_ble_eq_true rfl, Nat.le_of_ble_eq_true rfl⟩) rfl (Nat.le_of_ble_eq_true rfl) (by show 0 + (0) = 0; omega) (by show 0 + (0) = 0; omega) rfl dX12_next_23 (kk_sI (fun v4 I4 J4 h => ?_))
      refine wz_iconst C dX12_next_26 ?_
      refine wz_isub C dX12_next_27 ?_
      refine wz_istore_4 C rfl dX12_next_28 ?_
      obtain ⟨n, h⟩ := h
      exact Wz.less (a0 := 0) (b0 := 0) (by omega) (by omega) (lk_X12_next_30 G hG hW X hX C Q r15 w15 n l1 l2 (-1) (v4 - 1) I4 J4 h)
set_option maxHeartbeats 4000000 in
set_option maxRecDepth 100000 in
theorem k_X12_next (G : KG) (hG : Kok G) (hW : KWx G)  (I : Ii) (J : Jj) (Q : Int → Ii → Jj → Prop) (h : wp_X12_next I J Q) : Ctr G yX12_next wsX12_next rm_X12_next [.ref (kadr G 1000)] (I, J) (QsI Q) := by
  unfold wp_X12_next at h
  refine Ctr.ofZ (cc := cX12_next) (nL := 6) (ret := (some .int)) [some (.ref (kadr G 1000)), none, none, none, none, none] hG (by decide +kernel) rfl (Nat.le_of_ble_eq_true rfl) (Nat.le_of_ble_eq_true rfl) (by simp [lvA, lv_args, Value.category]) ?_
  intro X hX C
  refine (?_ : Wz G X 6 (QsU G X (QsI Q)) 0 0 0 [some (.ref (kadr G 1000)), none, none, none, none, none] [] I J)
  refine wz_aload_n C rfl rfl dX12_next_0 ?_
  refine wm_callV C (S := (I, J)) (o := 1000) (As := []) (st := []) (a' := 0) (b' := 0) (shK_w (by decide) rfl) rfl (k_X12_debts G hG hW I J _ h) 0 gX12_next_X12_debts rfl (by decide +kernel) (by rw [hX]; exact ⟨Nat.le_of_ble_eq_true rfl, Nat.le_of_ble_eq_true rfl⟩) rfl (Nat.le_of_ble_eq_true rfl) (by show 0 + (0) = 0; omega) (by show 0 + (0) = 0; omega) rfl dX12_next_1 (kk_sI (fun v1 I1 J1 h => ?_))
  refine wz_istore_1 C rfl dX12_next_4 ?_
  refine wz_iload_n C rfl rfl dX12_next_5 ?_
  obtain ⟨g2, h⟩ := h
  refine wz_if_le C (tgt := 13) g2 dX12_next_6 (by decide) (fun c => ?_) (fun c => ?_)
  · replace h := h.1 c
    refine wz_iconst C dX12_next_13 ?_
    refine wz_istore_2 C rfl dX12_next_14 ?_
    obtain ⟨n, h⟩ := h
    exact Wz.less (a0 := 0) (b0 := 0) (by omega) (by omega) (lk_X12_next_15 G hG hW X hX C Q n v1 1 I1 J1 h)
  · replace h := h.2 c
    refine wz_iconst C dX12_next_9 ?_
    refine wz_goto C dX12_next_10 (tgt := 14) (by decide) ?_
    refine wz_istore_2 C rfl dX12_next_14 ?_
    obtain ⟨n, h⟩ := h
    exact Wz.less (a0 := 0) (b0 := 0) (by omega) (by omega) (lk_X12_next_15 G hG hW X hX C Q n v1 0 I1 J1 h)
def rm_X12_step : Room := { frames := 9, cells := 2, slots := 314, locals := 275 }
set_option maxHeartbeats 4000000 in
set_option maxRecDepth 100000 in
theorem k_X12_step (G : KG) (hG : Kok G) (hW : KWx G)  (I : Ii) (J : Jj) (Q : Int → Ii → Jj → Prop) (h : wp_X12_step I J Q) : Ctr G yX12_step wsX12_step rm_X12_step [.ref (kadr G 1000)] (I, J) (QsI Q) := by
  unfold wp_X12_step at h
  refine Ctr.ofZ (cc := cX12_step) (nL := 2) (ret := (some .int)) [some (.ref (kadr G 1000)), none] hG (by decide +kernel) rfl (Nat.le_of_ble_eq_true rfl) (Nat.le_of_ble_eq_true rfl) (by simp [lvA, lv_args, Value.category]) ?_
  intro X hX C
  refine (?_ : Wz G X 2 (QsU G X (QsI Q)) 2 314 0 [some (.ref (kadr G 1000)), none] [] I J)
  refine wz_aload_n C rfl rfl dX12_step_0 ?_
  refine wm_callV C (S := (I, J)) (o := 1000) (As := []) (st := []) (a' := 2) (b' := 314) (shK_w (by decide) rfl) rfl (k_X12_next G hG hW I J _ h) 0 gX12_step_X12_next rfl (by decide +kernel) (by rw [hX]; exact ⟨Nat.le_of_ble_eq_true rfl, Nat.le_of_ble_eq_true rfl⟩) rfl (Nat.le_of_ble_eq_true rfl) (by show 0 + (2) = 2; omega) (by show 0 + (314) = 314; omega) rfl dX12_step_1 (kk_sI (fun v1 I1 J1 h => ?_))
  refine wz_istore_1 C rfl dX12_step_4 ?_
  refine wz_iload_n C rfl rfl dX12_step_5 ?_
  obtain ⟨g2, h⟩ := h
  refine wz_if_ge C (tgt := 13) g2 dX12_step_6 (by decide) (fun c => ?_) (fun c => ?_)
  · replace h := h.1 c
    refine wz_aload_n C rfl rfl dX12_step_13 ?_
    refine wz_iload_n C rfl rfl dX12_step_14 ?_
    refine wz_bipush C (by decide) dX12_step_15 ?_
    obtain ⟨g3, h⟩ := h
    refine wd_idiv C g3 dX12_step_17 ?_
    refine wz_iload_n C rfl rfl dX12_step_18 ?_
    refine wz_bipush C (by decide) dX12_step_19 ?_
    obtain ⟨g4, h⟩ := h
    refine wd_irem C g4 dX12_step_21 ?_
    refine wm_callV C (S := (I1, J1)) (o := 1000) (As := [.int (iZ (v1 / 10)), .int (iZ (v1 % 10))]) (st := []) (a' := 0) (b' := 0) (shK_w (by decide) rfl) rfl (k_X12_move G hG hW (v1 / 10) (v1 % 10) I1 J1 _ h) 2 gX12_step_X12_move rfl (by decide +kernel) (by rw [hX]; exact ⟨Nat.le_of_ble_eq_true rfl, Nat.le_of_ble_eq_true rfl⟩) rfl (Nat.le_of_ble_eq_true rfl) (by show 2 + (0) = 2; omega) (by show 314 + (0) = 314; omega) rfl dX12_step_22 (kk_sI (fun v5 I5 J5 h => ?_))
    exact wz_iret C dX12_step_25 ⟨_, rfl, h⟩
  · replace h := h.2 c
    refine wz_iconst C dX12_step_9 ?_
    refine wz_goto C dX12_step_10 (tgt := 25) (by decide) ?_
    exact wz_iret C dX12_step_25 ⟨_, rfl, h⟩
def rm_X12_steps : Room := { frames := 10, cells := 22, slots := 3454, locals := 296 }
set_option maxHeartbeats 4000000 in
set_option maxRecDepth 100000 in
theorem lk_X12_steps_2 (G : KG) (hG : Kok G) (hW : KWx G) (X : KX) (hX : KR X = rm_X12_steps) (C : Fr G X cX12_steps 3 yX12_steps.cls (some .int) wsX12_steps) (l1 : Int) (Q : Int → Ii → Jj → Prop) : ∀ (n : Nat) (l2 : Int) (I : Ii) (J : Jj), L_X12_steps_2 l1 Q n l2 I J → Wz G X 3 (QsU G X (QsI Q)) (n * 2 + 0) (n * 314 + 0) 2 [some (.ref (kadr G 1000)), some (.int (iZ l1)), some (.int (iZ l2))] [] I J := by
  intro n
  induction n with
  | zero => intro l2 I J h; exact False.elim h
  | succ n w2 =>
    intro l2 I J h
    have h : Lb_X12_steps_2 l1 Q (L_X12_steps_2 l1 Q n) l2 I J := h
    unfold Lb_X12_steps_2 at h
    generalize L_X12_steps_2 l1 Q n = r2 at h w2
    refine Wz.less (a0 := n * 2 + 0 + 2) (b0 := n * 314 + 0 + 314) (by omega) (by omega) ?_
    have haH : 0 ≤ n * 2 + 0 ∧ 0 ≤ n * 314 + 0 := by omega
    generalize n * 2 + 0 = aH at w2 haH ⊢
    generalize n * 314 + 0 = bH at w2 haH ⊢
    refine wz_iload_n C rfl rfl dX12_steps_2 ?_
    refine wz_iload_n C rfl rfl dX12_steps_3 ?_
    obtain ⟨g1, h⟩ := h
    obtain ⟨g2, h⟩ := h
    refine wz_icmp_ge C (tgt := 20) g1 g2 dX12_steps_4 (by decide) (fun c => ?_) (fun c => ?_)
    · replace h := h.1 c
      refine wz_iload_n C rfl rfl dX12_steps_20 ?_
      exact wz_iret C dX12_steps_21 ⟨_, rfl, h⟩
    · replace h := h.2 c
      refine wz_aload_n C rfl rfl dX12_steps_7 ?_
      refine wm_callV C (S := (I, J)) (o := 1000) (As := []) (st := []) (a' := aH + 0) (b' := bH + 0) (shK_w (by decide) rfl) rfl (k_X12_step G hG hW I J _ h) 0 gX12_steps_X12_step rfl (by decide +kernel) (by rw [hX]; exact ⟨Nat.le_of_ble_eq_true rfl, Nat.le_of_ble_eq_true rfl⟩) rfl (Nat.le_of_ble_eq_true rfl) (by show 2 + (aH + 0) = aH + 2; omega) (by show 314 + (bH + 0) = bH + 314; omega) rfl dX12_steps_8 (kk_sI (fun v3 I3 J3 h => ?_))
      obtain ⟨g4, h⟩ := h
      refine wz_if_lt C (tgt := 20) g4 dX12_steps_11 (by decide) (fun c => ?_) (fun c => ?_)
      · replace h := h.1 c
        refine wz_iload_n C rfl rfl dX12_steps_20 ?_
        exact wz_iret C dX12_steps_21 ⟨_, rfl, h⟩
      · replace h := h.2 c
        refine wz_iinc_2 C rfl dX12_steps_14 ?_
        refine wz_goto C dX12_steps_17 (tgt := 2) (by decide) ?_
        exact Wz.less (a0 := aH) (b0 := bH) (by omega) (by omega) (w2 (l2 + 1) I3 J3 h)
set_option maxHeartbeats 4000000 in
set_option maxRecDepth 100000 in
theorem k_X12_steps (G : KG) (hG : Kok G) (hW : KWx G)  (l1 : Int) (I : Ii) (J : Jj) (Q : Int → Ii → Jj → Prop) (h : wp_X12_steps l1 I J Q) : Ctr G yX12_steps wsX12_steps rm_X12_steps [.ref (kadr G 1000), .int (iZ l1)] (I, J) (QsI Q) := by
  unfold wp_X12_steps at h
  refine Ctr.ofZ (cc := cX12_steps) (nL := 3) (ret := (some .int)) [some (.ref (kadr G 1000)), some (.int (iZ l1)), none] hG (by decide +kernel) rfl (Nat.le_of_ble_eq_true rfl) (Nat.le_of_ble_eq_true rfl) (by simp [lvA, lv_args, Value.category]) ?_
  intro X hX C
  refine (?_ : Wz G X 3 (QsU G X (QsI Q)) 22 3454 0 [some (.ref (kadr G 1000)), some (.int (iZ l1)), none] [] I J)
  refine wz_iconst C dX12_steps_0 ?_
  refine wz_istore_2 C rfl dX12_steps_1 ?_
  obtain ⟨n, hn, h⟩ := h
  exact Wz.less (a0 := n * 2 + 0) (b0 := n * 314 + 0) (by omega) (by omega) (lk_X12_steps_2 G hG hW X hX C l1 Q n 0 I J h)
theorem in_X12_flow_X12 : ∀ w ∈ wsX120, w ∈ wsX12_flow := by decide +kernel
theorem f_X12_flow_87 : FLk wsX12_flow RX12 87 15 0 := flk 15 0 rfl tyX12_ok nmX12 in_X12_flow_X12 (by decide) (by decide +kernel)
theorem f_X12_flow_28 : FLk wsX12_flow RX12 28 15 9 := flk 15 9 rfl tyX12_ok nmX12 in_X12_flow_X12 (by decide) (by decide +kernel)
def rm_X12_flow : Room := { frames := 1, cells := 136, slots := 1904, locals := 80 }
set_option maxHeartbeats 4000000 in
set_option maxRecDepth 100000 in
theorem lk_X12_flow_122 (G : KG) (hG : Kok G) (hW : KWx G) (X : KX) (hX : KR X = rm_X12_flow) (C : Fr G X cX12_flow 9 yX12_flow.cls (some (.array .int)) wsX12_flow) (aH bH : Nat) (haH : 1 ≤ aH ∧ 14 ≤ bH) (l1 : Int) (l2 : Int) (Q : Nat → Ii → Jj → Prop) (r54 : Nat → Int → Ii → Jj → Prop) (w54 : ∀ (p3 : Nat) (l4 : Int) (I : Ii) (J : Jj), r54 p3 l4 I J → Wz G X 9 (QsU G X (QsK G Q)) aH bH 54 [some (.ref (kadr G 1000)), some (.int (iZ l1)), some (.int (iZ l2)), some (.ref (kadr G p3)), some (.int (iZ l4)), none, none, none, none] [] I J) (r99 : Nat → Int → Nat → Int → Ii → Jj → Prop) (w99 : ∀ (p3 : Nat) (l4 : Int) (p5 : Nat) (l6 : Int) (I : Ii) (J : Jj), r99 p3 l4 p5 l6 I J → Wz G X 9 (QsU G X (QsK G Q)) (aH + 0) (bH + 0) 99 [some (.ref (kadr G 1000)), some (.int (iZ l1)), some (.int (iZ l2)), some (.ref (kadr G p3)), some (.int (iZ l4)), some (.ref (kadr G p5)), some (.int (iZ l6)), none, none] [] I J) (r110 : Nat → Int → Nat → Int → Int → Ii → Jj → Prop) (w110 : ∀ (p3 : Nat) (l4 : Int) (p5 : Nat) (l6 : Int) (l7 : Int) (I : Ii) (J : Jj), r110 p3 l4 p5 l6 l7 I J → Wz G X 9 (QsU G X (QsK G Q)) (aH + 0) (bH + 0) 110 [some (.ref (kadr G 1000)), some (.int (iZ l1)), some (.int (iZ l2)), some (.ref (kadr G p3)), some (.int (iZ l4)), some (.ref (kadr G p5)), some (.int (iZ l6)), some (.int (iZ l7)), none] [] I J) : ∀ (n : Nat) (p3 : Nat) (l4 : Int) (p5 : Nat) (l6 : Int) (l7 : Int) (l8 : Int) (I : Ii) (J : Jj), L_X12_flow_122 l1 l2 Q r54 r99 r110 n p3 l4 p5 l6 l7 l8 I J → Wz G X 9 (QsU G X (QsK G Q)) (aH + 0) (bH + 0) 122 [some (.ref (kadr G 1000)), some (.int (iZ l1)), some (.int (iZ l2)), some (.ref (kadr G p3)), some (.int (iZ l4)), some (.ref (kadr G p5)), some (.int (iZ l6)), some (.int (iZ l7)), some (.int (iZ l8))] [] I J := by
  intro n
  induction n with
  | zero => intro p3 l4 p5 l6 l7 l8 I J h; exact False.elim h
  | succ n w122 =>
    intro p3 l4 p5 l6 l7 l8 I J h
    have h : Lb_X12_flow_122 l1 l2 Q r54 r99 r110 (L_X12_flow_122 l1 l2 Q r54 r99 r110 n) p3 l4 p5 l6 l7 l8 I J := h
    unfold Lb_X12_flow_122 at h
    generalize L_X12_flow_122 l1 l2 Q r54 r99 r110 n = r122 at h w122
    refine wz_iload C rfl dX12_flow_122 ?_
    refine wz_aload_n C rfl rfl dX12_flow_124 ?_
    refine wz_getI C rfl f_X12_flow_87 (sOw rfl (by decide)) dX12_flow_125 ?_
    obtain ⟨g56, h⟩ := h
    obtain ⟨g57, h⟩ := h
    refine wz_icmp_ge C (tgt := 173) g56 g57 dX12_flow_128 (by decide) (fun c => ?_) (fun c => ?_)
    · replace h := h.1 c
      refine wz_iinc_7 C rfl dX12_flow_173 ?_
      refine wz_goto C dX12_flow_176 (tgt := 110) (by decide) ?_
      exact Wz.less (a0 := aH + 0) (b0 := bH + 0) (by omega) (by omega) (Wz.drop (w110 p3 l4 p5 l6 (l7 + 1) I J h) (And.intro rfl (And.intro rfl (And.intro rfl (And.intro rfl (And.intro rfl (And.intro rfl (And.intro rfl (And.intro rfl trivial)))))))))
    · replace h := h.2 c
      refine wz_aload C rfl dX12_flow_131 ?_
      refine wz_iload C rfl dX12_flow_133 ?_
      obtain ⟨g58, h⟩ := h
      refine wy_iald C g58 dX12_flow_135 ?_
      obtain ⟨g59, h⟩ := h
      refine wz_if_lt C (tgt := 173) g59 dX12_flow_136 (by decide) (fun c => ?_) (fun c => ?_)
      · replace h := h.1 c
        refine wz_iinc_7 C rfl dX12_flow_173 ?_
        refine wz_goto C dX12_flow_176 (tgt := 110) (by decide) ?_
        exact Wz.less (a0 := aH + 0) (b0 := bH + 0) (by omega) (by omega) (Wz.drop (w110 p3 l4 p5 l6 (l7 + 1) I J h) (And.intro rfl (And.intro rfl (And.intro rfl (And.intro rfl (And.intro rfl (And.intro rfl (And.intro rfl (And.intro rfl trivial)))))))))
      · replace h := h.2 c
        refine wz_aload C rfl dX12_flow_139 ?_
        refine wz_iload C rfl dX12_flow_141 ?_
        obtain ⟨g60, h⟩ := h
        refine wy_iald C g60 dX12_flow_143 ?_
        obtain ⟨g61, h⟩ := h
        refine wz_if_ge C (tgt := 167) g61 dX12_flow_144 (by decide) (fun c => ?_) (fun c => ?_)
        · replace h := h.1 c
          refine wz_iinc_8 C rfl dX12_flow_167 ?_
          refine wz_goto C dX12_flow_170 (tgt := 122) (by decide) ?_
          exact Wz.less (a0 := aH + 0) (b0 := bH + 0) (by omega) (by omega) (w122 p3 l4 p5 l6 l7 (l8 + 1) I J h)
        · replace h := h.2 c
          refine wz_aload_n C rfl rfl dX12_flow_147 ?_
          refine wz_iload C rfl dX12_flow_148 ?_
          obtain ⟨g62, h⟩ := h
          refine wy_aald4 C g62 dX12_flow_150 ?_
          refine wz_iload C rfl dX12_flow_151 ?_
          obtain ⟨g63, h⟩ := h
          refine wy_iald C g63 dX12_flow_153 ?_
          obtain ⟨g64, h⟩ := h
          refine wz_if_le C (tgt := 167) g64 dX12_flow_154 (by decide) (fun c => ?_) (fun c => ?_)
          · replace h := h.1 c
            refine wz_iinc_8 C rfl dX12_flow_167 ?_
            refine wz_goto C dX12_flow_170 (tgt := 122) (by decide) ?_
            exact Wz.less (a0 := aH + 0) (b0 := bH + 0) (by omega) (by omega) (w122 p3 l4 p5 l6 l7 (l8 + 1) I J h)
          · replace h := h.2 c
            refine wz_aload C rfl dX12_flow_157 ?_
            refine wz_iload C rfl dX12_flow_159 ?_
            refine wz_iload C rfl dX12_flow_161 ?_
            obtain ⟨g65, h⟩ := h
            refine wy_iast C g65 dX12_flow_163 (fun I66 e => ?_)
            replace h := h I66 e
            refine wz_iconst C dX12_flow_164 ?_
            refine wz_istore_6 C rfl dX12_flow_165 ?_
            refine wz_iinc_8 C rfl dX12_flow_167 ?_
            refine wz_goto C dX12_flow_170 (tgt := 122) (by decide) ?_
            exact Wz.less (a0 := aH + 0) (b0 := bH + 0) (by omega) (by omega) (w122 p3 l4 p5 1 l7 (l8 + 1) I66 J h)
set_option maxHeartbeats 4000000 in
set_option maxRecDepth 100000 in
theorem lk_X12_flow_110 (G : KG) (hG : Kok G) (hW : KWx G) (X : KX) (hX : KR X = rm_X12_flow) (C : Fr G X cX12_flow 9 yX12_flow.cls (some (.array .int)) wsX12_flow) (aH bH : Nat) (haH : 1 ≤ aH ∧ 14 ≤ bH) (l1 : Int) (l2 : Int) (Q : Nat → Ii → Jj → Prop) (r54 : Nat → Int → Ii → Jj → Prop) (w54 : ∀ (p3 : Nat) (l4 : Int) (I : Ii) (J : Jj), r54 p3 l4 I J → Wz G X 9 (QsU G X (QsK G Q)) aH bH 54 [some (.ref (kadr G 1000)), some (.int (iZ l1)), some (.int (iZ l2)), some (.ref (kadr G p3)), some (.int (iZ l4)), none, none, none, none] [] I J) (r99 : Nat → Int → Nat → Int → Ii → Jj → Prop) (w99 : ∀ (p3 : Nat) (l4 : Int) (p5 : Nat) (l6 : Int) (I : Ii) (J : Jj), r99 p3 l4 p5 l6 I J → Wz G X 9 (QsU G X (QsK G Q)) (aH + 0) (bH + 0) 99 [some (.ref (kadr G 1000)), some (.int (iZ l1)), some (.int (iZ l2)), some (.ref (kadr G p3)), some (.int (iZ l4)), some (.ref (kadr G p5)), some (.int (iZ l6)), none, none] [] I J) : ∀ (n : Nat) (p3 : Nat) (l4 : Int) (p5 : Nat) (l6 : Int) (l7 : Int) (I : Ii) (J : Jj), L_X12_flow_110 l1 l2 Q r54 r99 n p3 l4 p5 l6 l7 I J → Wz G X 9 (QsU G X (QsK G Q)) (aH + 0) (bH + 0) 110 [some (.ref (kadr G 1000)), some (.int (iZ l1)), some (.int (iZ l2)), some (.ref (kadr G p3)), some (.int (iZ l4)), some (.ref (kadr G p5)), some (.int (iZ l6)), some (.int (iZ l7)), none] [] I J := by
  intro n
  induction n with
  | zero => intro p3 l4 p5 l6 l7 I J h; exact False.elim h
  | succ n w110 =>
    intro p3 l4 p5 l6 l7 I J h
    have h : Lb_X12_flow_110 l1 l2 Q r54 r99 (L_X12_flow_110 l1 l2 Q r54 r99 n) p3 l4 p5 l6 l7 I J := h
    unfold Lb_X12_flow_110 at h
    generalize L_X12_flow_110 l1 l2 Q r54 r99 n = r110 at h w110
    refine wz_iload C rfl dX12_flow_110 ?_
    refine wz_aload_n C rfl rfl dX12_flow_112 ?_
    refine wz_getI C rfl f_X12_flow_87 (sOw rfl (by decide)) dX12_flow_113 ?_
    obtain ⟨g41, h⟩ := h
    obtain ⟨g42, h⟩ := h
    refine wz_icmp_ge C (tgt := 179) g41 g42 dX12_flow_116 (by decide) (fun c => ?_) (fun c => ?_)
    · replace h := h.1 c
      refine wz_goto C dX12_flow_179 (tgt := 99) (by decide) ?_
      exact Wz.less (a0 := aH + 0) (b0 := bH + 0) (by omega) (by omega) (Wz.drop (w99 p3 l4 p5 l6 I J h) (And.intro rfl (And.intro rfl (And.intro rfl (And.intro rfl (And.intro rfl (And.intro rfl (And.intro rfl trivial))))))))
    · replace h := h.2 c
      refine wz_iconst C dX12_flow_119 ?_
      refine wz_istore_8 C rfl dX12_flow_120 ?_
      obtain ⟨n, h⟩ := h
      exact Wz.less (a0 := aH + 0) (b0 := bH + 0) (by omega) (by omega) (lk_X12_flow_122 G hG hW X hX C aH bH haH l1 l2 Q r54 w54 r99 w99 r110 w110 n p3 l4 p5 l6 l7 0 I J h)
set_option maxHeartbeats 4000000 in
set_option maxRecDepth 100000 in
theorem lk_X12_flow_195 (G : KG) (hG : Kok G) (hW : KWx G) (X : KX) (hX : KR X = rm_X12_flow) (C : Fr G X cX12_flow 9 yX12_flow.cls (some (.array .int)) wsX12_flow) (l1 : Int) (l2 : Int) (Q : Nat → Ii → Jj → Prop) : ∀ (n : Nat) (l4 : Int) (p5 : Nat) (l7 : Int) (l8 : Int) (I : Ii) (J : Jj), L_X12_flow_195 l1 l2 Q n l4 p5 l7 l8 I J → Wz G X 9 (QsU G X (QsK G Q)) 1 14 195 [some (.ref (kadr G 1000)), none, none, none, some (.int (iZ l4)), some (.ref (kadr G p5)), none, some (.int (iZ l7)), some (.int (iZ l8))] [] I J := by
  intro n
  induction n with
  | zero => intro l4 p5 l7 l8 I J h; exact False.elim h
  | succ n w195 =>
    intro l4 p5 l7 l8 I J h
    have h : Lb_X12_flow_195 l1 l2 Q (L_X12_flow_195 l1 l2 Q n) l4 p5 l7 l8 I J := h
    unfold Lb_X12_flow_195 at h
    generalize L_X12_flow_195 l1 l2 Q n = r195 at h w195
    refine wz_iload C rfl dX12_flow_195 ?_
    refine wz_aload_n C rfl rfl dX12_flow_197 ?_
    refine wz_getI C rfl f_X12_flow_87 (sOw rfl (by decide)) dX12_flow_198 ?_
    obtain ⟨g30, h⟩ := h
    obtain ⟨g31, h⟩ := h
    refine wz_icmp_ge C (tgt := 231) g30 g31 dX12_flow_201 (by decide) (fun c => ?_) (fun c => ?_)
    · replace h := h.1 c
      refine wz_iconst C dX12_flow_231 ?_
      obtain ⟨g32, h⟩ := h
      refine wy_newI C 14 g32 (by decide) (by decide +kernel) dX12_flow_232 (a' := 0) (b' := 0) (by omega) (by omega) (fun I33 e => ?_)
      replace h := h I33 e
      replace h := h _ rfl
      refine wz_dup C rfl dX12_flow_234 ?_
      refine wz_iconst C dX12_flow_235 ?_
      refine wz_iload C rfl dX12_flow_236 ?_
      obtain ⟨g35, h⟩ := h
      refine wy_iast C g35 dX12_flow_238 (fun I36 e => ?_)
      replace h := h I36 e
      refine wz_dup C rfl dX12_flow_239 ?_
      refine wz_iconst C dX12_flow_240 ?_
      refine wz_iload C rfl dX12_flow_241 ?_
      obtain ⟨g37, h⟩ := h
      refine wy_iast C g37 dX12_flow_243 (fun I38 e => ?_)
      replace h := h I38 e
      exact wy_aret C (Or.inr ⟨_, rfl⟩) dX12_flow_244 ⟨_, rfl, h⟩
    · replace h := h.2 c
      refine wz_iload C rfl dX12_flow_204 ?_
      refine wz_aload C rfl dX12_flow_206 ?_
      refine wz_iload C rfl dX12_flow_208 ?_
      obtain ⟨g39, h⟩ := h
      refine wy_iald C g39 dX12_flow_210 ?_
      obtain ⟨g40, h⟩ := h
      refine wz_if_ge C (tgt := 218) g40 dX12_flow_211 (by decide) (fun c => ?_) (fun c => ?_)
      · replace h := h.1 c
        refine wz_iconst C dX12_flow_218 ?_
        refine wz_iload C rfl dX12_flow_219 ?_
        refine wd_ishl C dX12_flow_221 ?_
        refine wd_ior C dX12_flow_222 ?_
        refine wz_istore_7 C rfl dX12_flow_223 ?_
        refine wz_iinc_8 C rfl dX12_flow_225 ?_
        refine wz_goto C dX12_flow_228 (tgt := 195) (by decide) ?_
        exact Wz.less (a0 := 1) (b0 := 14) (by omega) (by omega) (w195 l4 p5 (orZ l7 (shlZ 1 l8)) (l8 + 1) I J h)
      · replace h := h.2 c
        refine wz_iconst C dX12_flow_214 ?_
        refine wz_goto C dX12_flow_215 (tgt := 222) (by decide) ?_
        refine wd_ior C dX12_flow_222 ?_
        refine wz_istore_7 C rfl dX12_flow_223 ?_
        refine wz_iinc_8 C rfl dX12_flow_225 ?_
        refine wz_goto C dX12_flow_228 (tgt := 195) (by decide) ?_
        exact Wz.less (a0 := 1) (b0 := 14) (by omega) (by omega) (w195 l4 p5 (orZ l7 0) (l8 + 1) I J h)
set_option maxHeartbeats 4000000 in
set_option maxRecDepth 100000 in
theorem lk_X12_flow_289 (G : KG) (hG : Kok G) (hW : KWx G) (X : KX) (hX : KR X = rm_X12_flow) (C : Fr G X cX12_flow 9 yX12_flow.cls (some (.array .int)) wsX12_flow) (aH bH : Nat) (haH : 1 ≤ aH ∧ 14 ≤ bH) (l1 : Int) (l2 : Int) (Q : Nat → Ii → Jj → Prop) (r54 : Nat → Int → Ii → Jj → Prop) (w54 : ∀ (p3 : Nat) (l4 : Int) (I : Ii) (J : Jj), r54 p3 l4 I J → Wz G X 9 (QsU G X (QsK G Q)) aH bH 54 [some (.ref (kadr G 1000)), some (.int (iZ l1)), some (.int (iZ l2)), some (.ref (kadr G p3)), some (.int (iZ l4)), none, none, none, none] [] I J) : ∀ (n : Nat) (p3 : Nat) (l4 : Int) (p5 : Nat) (l7 : Int) (l8 : Int) (I : Ii) (J : Jj), L_X12_flow_289 l1 l2 Q r54 n p3 l4 p5 l7 l8 I J → Wz G X 9 (QsU G X (QsK G Q)) (aH + 0) (bH + 0) 289 [some (.ref (kadr G 1000)), some (.int (iZ l1)), some (.int (iZ l2)), some (.ref (kadr G p3)), some (.int (iZ l4)), some (.ref (kadr G p5)), none, some (.int (iZ l7)), some (.int (iZ l8))] [] I J := by
  intro n
  induction n with
  | zero => intro p3 l4 p5 l7 l8 I J h; exact False.elim h
  | succ n w289 =>
    intro p3 l4 p5 l7 l8 I J h
    have h : Lb_X12_flow_289 l1 l2 Q r54 (L_X12_flow_289 l1 l2 Q r54 n) p3 l4 p5 l7 l8 I J := h
    unfold Lb_X12_flow_289 at h
    generalize L_X12_flow_289 l1 l2 Q r54 n = r289 at h w289
    refine wz_iload C rfl dX12_flow_289 ?_
    refine wz_iload_n C rfl rfl dX12_flow_291 ?_
    obtain ⟨g43, h⟩ := h
    obtain ⟨g44, h⟩ := h
    refine wz_icmp_eq C (tgt := 335) g43 g44 dX12_flow_292 (by decide) (fun c => ?_) (fun c => ?_)
    · replace h := h.1 c
      refine wz_iload C rfl dX12_flow_335 ?_
      refine wz_iload C rfl dX12_flow_337 ?_
      refine wz_iadd C dX12_flow_339 ?_
      refine wz_istore_4 C rfl dX12_flow_340 ?_
      refine wz_goto C dX12_flow_342 (tgt := 54) (by decide) ?_
      exact Wz.less (a0 := aH) (b0 := bH) (by omega) (by omega) (Wz.drop (w54 p3 (l4 + l7) I J h) (And.intro rfl (And.intro rfl (And.intro rfl (And.intro rfl (And.intro rfl trivial))))))
    · replace h := h.2 c
      refine wz_aload_n C rfl rfl dX12_flow_295 ?_
      refine wz_aload C rfl dX12_flow_296 ?_
      refine wz_iload C rfl dX12_flow_298 ?_
      obtain ⟨g45, h⟩ := h
      refine wy_iald C g45 dX12_flow_300 ?_
      obtain ⟨g46, h⟩ := h
      refine wy_aald4 C g46 dX12_flow_301 ?_
      refine wz_iload C rfl dX12_flow_302 ?_
      refine wz_dup2 C rfl rfl dX12_flow_304 ?_
      obtain ⟨g47, h⟩ := h
      refine wy_iald C g47 dX12_flow_305 ?_
      refine wz_iload C rfl dX12_flow_306 ?_
      refine wz_isub C dX12_flow_308 ?_
      obtain ⟨g48, h⟩ := h
      refine wy_iast C g48 dX12_flow_309 (fun I49 e => ?_)
      replace h := h I49 e
      refine wz_aload_n C rfl rfl dX12_flow_310 ?_
      refine wz_iload C rfl dX12_flow_311 ?_
      obtain ⟨g50, h⟩ := h
      refine wy_aald4 C g50 dX12_flow_313 ?_
      refine wz_aload C rfl dX12_flow_314 ?_
      refine wz_iload C rfl dX12_flow_316 ?_
      obtain ⟨g51, h⟩ := h
      refine wy_iald C g51 dX12_flow_318 ?_
      refine wz_dup2 C rfl rfl dX12_flow_319 ?_
      obtain ⟨g52, h⟩ := h
      refine wy_iald C g52 dX12_flow_320 ?_
      refine wz_iload C rfl dX12_flow_321 ?_
      refine wz_iadd C dX12_flow_323 ?_
      obtain ⟨g53, h⟩ := h
      refine wy_iast C g53 dX12_flow_324 (fun I54 e => ?_)
      replace h := h I54 e
      refine wz_aload C rfl dX12_flow_325 ?_
      refine wz_iload C rfl dX12_flow_327 ?_
      obtain ⟨g55, h⟩ := h
      refine wy_iald C g55 dX12_flow_329 ?_
      refine wz_istore_8 C rfl dX12_flow_330 ?_
      refine wz_goto C dX12_flow_332 (tgt := 289) (by decide) ?_
      exact Wz.less (a0 := aH + 0) (b0 := bH + 0) (by omega) (by omega) (w289 p3 l4 p5 l7 (I54 p5 l8.toNat) I54 J h)
set_option maxHeartbeats 4000000 in
set_option maxRecDepth 100000 in
theorem lk_X12_flow_253 (G : KG) (hG : Kok G) (hW : KWx G) (X : KX) (hX : KR X = rm_X12_flow) (C : Fr G X cX12_flow 9 yX12_flow.cls (some (.array .int)) wsX12_flow) (aH bH : Nat) (haH : 1 ≤ aH ∧ 14 ≤ bH) (l1 : Int) (l2 : Int) (Q : Nat → Ii → Jj → Prop) (r54 : Nat → Int → Ii → Jj → Prop) (w54 : ∀ (p3 : Nat) (l4 : Int) (I : Ii) (J : Jj), r54 p3 l4 I J → Wz G X 9 (QsU G X (QsK G Q)) aH bH 54 [some (.ref (kadr G 1000)), some (.int (iZ l1)), some (.int (iZ l2)), some (.ref (kadr G p3)), some (.int (iZ l4)), none, none, none, none] [] I J) : ∀ (n : Nat) (p3 : Nat) (l4 : Int) (p5 : Nat) (l7 : Int) (l8 : Int) (I : Ii) (J : Jj), L_X12_flow_253 l1 l2 Q r54 n p3 l4 p5 l7 l8 I J → Wz G X 9 (QsU G X (QsK G Q)) (aH + 0) (bH + 0) 253 [some (.ref (kadr G 1000)), some (.int (iZ l1)), some (.int (iZ l2)), some (.ref (kadr G p3)), some (.int (iZ l4)), some (.ref (kadr G p5)), none, some (.int (iZ l7)), some (.int (iZ l8))] [] I J := by
  intro n
  induction n with
  | zero => intro p3 l4 p5 l7 l8 I J h; exact False.elim h
  | succ n w253 =>
    intro p3 l4 p5 l7 l8 I J h
    have h : Lb_X12_flow_253 l1 l2 Q r54 (L_X12_flow_253 l1 l2 Q r54 n) p3 l4 p5 l7 l8 I J := h
    unfold Lb_X12_flow_253 at h
    generalize L_X12_flow_253 l1 l2 Q r54 n = r253 at h w253
    refine wz_iload C rfl dX12_flow_253 ?_
    refine wz_iload_n C rfl rfl dX12_flow_255 ?_
    obtain ⟨g23, h⟩ := h
    obtain ⟨g24, h⟩ := h
    refine wz_icmp_eq C (tgt := 286) g23 g24 dX12_flow_256 (by decide) (fun c => ?_) (fun c => ?_)
    · replace h := h.1 c
      refine wz_iload_n C rfl rfl dX12_flow_286 ?_
      refine wz_istore_8 C rfl dX12_flow_287 ?_
      obtain ⟨n, h⟩ := h
      exact Wz.less (a0 := aH + 0) (b0 := bH + 0) (by omega) (by omega) (lk_X12_flow_289 G hG hW X hX C aH bH haH l1 l2 Q r54 w54 n p3 l4 p5 l7 l2 I J h)
    · replace h := h.2 c
      refine wz_iload C rfl dX12_flow_259 ?_
      refine wz_aload_n C rfl rfl dX12_flow_261 ?_
      refine wz_aload C rfl dX12_flow_262 ?_
      refine wz_iload C rfl dX12_flow_264 ?_
      obtain ⟨g25, h⟩ := h
      refine wy_iald C g25 dX12_flow_266 ?_
      obtain ⟨g26, h⟩ := h
      refine wy_aald4 C g26 dX12_flow_267 ?_
      refine wz_iload C rfl dX12_flow_268 ?_
      obtain ⟨g27, h⟩ := h
      refine wy_iald C g27 dX12_flow_270 ?_
      refine wd_min C (st := []) h (by decide +kernel) (by decide +kernel) (by decide +kernel) (by decide +kernel) (by rw [hX]; exact ⟨Nat.le_of_ble_eq_true rfl, Nat.le_of_ble_eq_true rfl⟩) dX12_flow_271 (fun v28 I28 J28 h => ?_)
      refine wz_istore_7 C rfl dX12_flow_274 ?_
      refine wz_aload C rfl dX12_flow_276 ?_
      refine wz_iload C rfl dX12_flow_278 ?_
      obtain ⟨g29, h⟩ := h
      refine wy_iald C g29 dX12_flow_280 ?_
      refine wz_istore_8 C rfl dX12_flow_281 ?_
      refine wz_goto C dX12_flow_283 (tgt := 253) (by decide) ?_
      exact Wz.less (a0 := aH + 0) (b0 := bH + 0) (by omega) (by omega) (w253 p3 l4 p5 v28 (I28 p5 l8.toNat) I28 J28 h)
set_option maxHeartbeats 4000000 in
set_option maxRecDepth 100000 in
theorem lk_X12_flow_99 (G : KG) (hG : Kok G) (hW : KWx G) (X : KX) (hX : KR X = rm_X12_flow) (C : Fr G X cX12_flow 9 yX12_flow.cls (some (.array .int)) wsX12_flow) (aH bH : Nat) (haH : 1 ≤ aH ∧ 14 ≤ bH) (l1 : Int) (l2 : Int) (Q : Nat → Ii → Jj → Prop) (r54 : Nat → Int → Ii → Jj → Prop) (w54 : ∀ (p3 : Nat) (l4 : Int) (I : Ii) (J : Jj), r54 p3 l4 I J → Wz G X 9 (QsU G X (QsK G Q)) aH bH 54 [some (.ref (kadr G 1000)), some (.int (iZ l1)), some (.int (iZ l2)), some (.ref (kadr G p3)), some (.int (iZ l4)), none, none, none, none] [] I J) : ∀ (n : Nat) (p3 : Nat) (l4 : Int) (p5 : Nat) (l6 : Int) (I : Ii) (J : Jj), L_X12_flow_99 l1 l2 Q r54 n p3 l4 p5 l6 I J → Wz G X 9 (QsU G X (QsK G Q)) (aH + 0) (bH + 0) 99 [some (.ref (kadr G 1000)), some (.int (iZ l1)), some (.int (iZ l2)), some (.ref (kadr G p3)), some (.int (iZ l4)), some (.ref (kadr G p5)), some (.int (iZ l6)), none, none] [] I J := by
  intro n
  induction n with
  | zero => intro p3 l4 p5 l6 I J h; exact False.elim h
  | succ n w99 =>
    intro p3 l4 p5 l6 I J h
    have h : Lb_X12_flow_99 l1 l2 Q r54 (L_X12_flow_99 l1 l2 Q r54 n) p3 l4 p5 l6 I J := h
    unfold Lb_X12_flow_99 at h
    generalize L_X12_flow_99 l1 l2 Q r54 n = r99 at h w99
    refine wz_iload C rfl dX12_flow_99 ?_
    obtain ⟨g20, h⟩ := h
    refine wz_if_eq C (tgt := 182) g20 dX12_flow_101 (by decide) (fun c => ?_) (fun c => ?_)
    · replace h := h.1 c
      refine wz_aload C rfl dX12_flow_182 ?_
      refine wz_iload_n C rfl rfl dX12_flow_184 ?_
      obtain ⟨g21, h⟩ := h
      refine wy_iald C g21 dX12_flow_185 ?_
      obtain ⟨g22, h⟩ := h
      refine wz_if_ge C (tgt := 245) g22 dX12_flow_186 (by decide) (fun c => ?_) (fun c => ?_)
      · replace h := h.1 c
        refine wz_sipush C (by decide) dX12_flow_245 ?_
        refine wz_istore_7 C rfl dX12_flow_248 ?_
        refine wz_iload_n C rfl rfl dX12_flow_250 ?_
        refine wz_istore_8 C rfl dX12_flow_251 ?_
        obtain ⟨n, h⟩ := h
        exact Wz.less (a0 := aH + 0) (b0 := bH + 0) (by omega) (by omega) (Wz.drop (lk_X12_flow_253 G hG hW X hX C aH bH haH l1 l2 Q r54 w54 n p3 l4 p5 9999 l2 I J h) (And.intro rfl (And.intro rfl (And.intro rfl (And.intro rfl (And.intro rfl (And.intro rfl (And.intro rfl (And.intro rfl trivial)))))))))
      · replace h := h.2 c
        refine wz_iconst C dX12_flow_189 ?_
        refine wz_istore_7 C rfl dX12_flow_190 ?_
        refine wz_iconst C dX12_flow_192 ?_
        refine wz_istore_8 C rfl dX12_flow_193 ?_
        obtain ⟨n, h⟩ := h
        exact Wz.less (a0 := 1) (b0 := 14) (by omega) (by omega) (Wz.drop (lk_X12_flow_195 G hG hW X hX C l1 l2 Q n l4 p5 0 0 I J h) (And.intro rfl (And.intro rfl (And.intro rfl (And.intro rfl (And.intro rfl trivial))))))
    · replace h := h.2 c
      refine wz_iconst C dX12_flow_104 ?_
      refine wz_istore_6 C rfl dX12_flow_105 ?_
      refine wz_iconst C dX12_flow_107 ?_
      refine wz_istore_7 C rfl dX12_flow_108 ?_
      obtain ⟨n, h⟩ := h
      exact Wz.less (a0 := aH + 0) (b0 := bH + 0) (by omega) (by omega) (lk_X12_flow_110 G hG hW X hX C aH bH haH l1 l2 Q r54 w54 r99 w99 n p3 l4 p5 0 0 I J h)
set_option maxHeartbeats 4000000 in
set_option maxRecDepth 100000 in
theorem lk_X12_flow_65 (G : KG) (hG : Kok G) (hW : KWx G) (X : KX) (hX : KR X = rm_X12_flow) (C : Fr G X cX12_flow 9 yX12_flow.cls (some (.array .int)) wsX12_flow) (aH bH : Nat) (haH : 1 ≤ aH ∧ 14 ≤ bH) (l1 : Int) (l2 : Int) (Q : Nat → Ii → Jj → Prop) (r54 : Nat → Int → Ii → Jj → Prop) (w54 : ∀ (p3 : Nat) (l4 : Int) (I : Ii) (J : Jj), r54 p3 l4 I J → Wz G X 9 (QsU G X (QsK G Q)) aH bH 54 [some (.ref (kadr G 1000)), some (.int (iZ l1)), some (.int (iZ l2)), some (.ref (kadr G p3)), some (.int (iZ l4)), none, none, none, none] [] I J) : ∀ (n : Nat) (p3 : Nat) (l4 : Int) (p5 : Nat) (l6 : Int) (I : Ii) (J : Jj), L_X12_flow_65 l1 l2 Q r54 n p3 l4 p5 l6 I J → Wz G X 9 (QsU G X (QsK G Q)) (aH + 0) (bH + 0) 65 [some (.ref (kadr G 1000)), some (.int (iZ l1)), some (.int (iZ l2)), some (.ref (kadr G p3)), some (.int (iZ l4)), some (.ref (kadr G p5)), some (.int (iZ l6)), none, none] [] I J := by
  intro n
  induction n with
  | zero => intro p3 l4 p5 l6 I J h; exact False.elim h
  | succ n w65 =>
    intro p3 l4 p5 l6 I J h
    have h : Lb_X12_flow_65 l1 l2 Q r54 (L_X12_flow_65 l1 l2 Q r54 n) p3 l4 p5 l6 I J := h
    unfold Lb_X12_flow_65 at h
    generalize L_X12_flow_65 l1 l2 Q r54 n = r65 at h w65
    refine wz_iload C rfl dX12_flow_65 ?_
    refine wz_aload_n C rfl rfl dX12_flow_67 ?_
    refine wz_getI C rfl f_X12_flow_87 (sOw rfl (by decide)) dX12_flow_68 ?_
    obtain ⟨g13, h⟩ := h
    obtain ⟨g14, h⟩ := h
    refine wz_icmp_ge C (tgt := 96) g13 g14 dX12_flow_71 (by decide) (fun c => ?_) (fun c => ?_)
    · replace h := h.1 c
      refine wz_iconst C dX12_flow_96 ?_
      refine wz_istore_6 C rfl dX12_flow_97 ?_
      obtain ⟨n, h⟩ := h
      exact Wz.less (a0 := aH + 0) (b0 := bH + 0) (by omega) (by omega) (lk_X12_flow_99 G hG hW X hX C aH bH haH l1 l2 Q r54 w54 n p3 l4 p5 1 I J h)
    · replace h := h.2 c
      refine wz_aload C rfl dX12_flow_74 ?_
      refine wz_iload C rfl dX12_flow_76 ?_
      refine wz_iload C rfl dX12_flow_78 ?_
      refine wz_iload_n C rfl rfl dX12_flow_80 ?_
      obtain ⟨g15, h⟩ := h
      refine wz_icmp_ne C (tgt := 88) g13 g15 dX12_flow_81 (by decide) (fun c => ?_) (fun c => ?_)
      · replace h := h.1 c
        refine wz_iconst C dX12_flow_88 ?_
        obtain ⟨g16, h⟩ := h
        refine wy_iast C g16 dX12_flow_89 (fun I17 e => ?_)
        replace h := h I17 e
        refine wz_iinc_6 C rfl dX12_flow_90 ?_
        refine wz_goto C dX12_flow_93 (tgt := 65) (by decide) ?_
        exact Wz.less (a0 := aH + 0) (b0 := bH + 0) (by omega) (by omega) (w65 p3 l4 p5 (l6 + 1) I17 J h)
      · replace h := h.2 c
        refine wz_iload_n C rfl rfl dX12_flow_84 ?_
        refine wz_goto C dX12_flow_85 (tgt := 89) (by decide) ?_
        obtain ⟨g18, h⟩ := h
        refine wy_iast C g18 dX12_flow_89 (fun I19 e => ?_)
        replace h := h I19 e
        refine wz_iinc_6 C rfl dX12_flow_90 ?_
        refine wz_goto C dX12_flow_93 (tgt := 65) (by decide) ?_
        exact Wz.less (a0 := aH + 0) (b0 := bH + 0) (by omega) (by omega) (w65 p3 l4 p5 (l6 + 1) I19 J h)
set_option maxHeartbeats 4000000 in
set_option maxRecDepth 100000 in
theorem lk_X12_flow_54 (G : KG) (hG : Kok G) (hW : KWx G) (X : KX) (hX : KR X = rm_X12_flow) (C : Fr G X cX12_flow 9 yX12_flow.cls (some (.array .int)) wsX12_flow) (l1 : Int) (l2 : Int) (Q : Nat → Ii → Jj → Prop) : ∀ (n : Nat) (p3 : Nat) (l4 : Int) (I : Ii) (J : Jj), L_X12_flow_54 l1 l2 Q n p3 l4 I J → Wz G X 9 (QsU G X (QsK G Q)) (n * 1 + 1) (n * 14 + 14) 54 [some (.ref (kadr G 1000)), some (.int (iZ l1)), some (.int (iZ l2)), some (.ref (kadr G p3)), some (.int (iZ l4)), none, none, none, none] [] I J := by
  intro n
  induction n with
  | zero => intro p3 l4 I J h; exact False.elim h
  | succ n w54 =>
    intro p3 l4 I J h
    have h : Lb_X12_flow_54 l1 l2 Q (L_X12_flow_54 l1 l2 Q n) p3 l4 I J := h
    unfold Lb_X12_flow_54 at h
    generalize L_X12_flow_54 l1 l2 Q n = r54 at h w54
    refine Wz.less (a0 := n * 1 + 1 + 1) (b0 := n * 14 + 14 + 14) (by omega) (by omega) ?_
    have haH : 1 ≤ n * 1 + 1 ∧ 14 ≤ n * 14 + 14 := by omega
    generalize n * 1 + 1 = aH at w54 haH ⊢
    generalize n * 14 + 14 = bH at w54 haH ⊢
    refine wz_aload_n C rfl rfl dX12_flow_54 ?_
    refine wz_getI C rfl f_X12_flow_87 (sOw rfl (by decide)) dX12_flow_55 ?_
    obtain ⟨g10, h⟩ := h
    refine wy_newI C 14 g10 (by decide) (by decide +kernel) dX12_flow_58 (a' := aH + 0) (b' := bH + 0) (by omega) (by omega) (fun I11 e => ?_)
    replace h := h I11 e
    replace h := h _ rfl
    refine wz_astore_5 C rfl dX12_flow_60 ?_
    refine wz_iconst C dX12_flow_62 ?_
    refine wz_istore_6 C rfl dX12_flow_63 ?_
    obtain ⟨n, h⟩ := h
    exact Wz.less (a0 := aH + 0) (b0 := bH + 0) (by omega) (by omega) (lk_X12_flow_65 G hG hW X hX C aH bH haH l1 l2 Q r54 w54 n p3 l4 ((I 999 0).toNat) 0 I11 J h)
set_option maxHeartbeats 4000000 in
set_option maxRecDepth 100000 in
theorem lk_X12_flow_16 (G : KG) (hG : Kok G) (hW : KWx G) (X : KX) (hX : KR X = rm_X12_flow) (C : Fr G X cX12_flow 9 yX12_flow.cls (some (.array .int)) wsX12_flow) (l1 : Int) (l2 : Int) (Q : Nat → Ii → Jj → Prop) : ∀ (n : Nat) (p3 : Nat) (l4 : Int) (I : Ii) (J : Jj), L_X12_flow_16 l1 l2 Q n p3 l4 I J → Wz G X 9 (QsU G X (QsK G Q)) 121 1694 16 [some (.ref (kadr G 1000)), some (.int (iZ l1)), some (.int (iZ l2)), some (.ref (kadr G p3)), some (.int (iZ l4)), none, none, none, none] [] I J := by
  intro n
  induction n with
  | zero => intro p3 l4 I J h; exact False.elim h
  | succ n w16 =>
    intro p3 l4 I J h
    have h : Lb_X12_flow_16 l1 l2 Q (L_X12_flow_16 l1 l2 Q n) p3 l4 I J := h
    unfold Lb_X12_flow_16 at h
    generalize L_X12_flow_16 l1 l2 Q n = r16 at h w16
    refine wz_iload C rfl dX12_flow_16 ?_
    refine wz_aload_n C rfl rfl dX12_flow_18 ?_
    refine wz_getI C rfl f_X12_flow_87 (sOw rfl (by decide)) dX12_flow_19 ?_
    obtain ⟨g4, h⟩ := h
    obtain ⟨g5, h⟩ := h
    refine wz_icmp_ge C (tgt := 51) g4 g5 dX12_flow_22 (by decide) (fun c => ?_) (fun c => ?_)
    · replace h := h.1 c
      refine wz_iconst C dX12_flow_51 ?_
      refine wz_istore_4 C rfl dX12_flow_52 ?_
      obtain ⟨n, hn, h⟩ := h
      exact Wz.less (a0 := n * 1 + 1) (b0 := n * 14 + 14) (by omega) (by omega) (lk_X12_flow_54 G hG hW X hX C l1 l2 Q n p3 0 I J h)
    · replace h := h.2 c
      refine wz_aload_n C rfl rfl dX12_flow_25 ?_
      refine wz_getR C (j := 1005) f_X12_flow_28 (sOw rfl (by decide)) (by decide) dX12_flow_26 ?_
      refine wz_iload C rfl dX12_flow_29 ?_
      obtain ⟨g6, h⟩ := h
      refine wy_aald6 C g6 dX12_flow_31 ?_
      refine wz_iconst C dX12_flow_32 ?_
      refine wz_aload_n C rfl rfl dX12_flow_33 ?_
      refine wz_iload C rfl dX12_flow_34 ?_
      obtain ⟨g7, h⟩ := h
      refine wy_aald4 C g7 dX12_flow_36 ?_
      refine wz_iconst C dX12_flow_37 ?_
      refine wz_aload_n C rfl rfl dX12_flow_38 ?_
      refine wz_getI C rfl f_X12_flow_87 (sOw rfl (by decide)) dX12_flow_39 ?_
      obtain ⟨g9, h⟩ := h
      refine wy_copyWD C (sRw_tab g6) g9 (by decide +kernel) (by decide +kernel) (by decide +kernel) (by decide +kernel) (by rw [hX]; exact ⟨Nat.le_of_ble_eq_true rfl, Nat.le_of_ble_eq_true rfl⟩) (by decide) dX12_flow_42 (fun I8 e => ?_)
      replace h := h I8 e
      refine wz_iinc_4 C rfl dX12_flow_45 ?_
      refine wz_goto C dX12_flow_48 (tgt := 16) (by decide) ?_
      exact Wz.less (a0 := 121) (b0 := 1694) (by omega) (by omega) (w16 p3 (l4 + 1) I8 J h)
set_option maxHeartbeats 4000000 in
set_option maxRecDepth 100000 in
theorem k_X12_flow (G : KG) (hG : Kok G) (hW : KWx G)  (l1 : Int) (l2 : Int) (I : Ii) (J : Jj) (Q : Nat → Ii → Jj → Prop) (h : wp_X12_flow l1 l2 I J Q) : Ctr G yX12_flow wsX12_flow rm_X12_flow [.ref (kadr G 1000), .int (iZ l1), .int (iZ l2)] (I, J) (QsK G Q) := by
  unfold wp_X12_flow at h
  refine Ctr.ofZ (cc := cX12_flow) (nL := 9) (ret := (some (.array .int))) [some (.ref (kadr G 1000)), some (.int (iZ l1)), some (.int (iZ l2)), none, none, none, none, none, none] hG (by decide +kernel) rfl (Nat.le_of_ble_eq_true rfl) (Nat.le_of_ble_eq_true rfl) (by simp [lvA, lv_args, Value.category]) ?_
  intro X hX C
  refine (?_ : Wz G X 9 (QsU G X (QsK G Q)) 136 1904 0 [some (.ref (kadr G 1000)), some (.int (iZ l1)), some (.int (iZ l2)), none, none, none, none, none, none] [] I J)
  refine wz_aload_n C rfl rfl dX12_flow_0 ?_
  refine wz_getI C rfl f_X12_flow_87 (sOw rfl (by decide)) dX12_flow_1 ?_
  refine wz_aload_n C rfl rfl dX12_flow_4 ?_
  refine wz_getI C rfl f_X12_flow_87 (sOw rfl (by decide)) dX12_flow_5 ?_
  obtain ⟨g1, h⟩ := h
  refine wy_mna C hW 14 g1 (by decide) (by decide +kernel) (by decide +kernel) dX12_flow_8 (a' := 121) (b' := 1694) (by omega) (by omega) (fun I2 e => ?_)
  replace h := h I2 e
  replace h := h _ rfl
  refine wz_astore_3 C rfl dX12_flow_12 ?_
  refine wz_iconst C dX12_flow_13 ?_
  refine wz_istore_4 C rfl dX12_flow_14 ?_
  obtain ⟨n, h⟩ := h
  exact Wz.less (a0 := 121) (b0 := 1694) (by omega) (by omega) (lk_X12_flow_16 G hG hW X hX C l1 l2 Q n ((I 999 0).toNat) 0 I2 J h)
