theorem in_X12_why_X12 : ∀ w ∈ wsX120, w ∈ wsX12_why := by decide +kernel
theorem f_X12_why_84 : FLk wsX12_why RX12 84 15 3 := flk 15 3 rfl tyX12_ok nmX12 in_X12_why_X12 (by decide) (by decide +kernel)
def rm_X12_why : Room := { frames := 5, cells := 0, slots := 0, locals := 116 }
set_option maxHeartbeats 4000000 in
set_option maxRecDepth 100000 in
theorem k_X12_why (G : KG) (hG : Kok G) (hW : KWx G)  (l1 : Int) (l2 : Int) (I : Ii) (J : Jj) (Q : Int → Ii → Jj → Prop) (h : wp_X12_why l1 l2 I J Q) : Ctr G yX12_why wsX12_why rm_X12_why [.ref (kadr G 1000), .int (iZ l1), .int (iZ l2)] (I, J) (QsI Q) := by
  unfold wp_X12_why at h
  refine Ctr.ofZ (cc := cX12_why) (nL := 4) (ret := (some .int)) [some (.ref (kadr G 1000)), some (.int (iZ l1)), some (.int (iZ l2)), none] hG (by decide +kernel) rfl (Nat.le_of_ble_eq_true rfl) (Nat.le_of_ble_eq_true rfl) (by simp [lvA, lv_args, Value.category]) ?_
  intro X hX C
  refine (?_ : Wz G X 4 (QsU G X (QsI Q)) 0 0 0 [some (.ref (kadr G 1000)), some (.int (iZ l1)), some (.int (iZ l2)), none] [] I J)
  refine wz_aload_n C rfl rfl dX12_why_0 ?_
  refine wz_iload_n C rfl rfl dX12_why_1 ?_
  refine wm_callV C (S := (I, J)) (o := 1000) (As := [.int (iZ l1)]) (st := []) (a' := 0) (b' := 0) (shK_w (by decide) rfl) rfl (k_X12_partOf G hG hW l1 I J _ h) 1 gX12_why_X12_partOf rfl (by decide +kernel) (by rw [hX]; exact ⟨Nat.le_of_ble_eq_true rfl, Nat.le_of_ble_eq_true rfl⟩) rfl (Nat.le_of_ble_eq_true rfl) (by show 0 + (0) = 0; omega) (by show 0 + (0) = 0; omega) rfl dX12_why_2 (kk_sI (fun v1 I1 J1 h => ?_))
  refine wz_iload_n C rfl rfl dX12_why_5 ?_
  obtain ⟨g2, h⟩ := h
  obtain ⟨g3, h⟩ := h
  refine wz_icmp_ne C (tgt := 11) g2 g3 dX12_why_6 (by decide) (fun c => ?_) (fun c => ?_)
  · replace h := h.1 c
    refine wz_aload_n C rfl rfl dX12_why_11 ?_
    refine wz_iload_n C rfl rfl dX12_why_12 ?_
    refine wz_iload_n C rfl rfl dX12_why_13 ?_
    refine wm_callV C (S := (I1, J1)) (o := 1000) (As := [.int (iZ l1), .int (iZ l2)]) (st := []) (a' := 0) (b' := 0) (shK_w (by decide) rfl) rfl (k_X12_debtsIf G hG hW l1 l2 I1 J1 _ h) 2 gX12_why_X12_debtsIf rfl (by decide +kernel) (by rw [hX]; exact ⟨Nat.le_of_ble_eq_true rfl, Nat.le_of_ble_eq_true rfl⟩) rfl (Nat.le_of_ble_eq_true rfl) (by show 0 + (0) = 0; omega) (by show 0 + (0) = 0; omega) rfl dX12_why_14 (kk_sI (fun v4 I4 J4 h => ?_))
    refine wz_istore_3 C rfl dX12_why_17 ?_
    refine wz_iload_n C rfl rfl dX12_why_18 ?_
    refine wz_aload_n C rfl rfl dX12_why_19 ?_
    refine wz_getI C rfl f_X12_why_84 (sOw rfl (by decide)) dX12_why_20 ?_
    obtain ⟨g5, h⟩ := h
    obtain ⟨g6, h⟩ := h
    refine wz_icmp_le C (tgt := 38) g5 g6 dX12_why_23 (by decide) (fun c => ?_) (fun c => ?_)
    · replace h := h.1 c
      refine wz_iconst C dX12_why_38 ?_
      exact wz_iret C dX12_why_39 ⟨_, rfl, h⟩
    · replace h := h.2 c
      refine wz_iload_n C rfl rfl dX12_why_26 ?_
      refine wz_aload_n C rfl rfl dX12_why_27 ?_
      refine wm_callV C (S := (I4, J4)) (o := 1000) (As := []) (st := [.int (iZ v4)]) (a' := 0) (b' := 0) (shK_w (by decide) rfl) rfl (k_X12_debts G hG hW I4 J4 _ h) 0 gX12_why_X12_debts rfl (by decide +kernel) (by rw [hX]; exact ⟨Nat.le_of_ble_eq_true rfl, Nat.le_of_ble_eq_true rfl⟩) rfl (Nat.le_of_ble_eq_true rfl) (by show 0 + (0) = 0; omega) (by show 0 + (0) = 0; omega) rfl dX12_why_28 (kk_sI (fun v7 I7 J7 h => ?_))
      obtain ⟨g8, h⟩ := h
      obtain ⟨g9, h⟩ := h
      refine wz_icmp_le C (tgt := 38) g8 g9 dX12_why_31 (by decide) (fun c => ?_) (fun c => ?_)
      · replace h := h.1 c
        refine wz_iconst C dX12_why_38 ?_
        exact wz_iret C dX12_why_39 ⟨_, rfl, h⟩
      · replace h := h.2 c
        refine wz_iconst C dX12_why_34 ?_
        refine wz_goto C dX12_why_35 (tgt := 39) (by decide) ?_
        exact wz_iret C dX12_why_39 ⟨_, rfl, h⟩
  · replace h := h.2 c
    refine wz_iconst C dX12_why_9 ?_
    exact wz_iret C dX12_why_10 ⟨_, rfl, h⟩
def rm_X12_mates : Room := { frames := 5, cells := 1, slots := 14, locals := 113 }
set_option maxHeartbeats 4000000 in
set_option maxRecDepth 100000 in
theorem lk_X12_mates_50 (G : KG) (hG : Kok G) (hW : KWx G) (X : KX) (hX : KR X = rm_X12_mates) (C : Fr G X cX12_mates 6 yX12_mates.cls (some (.array .int)) wsX12_mates) (Q : Nat → Ii → Jj → Prop) (r27 : Nat → Int → Ii → Jj → Prop) (w27 : ∀ (p1 : Nat) (l2 : Int) (I : Ii) (J : Jj), r27 p1 l2 I J → Wz G X 6 (QsU G X (QsK G Q)) 0 0 27 [some (.ref (kadr G 1000)), some (.ref (kadr G p1)), some (.int (iZ l2)), none, none, none] [] I J) : ∀ (n : Nat) (p1 : Nat) (l2 : Int) (l3 : Int) (l4 : Int) (I : Ii) (J : Jj), L_X12_mates_50 Q r27 n p1 l2 l3 l4 I J → Wz G X 6 (QsU G X (QsK G Q)) 0 0 50 [some (.ref (kadr G 1000)), some (.ref (kadr G p1)), some (.int (iZ l2)), some (.int (iZ l3)), some (.int (iZ l4)), none] [] I J := by
  intro n
  induction n with
  | zero => intro p1 l2 l3 l4 I J h; exact False.elim h
  | succ n w50 =>
    intro p1 l2 l3 l4 I J h
    have h : Lb_X12_mates_50 Q r27 (L_X12_mates_50 Q r27 n) p1 l2 l3 l4 I J := h
    unfold Lb_X12_mates_50 at h
    generalize L_X12_mates_50 Q r27 n = r50 at h w50
    refine wz_iload C rfl dX12_mates_50 ?_
    refine wz_iload_n C rfl rfl dX12_mates_52 ?_
    obtain ⟨g16, h⟩ := h
    obtain ⟨g17, h⟩ := h
    refine wz_icmp_le C (tgt := 163) g16 g17 dX12_mates_53 (by decide) (fun c => ?_) (fun c => ?_)
    · replace h := h.1 c
      refine wz_iload_n C rfl rfl dX12_mates_163 ?_
      obtain ⟨g18, h⟩ := h
      refine wz_if_ge C (tgt := 170) g18 dX12_mates_164 (by decide) (fun c => ?_) (fun c => ?_)
      · replace h := h.1 c
        refine wz_aload_n C rfl rfl dX12_mates_170 ?_
        refine wz_iload_n C rfl rfl dX12_mates_171 ?_
        refine wz_iload_n C rfl rfl dX12_mates_172 ?_
        obtain ⟨g19, h⟩ := h
        refine wy_iast C g19 dX12_mates_173 (fun I20 e => ?_)
        replace h := h I20 e
        refine wz_aload_n C rfl rfl dX12_mates_174 ?_
        refine wz_iload_n C rfl rfl dX12_mates_175 ?_
        refine wz_iload_n C rfl rfl dX12_mates_176 ?_
        obtain ⟨g21, h⟩ := h
        refine wy_iast C g21 dX12_mates_177 (fun I22 e => ?_)
        replace h := h I22 e
        refine wz_iinc_2 C rfl dX12_mates_178 ?_
        refine wz_goto C dX12_mates_181 (tgt := 27) (by decide) ?_
        exact Wz.less (a0 := 0) (b0 := 0) (by omega) (by omega) (Wz.drop (w27 p1 (l2 + 1) I22 J h) (And.intro rfl (And.intro rfl (And.intro rfl trivial))))
      · replace h := h.2 c
        refine wz_goto C dX12_mates_167 (tgt := 178) (by decide) ?_
        refine wz_iinc_2 C rfl dX12_mates_178 ?_
        refine wz_goto C dX12_mates_181 (tgt := 27) (by decide) ?_
        exact Wz.less (a0 := 0) (b0 := 0) (by omega) (by omega) (Wz.drop (w27 p1 (l2 + 1) I J h) (And.intro rfl (And.intro rfl (And.intro rfl trivial))))
    · replace h := h.2 c
      refine wz_aload_n C rfl rfl dX12_mates_56 ?_
      refine wz_aload_n C rfl rfl dX12_mates_57 ?_
      refine wm_callV C (S := (I, J)) (o := 1000) (As := []) (st := [.ref (kadr G 1000)]) (a' := 0) (b' := 0) (shK_w (by decide) rfl) rfl (k_X12_sets G hG hW I J _ h) 0 gX12_mates_X12_sets rfl (by decide +kernel) (by rw [hX]; exact ⟨Nat.le_of_ble_eq_true rfl, Nat.le_of_ble_eq_true rfl⟩) rfl (Nat.le_of_ble_eq_true rfl) (by show 0 + (0) = 0; omega) (by show 0 + (0) = 0; omega) rfl dX12_mates_58 (kk_sK (fun v23 I23 J23 h => ?_))
      refine wz_iload_n C rfl rfl dX12_mates_61 ?_
      obtain ⟨g24, h⟩ := h
      refine wy_iald C g24 dX12_mates_62 ?_
      refine wz_aload_n C rfl rfl dX12_mates_63 ?_
      refine wm_callV C (S := (I23, J23)) (o := 1000) (As := []) (st := [.int (iZ (I23 v23 l2.toNat)), .ref (kadr G 1000)]) (a' := 0) (b' := 0) (shK_w (by decide) rfl) rfl (k_X12_sets G hG hW I23 J23 _ h) 0 gX12_mates_X12_sets rfl (by decide +kernel) (by rw [hX]; exact ⟨Nat.le_of_ble_eq_true rfl, Nat.le_of_ble_eq_true rfl⟩) rfl (Nat.le_of_ble_eq_true rfl) (by show 0 + (0) = 0; omega) (by show 0 + (0) = 0; omega) rfl dX12_mates_64 (kk_sK (fun v25 I25 J25 h => ?_))
      refine wz_iload C rfl dX12_mates_67 ?_
      obtain ⟨g26, h⟩ := h
      refine wy_iald C g26 dX12_mates_69 ?_
      refine wm_callV C (S := (I25, J25)) (o := 1000) (As := [.int (iZ (I23 v23 l2.toNat)), .int (iZ (I25 v25 l4.toNat))]) (st := []) (a' := 0) (b' := 0) (shK_w (by decide) rfl) rfl (k_X12_links G hG hW (I23 v23 l2.toNat) (I25 v25 l4.toNat) I25 J25 _ h) 2 gX12_mates_X12_links rfl (by decide +kernel) (by rw [hX]; exact ⟨Nat.le_of_ble_eq_true rfl, Nat.le_of_ble_eq_true rfl⟩) rfl (Nat.le_of_ble_eq_true rfl) (by show 0 + (0) = 0; omega) (by show 0 + (0) = 0; omega) rfl dX12_mates_70 (kk_sI (fun v27 I27 J27 h => ?_))
      refine wz_istore_5 C rfl dX12_mates_73 ?_
      refine wz_aload_n C rfl rfl dX12_mates_75 ?_
      refine wz_iload C rfl dX12_mates_76 ?_
      obtain ⟨g28, h⟩ := h
      refine wy_iald C g28 dX12_mates_78 ?_
      obtain ⟨g29, h⟩ := h
      refine wz_if_ge C (tgt := 157) g29 dX12_mates_79 (by decide) (fun c => ?_) (fun c => ?_)
      · replace h := h.1 c
        refine wz_iinc_4 C rfl dX12_mates_157 ?_
        refine wz_goto C dX12_mates_160 (tgt := 50) (by decide) ?_
        exact Wz.less (a0 := 0) (b0 := 0) (by omega) (by omega) (Wz.drop (w50 p1 l2 l3 (l4 + (-1)) I27 J27 h) (And.intro rfl (And.intro rfl (And.intro rfl (And.intro rfl (And.intro rfl trivial))))))
      · replace h := h.2 c
        refine wz_aload_n C rfl rfl dX12_mates_82 ?_
        refine wz_iload C rfl dX12_mates_83 ?_
        refine wm_callV C (S := (I27, J27)) (o := 1000) (As := [.int (iZ l4)]) (st := []) (a' := 0) (b' := 0) (shK_w (by decide) rfl) rfl (k_X12_partOf G hG hW l4 I27 J27 _ h) 1 gX12_mates_X12_partOf rfl (by decide +kernel) (by rw [hX]; exact ⟨Nat.le_of_ble_eq_true rfl, Nat.le_of_ble_eq_true rfl⟩) rfl (Nat.le_of_ble_eq_true rfl) (by show 0 + (0) = 0; omega) (by show 0 + (0) = 0; omega) rfl dX12_mates_85 (kk_sI (fun v30 I30 J30 h => ?_))
        refine wz_aload_n C rfl rfl dX12_mates_88 ?_
        refine wz_iload_n C rfl rfl dX12_mates_89 ?_
        refine wm_callV C (S := (I30, J30)) (o := 1000) (As := [.int (iZ l2)]) (st := [.int (iZ v30)]) (a' := 0) (b' := 0) (shK_w (by decide) rfl) rfl (k_X12_partOf G hG hW l2 I30 J30 _ h) 1 gX12_mates_X12_partOf rfl (by decide +kernel) (by rw [hX]; exact ⟨Nat.le_of_ble_eq_true rfl, Nat.le_of_ble_eq_true rfl⟩) rfl (Nat.le_of_ble_eq_true rfl) (by show 0 + (0) = 0; omega) (by show 0 + (0) = 0; omega) rfl dX12_mates_90 (kk_sI (fun v31 I31 J31 h => ?_))
        obtain ⟨g32, h⟩ := h
        obtain ⟨g33, h⟩ := h
        refine wz_icmp_ne C (tgt := 157) g32 g33 dX12_mates_93 (by decide) (fun c => ?_) (fun c => ?_)
        · replace h := h.1 c
          refine wz_iinc_4 C rfl dX12_mates_157 ?_
          refine wz_goto C dX12_mates_160 (tgt := 50) (by decide) ?_
          exact Wz.less (a0 := 0) (b0 := 0) (by omega) (by omega) (Wz.drop (w50 p1 l2 l3 (l4 + (-1)) I31 J31 h) (And.intro rfl (And.intro rfl (And.intro rfl (And.intro rfl (And.intro rfl trivial))))))
        · replace h := h.2 c
          refine wz_iload C rfl dX12_mates_96 ?_
          obtain ⟨g34, h⟩ := h
          refine wz_if_eq C (tgt := 157) g34 dX12_mates_98 (by decide) (fun c => ?_) (fun c => ?_)
          · replace h := h.1 c
            refine wz_iinc_4 C rfl dX12_mates_157 ?_
            refine wz_goto C dX12_mates_160 (tgt := 50) (by decide) ?_
            exact Wz.less (a0 := 0) (b0 := 0) (by omega) (by omega) (Wz.drop (w50 p1 l2 l3 (l4 + (-1)) I31 J31 h) (And.intro rfl (And.intro rfl (And.intro rfl (And.intro rfl (And.intro rfl trivial))))))
          · replace h := h.2 c
            refine wz_aload_n C rfl rfl dX12_mates_101 ?_
            refine wz_aload_n C rfl rfl dX12_mates_102 ?_
            refine wm_callV C (S := (I31, J31)) (o := 1000) (As := []) (st := [.ref (kadr G 1000)]) (a' := 0) (b' := 0) (shK_w (by decide) rfl) rfl (k_X12_sets G hG hW I31 J31 _ h) 0 gX12_mates_X12_sets rfl (by decide +kernel) (by rw [hX]; exact ⟨Nat.le_of_ble_eq_true rfl, Nat.le_of_ble_eq_true rfl⟩) rfl (Nat.le_of_ble_eq_true rfl) (by show 0 + (0) = 0; omega) (by show 0 + (0) = 0; omega) rfl dX12_mates_103 (kk_sK (fun v35 I35 J35 h => ?_))
            refine wz_iload_n C rfl rfl dX12_mates_106 ?_
            obtain ⟨g36, h⟩ := h
            refine wy_iald C g36 dX12_mates_107 ?_
            refine wz_aload_n C rfl rfl dX12_mates_108 ?_
            refine wm_callV C (S := (I35, J35)) (o := 1000) (As := []) (st := [.int (iZ (I35 v35 l2.toNat)), .ref (kadr G 1000)]) (a' := 0) (b' := 0) (shK_w (by decide) rfl) rfl (k_X12_sets G hG hW I35 J35 _ h) 0 gX12_mates_X12_sets rfl (by decide +kernel) (by rw [hX]; exact ⟨Nat.le_of_ble_eq_true rfl, Nat.le_of_ble_eq_true rfl⟩) rfl (Nat.le_of_ble_eq_true rfl) (by show 0 + (0) = 0; omega) (by show 0 + (0) = 0; omega) rfl dX12_mates_109 (kk_sK (fun v37 I37 J37 h => ?_))
            refine wz_iload C rfl dX12_mates_112 ?_
            obtain ⟨g38, h⟩ := h
            refine wy_iald C g38 dX12_mates_114 ?_
            refine wd_ior C dX12_mates_115 ?_
            refine wm_callV C (S := (I37, J37)) (o := 1000) (As := [.int (iZ (orZ (I35 v35 l2.toNat) (I37 v37 l4.toNat)))]) (st := []) (a' := 0) (b' := 0) (shK_w (by decide) rfl) rfl (k_X12_weightOf G hG hW (orZ (I35 v35 l2.toNat) (I37 v37 l4.toNat)) I37 J37 _ h) 1 gX12_mates_X12_weightOf rfl (by decide +kernel) (by rw [hX]; exact ⟨Nat.le_of_ble_eq_true rfl, Nat.le_of_ble_eq_true rfl⟩) rfl (Nat.le_of_ble_eq_true rfl) (by show 0 + (0) = 0; omega) (by show 0 + (0) = 0; omega) rfl dX12_mates_116 (kk_sI (fun v39 I39 J39 h => ?_))
            refine wz_aload_n C rfl rfl dX12_mates_119 ?_
            refine wm_callV C (S := (I39, J39)) (o := 1000) (As := []) (st := [.int (iZ v39)]) (a' := 0) (b' := 0) (shK_w (by decide) rfl) rfl (k_X12_limit G hG hW I39 J39 _ h) 0 gX12_mates_X12_limit rfl (by decide +kernel) (by rw [hX]; exact ⟨Nat.le_of_ble_eq_true rfl, Nat.le_of_ble_eq_true rfl⟩) rfl (Nat.le_of_ble_eq_true rfl) (by show 0 + (0) = 0; omega) (by show 0 + (0) = 0; omega) rfl dX12_mates_120 (kk_sI (fun v40 I40 J40 h => ?_))
            obtain ⟨g41, h⟩ := h
            obtain ⟨g42, h⟩ := h
            refine wz_icmp_le C (tgt := 129) g41 g42 dX12_mates_123 (by decide) (fun c => ?_) (fun c => ?_)
            · replace h := h.1 c
              refine wz_iload_n C rfl rfl dX12_mates_129 ?_
              obtain ⟨g43, h⟩ := h
              refine wz_if_lt C (tgt := 154) g43 dX12_mates_130 (by decide) (fun c => ?_) (fun c => ?_)
              · replace h := h.1 c
                refine wz_iload C rfl dX12_mates_154 ?_
                refine wz_istore_3 C rfl dX12_mates_156 ?_
                refine wz_iinc_4 C rfl dX12_mates_157 ?_
                refine wz_goto C dX12_mates_160 (tgt := 50) (by decide) ?_
                exact Wz.less (a0 := 0) (b0 := 0) (by omega) (by omega) (Wz.drop (w50 p1 l2 l4 (l4 + (-1)) I40 J40 h) (And.intro rfl (And.intro rfl (And.intro rfl (And.intro rfl (And.intro rfl trivial))))))
              · replace h := h.2 c
                refine wz_iload C rfl dX12_mates_133 ?_
                refine wz_aload_n C rfl rfl dX12_mates_135 ?_
                refine wz_aload_n C rfl rfl dX12_mates_136 ?_
                refine wm_callV C (S := (I40, J40)) (o := 1000) (As := []) (st := [.ref (kadr G 1000), .int (iZ v27)]) (a' := 0) (b' := 0) (shK_w (by decide) rfl) rfl (k_X12_sets G hG hW I40 J40 _ h) 0 gX12_mates_X12_sets rfl (by decide +kernel) (by rw [hX]; exact ⟨Nat.le_of_ble_eq_true rfl, Nat.le_of_ble_eq_true rfl⟩) rfl (Nat.le_of_ble_eq_true rfl) (by show 0 + (0) = 0; omega) (by show 0 + (0) = 0; omega) rfl dX12_mates_137 (kk_sK (fun v44 I44 J44 h => ?_))
                refine wz_iload_n C rfl rfl dX12_mates_140 ?_
                obtain ⟨g45, h⟩ := h
                refine wy_iald C g45 dX12_mates_141 ?_
                refine wz_aload_n C rfl rfl dX12_mates_142 ?_
                refine wm_callV C (S := (I44, J44)) (o := 1000) (As := []) (st := [.int (iZ (I44 v44 l2.toNat)), .ref (kadr G 1000), .int (iZ v27)]) (a' := 0) (b' := 0) (shK_w (by decide) rfl) rfl (k_X12_sets G hG hW I44 J44 _ h) 0 gX12_mates_X12_sets rfl (by decide +kernel) (by rw [hX]; exact ⟨Nat.le_of_ble_eq_true rfl, Nat.le_of_ble_eq_true rfl⟩) rfl (Nat.le_of_ble_eq_true rfl) (by show 0 + (0) = 0; omega) (by show 0 + (0) = 0; omega) rfl dX12_mates_143 (kk_sK (fun v46 I46 J46 h => ?_))
                refine wz_iload_n C rfl rfl dX12_mates_146 ?_
                obtain ⟨g47, h⟩ := h
                refine wy_iald C g47 dX12_mates_147 ?_
                refine wm_callV C (S := (I46, J46)) (o := 1000) (As := [.int (iZ (I44 v44 l2.toNat)), .int (iZ (I46 v46 l3.toNat))]) (st := [.int (iZ v27)]) (a' := 0) (b' := 0) (shK_w (by decide) rfl) rfl (k_X12_links G hG hW (I44 v44 l2.toNat) (I46 v46 l3.toNat) I46 J46 _ h) 2 gX12_mates_X12_links rfl (by decide +kernel) (by rw [hX]; exact ⟨Nat.le_of_ble_eq_true rfl, Nat.le_of_ble_eq_true rfl⟩) rfl (Nat.le_of_ble_eq_true rfl) (by show 0 + (0) = 0; omega) (by show 0 + (0) = 0; omega) rfl dX12_mates_148 (kk_sI (fun v48 I48 J48 h => ?_))
                obtain ⟨g49, h⟩ := h
                obtain ⟨g50, h⟩ := h
                refine wz_icmp_lt C (tgt := 157) g49 g50 dX12_mates_151 (by decide) (fun c => ?_) (fun c => ?_)
                · replace h := h.1 c
                  refine wz_iinc_4 C rfl dX12_mates_157 ?_
                  refine wz_goto C dX12_mates_160 (tgt := 50) (by decide) ?_
                  exact Wz.less (a0 := 0) (b0 := 0) (by omega) (by omega) (Wz.drop (w50 p1 l2 l3 (l4 + (-1)) I48 J48 h) (And.intro rfl (And.intro rfl (And.intro rfl (And.intro rfl (And.intro rfl trivial))))))
                · replace h := h.2 c
                  refine wz_iload C rfl dX12_mates_154 ?_
                  refine wz_istore_3 C rfl dX12_mates_156 ?_
                  refine wz_iinc_4 C rfl dX12_mates_157 ?_
                  refine wz_goto C dX12_mates_160 (tgt := 50) (by decide) ?_
                  exact Wz.less (a0 := 0) (b0 := 0) (by omega) (by omega) (Wz.drop (w50 p1 l2 l4 (l4 + (-1)) I48 J48 h) (And.intro rfl (And.intro rfl (And.intro rfl (And.intro rfl (And.intro rfl trivial))))))
            · replace h := h.2 c
              refine wz_goto C dX12_mates_126 (tgt := 157) (by decide) ?_
              refine wz_iinc_4 C rfl dX12_mates_157 ?_
              refine wz_goto C dX12_mates_160 (tgt := 50) (by decide) ?_
              exact Wz.less (a0 := 0) (b0 := 0) (by omega) (by omega) (Wz.drop (w50 p1 l2 l3 (l4 + (-1)) I40 J40 h) (And.intro rfl (And.intro rfl (And.intro rfl (And.intro rfl (And.intro rfl trivial))))))
set_option maxHeartbeats 4000000 in
set_option maxRecDepth 100000 in
theorem lk_X12_mates_27 (G : KG) (hG : Kok G) (hW : KWx G) (X : KX) (hX : KR X = rm_X12_mates) (C : Fr G X cX12_mates 6 yX12_mates.cls (some (.array .int)) wsX12_mates) (Q : Nat → Ii → Jj → Prop) : ∀ (n : Nat) (p1 : Nat) (l2 : Int) (I : Ii) (J : Jj), L_X12_mates_27 Q n p1 l2 I J → Wz G X 6 (QsU G X (QsK G Q)) 0 0 27 [some (.ref (kadr G 1000)), some (.ref (kadr G p1)), some (.int (iZ l2)), none, none, none] [] I J := by
  intro n
  induction n with
  | zero => intro p1 l2 I J h; exact False.elim h
  | succ n w27 =>
    intro p1 l2 I J h
    have h : Lb_X12_mates_27 Q (L_X12_mates_27 Q n) p1 l2 I J := h
    unfold Lb_X12_mates_27 at h
    generalize L_X12_mates_27 Q n = r27 at h w27
    refine wz_iload_n C rfl rfl dX12_mates_27 ?_
    refine wz_aload_n C rfl rfl dX12_mates_28 ?_
    obtain ⟨g10, h⟩ := h
    refine wy_alen1 C g10 dX12_mates_29 ?_
    obtain ⟨g11, h⟩ := h
    obtain ⟨g12, h⟩ := h
    refine wz_icmp_ge C (tgt := 184) g11 g12 dX12_mates_30 (by decide) (fun c => ?_) (fun c => ?_)
    · replace h := h.1 c
      refine wz_aload_n C rfl rfl dX12_mates_184 ?_
      exact wy_aret C (Or.inr ⟨_, rfl⟩) dX12_mates_185 ⟨_, rfl, h⟩
    · replace h := h.2 c
      refine wz_aload_n C rfl rfl dX12_mates_33 ?_
      refine wz_iload_n C rfl rfl dX12_mates_34 ?_
      obtain ⟨g13, h⟩ := h
      refine wy_iald C g13 dX12_mates_35 ?_
      obtain ⟨g14, h⟩ := h
      refine wz_if_lt C (tgt := 42) g14 dX12_mates_36 (by decide) (fun c => ?_) (fun c => ?_)
      · replace h := h.1 c
        refine wz_iconst C dX12_mates_42 ?_
        refine wz_istore_3 C rfl dX12_mates_43 ?_
        refine wz_aload_n C rfl rfl dX12_mates_44 ?_
        obtain ⟨g15, h⟩ := h
        refine wy_alen1 C g15 dX12_mates_45 ?_
        refine wz_iconst C dX12_mates_46 ?_
        refine wz_isub C dX12_mates_47 ?_
        refine wz_istore_4 C rfl dX12_mates_48 ?_
        obtain ⟨n, h⟩ := h
        exact Wz.less (a0 := 0) (b0 := 0) (by omega) (by omega) (lk_X12_mates_50 G hG hW X hX C Q r27 w27 n p1 l2 (-1) ((dL I p1) - 1) I J h)
      · replace h := h.2 c
        refine wz_goto C dX12_mates_39 (tgt := 178) (by decide) ?_
        refine wz_iinc_2 C rfl dX12_mates_178 ?_
        refine wz_goto C dX12_mates_181 (tgt := 27) (by decide) ?_
        exact Wz.less (a0 := 0) (b0 := 0) (by omega) (by omega) (w27 p1 (l2 + 1) I J h)
set_option maxHeartbeats 4000000 in
set_option maxRecDepth 100000 in
theorem lk_X12_mates_9 (G : KG) (hG : Kok G) (hW : KWx G) (X : KX) (hX : KR X = rm_X12_mates) (C : Fr G X cX12_mates 6 yX12_mates.cls (some (.array .int)) wsX12_mates) (Q : Nat → Ii → Jj → Prop) : ∀ (n : Nat) (p1 : Nat) (l2 : Int) (I : Ii) (J : Jj), L_X12_mates_9 Q n p1 l2 I J → Wz G X 6 (QsU G X (QsK G Q)) 0 0 9 [some (.ref (kadr G 1000)), some (.ref (kadr G p1)), some (.int (iZ l2)), none, none, none] [] I J := by
  intro n
  induction n with
  | zero => intro p1 l2 I J h; exact False.elim h
  | succ n w9 =>
    intro p1 l2 I J h
    have h : Lb_X12_mates_9 Q (L_X12_mates_9 Q n) p1 l2 I J := h
    unfold Lb_X12_mates_9 at h
    generalize L_X12_mates_9 Q n = r9 at h w9
    refine wz_iload_n C rfl rfl dX12_mates_9 ?_
    refine wz_aload_n C rfl rfl dX12_mates_10 ?_
    obtain ⟨g5, h⟩ := h
    refine wy_alen1 C g5 dX12_mates_11 ?_
    obtain ⟨g6, h⟩ := h
    obtain ⟨g7, h⟩ := h
    refine wz_icmp_ge C (tgt := 25) g6 g7 dX12_mates_12 (by decide) (fun c => ?_) (fun c => ?_)
    · replace h := h.1 c
      refine wz_iconst C dX12_mates_25 ?_
      refine wz_istore_2 C rfl dX12_mates_26 ?_
      obtain ⟨n, h⟩ := h
      exact Wz.less (a0 := 0) (b0 := 0) (by omega) (by omega) (lk_X12_mates_27 G hG hW X hX C Q n p1 0 I J h)
    · replace h := h.2 c
      refine wz_aload_n C rfl rfl dX12_mates_15 ?_
      refine wz_iload_n C rfl rfl dX12_mates_16 ?_
      refine wz_iconst C dX12_mates_17 ?_
      obtain ⟨g8, h⟩ := h
      refine wy_iast C g8 dX12_mates_18 (fun I9 e => ?_)
      replace h := h I9 e
      refine wz_iinc_2 C rfl dX12_mates_19 ?_
      refine wz_goto C dX12_mates_22 (tgt := 9) (by decide) ?_
      exact Wz.less (a0 := 0) (b0 := 0) (by omega) (by omega) (w9 p1 (l2 + 1) I9 J h)
set_option maxHeartbeats 4000000 in
set_option maxRecDepth 100000 in
theorem k_X12_mates (G : KG) (hG : Kok G) (hW : KWx G)  (I : Ii) (J : Jj) (Q : Nat → Ii → Jj → Prop) (h : wp_X12_mates I J Q) : Ctr G yX12_mates wsX12_mates rm_X12_mates [.ref (kadr G 1000)] (I, J) (QsK G Q) := by
  unfold wp_X12_mates at h
  refine Ctr.ofZ (cc := cX12_mates) (nL := 6) (ret := (some (.array .int))) [some (.ref (kadr G 1000)), none, none, none, none, none] hG (by decide +kernel) rfl (Nat.le_of_ble_eq_true rfl) (Nat.le_of_ble_eq_true rfl) (by simp [lvA, lv_args, Value.category]) ?_
  intro X hX C
  refine (?_ : Wz G X 6 (QsU G X (QsK G Q)) 1 14 0 [some (.ref (kadr G 1000)), none, none, none, none, none] [] I J)
  refine wz_aload_n C rfl rfl dX12_mates_0 ?_
  refine wm_callV C (S := (I, J)) (o := 1000) (As := []) (st := []) (a' := 1) (b' := 14) (shK_w (by decide) rfl) rfl (k_X12_groups G hG hW I J _ h) 0 gX12_mates_X12_groups rfl (by decide +kernel) (by rw [hX]; exact ⟨Nat.le_of_ble_eq_true rfl, Nat.le_of_ble_eq_true rfl⟩) rfl (Nat.le_of_ble_eq_true rfl) (by show 0 + (1) = 1; omega) (by show 0 + (14) = 14; omega) rfl dX12_mates_1 (kk_sI (fun v1 I1 J1 h => ?_))
  obtain ⟨g2, h⟩ := h
  refine wy_newI C 14 g2 (by decide) (by decide +kernel) dX12_mates_4 (a' := 0) (b' := 0) (by omega) (by omega) (fun I3 e => ?_)
  replace h := h I3 e
  replace h := h _ rfl
  refine wz_astore_1 C rfl dX12_mates_6 ?_
  refine wz_iconst C dX12_mates_7 ?_
  refine wz_istore_2 C rfl dX12_mates_8 ?_
  obtain ⟨n, h⟩ := h
  exact Wz.less (a0 := 0) (b0 := 0) (by omega) (by omega) (lk_X12_mates_9 G hG hW X hX C Q n ((I1 999 0).toNat) 0 I3 J1 h)
theorem in_X12_whyShrink_X12 : ∀ w ∈ wsX120, w ∈ wsX12_whyShrink := by decide +kernel
theorem f_X12_whyShrink_34 : FLk wsX12_whyShrink RX12 34 15 10 := flk 15 10 rfl tyX12_ok nmX12 in_X12_whyShrink_X12 (by decide) (by decide +kernel)
def rm_X12_whyShrink : Room := { frames := 6, cells := 1, slots := 14, locals := 138 }
set_option maxHeartbeats 4000000 in
set_option maxRecDepth 100000 in
theorem lk_X12_whyShrink_25 (G : KG) (hG : Kok G) (hW : KWx G) (X : KX) (hX : KR X = rm_X12_whyShrink) (C : Fr G X cX12_whyShrink 5 yX12_whyShrink.cls (some .int) wsX12_whyShrink) (Q : Int → Ii → Jj → Prop) : ∀ (n : Nat) (p1 : Nat) (l2 : Int) (l3 : Int) (I : Ii) (J : Jj), L_X12_whyShrink_25 Q n p1 l2 l3 I J → Wz G X 5 (QsU G X (QsI Q)) 0 0 25 [none, some (.ref (kadr G p1)), some (.int (iZ l2)), some (.int (iZ l3)), none] [] I J := by
  intro n
  induction n with
  | zero => intro p1 l2 l3 I J h; exact False.elim h
  | succ n w25 =>
    intro p1 l2 l3 I J h
    have h : Lb_X12_whyShrink_25 Q (L_X12_whyShrink_25 Q n) p1 l2 l3 I J := h
    unfold Lb_X12_whyShrink_25 at h
    generalize L_X12_whyShrink_25 Q n = r25 at h w25
    refine wz_iload_n C rfl rfl dX12_whyShrink_25 ?_
    refine wz_iload_n C rfl rfl dX12_whyShrink_26 ?_
    obtain ⟨g5, h⟩ := h
    obtain ⟨g6, h⟩ := h
    refine wz_icmp_ge C (tgt := 48) g5 g6 dX12_whyShrink_27 (by decide) (fun c => ?_) (fun c => ?_)
    · replace h := h.1 c
      refine wz_iconst C dX12_whyShrink_48 ?_
      exact wz_iret C dX12_whyShrink_49 ⟨_, rfl, h⟩
    · replace h := h.2 c
      refine wz_aload_n C rfl rfl dX12_whyShrink_30 ?_
      refine wz_iload_n C rfl rfl dX12_whyShrink_31 ?_
      obtain ⟨g7, h⟩ := h
      refine wy_iald C g7 dX12_whyShrink_32 ?_
      refine wz_istore_4 C rfl dX12_whyShrink_33 ?_
      refine wz_iload C rfl dX12_whyShrink_35 ?_
      obtain ⟨g8, h⟩ := h
      refine wz_if_lt C (tgt := 42) g8 dX12_whyShrink_37 (by decide) (fun c => ?_) (fun c => ?_)
      · replace h := h.1 c
        refine wz_iinc_3 C rfl dX12_whyShrink_42 ?_
        refine wz_goto C dX12_whyShrink_45 (tgt := 25) (by decide) ?_
        exact Wz.less (a0 := 0) (b0 := 0) (by omega) (by omega) (Wz.drop (w25 p1 l2 (l3 + 1) I J h) (And.intro rfl (And.intro rfl (And.intro rfl trivial))))
      · replace h := h.2 c
        refine wz_iconst C dX12_whyShrink_40 ?_
        exact wz_iret C dX12_whyShrink_41 ⟨_, rfl, h⟩
set_option maxHeartbeats 4000000 in
set_option maxRecDepth 100000 in
theorem k_X12_whyShrink (G : KG) (hG : Kok G) (hW : KWx G)  (I : Ii) (J : Jj) (Q : Int → Ii → Jj → Prop) (h : wp_X12_whyShrink I J Q) : Ctr G yX12_whyShrink wsX12_whyShrink rm_X12_whyShrink [.ref (kadr G 1000)] (I, J) (QsI Q) := by
  unfold wp_X12_whyShrink at h
  refine Ctr.ofZ (cc := cX12_whyShrink) (nL := 5) (ret := (some .int)) [some (.ref (kadr G 1000)), none, none, none, none] hG (by decide +kernel) rfl (Nat.le_of_ble_eq_true rfl) (Nat.le_of_ble_eq_true rfl) (by simp [lvA, lv_args, Value.category]) ?_
  intro X hX C
  refine (?_ : Wz G X 5 (QsU G X (QsI Q)) 1 14 0 [some (.ref (kadr G 1000)), none, none, none, none] [] I J)
  refine wz_aload_n C rfl rfl dX12_whyShrink_0 ?_
  refine wz_getR C (j := 1020) f_X12_whyShrink_34 (sOw rfl (by decide)) (by decide) dX12_whyShrink_1 ?_
  refine wm_callF C (o := 1020) (As := []) (st := []) (a' := 1) (b' := 14) (spAL (Or.inl rfl)) rfl hW.fsize (k_Jx4a65c_size_8abf5 G hG hW 1020 I J (Or.inl rfl) _ h) 0 gX12_whyShrink_Jx4a65c_size_8abf5_f121Jx4a65c rfl (by decide +kernel) (by rw [hX]; exact ⟨Nat.le_of_ble_eq_true rfl, Nat.le_of_ble_eq_true rfl⟩) rfl (Nat.le_of_ble_eq_true rfl) (by show 0 + (1) = 1; omega) (by show 0 + (14) = 14; omega) rfl dX12_whyShrink_4 (kk_sI (fun v1 I1 J1 h => ?_))
  refine wz_iconst C dX12_whyShrink_9 ?_
  obtain ⟨g2, h⟩ := h
  refine wz_icmp_ne C (tgt := 15) g2 (by decide) dX12_whyShrink_10 (by decide) (fun c => ?_) (fun c => ?_)
  · replace h := h.1 c
    refine wz_aload_n C rfl rfl dX12_whyShrink_15 ?_
    refine wm_callV C (S := (I1, J1)) (o := 1000) (As := []) (st := []) (a' := 0) (b' := 0) (shK_w (by decide) rfl) rfl (k_X12_mates G hG hW I1 J1 _ h) 0 gX12_whyShrink_X12_mates rfl (by decide +kernel) (by rw [hX]; exact ⟨Nat.le_of_ble_eq_true rfl, Nat.le_of_ble_eq_true rfl⟩) rfl (Nat.le_of_ble_eq_true rfl) (by show 1 + (0) = 1; omega) (by show 14 + (0) = 14; omega) rfl dX12_whyShrink_16 (kk_sK (fun v3 I3 J3 h => ?_))
    refine wz_astore_1 C rfl dX12_whyShrink_19 ?_
    refine wz_aload_n C rfl rfl dX12_whyShrink_20 ?_
    obtain ⟨g4, h⟩ := h
    refine wy_alen1 C g4 dX12_whyShrink_21 ?_
    refine wz_istore_2 C rfl dX12_whyShrink_22 ?_
    refine wz_iconst C dX12_whyShrink_23 ?_
    refine wz_istore_3 C rfl dX12_whyShrink_24 ?_
    obtain ⟨n, h⟩ := h
    exact Wz.less (a0 := 0) (b0 := 0) (by omega) (by omega) (Wz.drop (lk_X12_whyShrink_25 G hG hW X hX C Q n v3 (dL I3 v3) 0 I3 J3 h) (And.intro rfl (And.intro rfl (And.intro rfl trivial))))
  · replace h := h.2 c
    refine wz_iconst C dX12_whyShrink_13 ?_
    exact wz_iret C dX12_whyShrink_14 ⟨_, rfl, h⟩
theorem in_X12_shrink_X12 : ∀ w ∈ wsX120, w ∈ wsX12_shrink := by decide +kernel
theorem f_X12_shrink_34 : FLk wsX12_shrink RX12 34 15 10 := flk 15 10 rfl tyX12_ok nmX12 in_X12_shrink_X12 (by decide) (by decide +kernel)
def rm_X12_shrink : Room := { frames := 7, cells := 4, slots := 342, locals := 228 }
set_option maxHeartbeats 4000000 in
set_option maxRecDepth 100000 in
theorem bk_X12_shrink_40 (G : KG) (hG : Kok G) (hW : KWx G) (X : KX) (hX : KR X = rm_X12_shrink) (C : Fr G X cX12_shrink 5 yX12_shrink.cls (some .int) wsX12_shrink) (Q : Int → Ii → Jj → Prop) (r17 : Nat → Nat → Int → Int → Ii → Jj → Prop) (w17 : ∀ (p1 : Nat) (p2 : Nat) (l3 : Int) (l4 : Int) (I : Ii) (J : Jj), r17 p1 p2 l3 l4 I J → Wz G X 5 (QsU G X (QsI Q)) 2 314 17 [some (.ref (kadr G 1000)), some (.ref (kadr G p1)), some (.ref (kadr G p2)), some (.int (iZ l3)), some (.int (iZ l4))] [] I J) (p1 : Nat) (p2 : Nat) (l3 : Int) (l4 : Int) (I : Ii) (J : Jj) (h : B_X12_shrink_40 Q r17 p1 p2 l3 l4 I J) : Wz G X 5 (QsU G X (QsI Q)) 2 314 40 [some (.ref (kadr G 1000)), some (.ref (kadr G p1)), some (.ref (kadr G p2)), some (.int (iZ l3)), some (.int (iZ l4))] [] I J := by
  unfold B_X12_shrink_40 at h
  refine wz_aload_n C rfl rfl dX12_shrink_40 ?_
  refine wz_iload_n C rfl rfl dX12_shrink_41 ?_
  refine wz_iinc_3 C rfl dX12_shrink_42 ?_
  refine wz_aload_n C rfl rfl dX12_shrink_45 ?_
  refine wm_callV C (S := (I, J)) (o := 1000) (As := []) (st := [.int (iZ l3), .ref (kadr G p2)]) (a' := 2) (b' := 314) (shK_w (by decide) rfl) rfl (k_X12_sets G hG hW I J _ h) 0 gX12_shrink_X12_sets rfl (by decide +kernel) (by rw [hX]; exact ⟨Nat.le_of_ble_eq_true rfl, Nat.le_of_ble_eq_true rfl⟩) rfl (Nat.le_of_ble_eq_true rfl) (by show 0 + (2) = 2; omega) (by show 0 + (314) = 314; omega) rfl dX12_shrink_46 (kk_sK (fun v18 I18 J18 h => ?_))
  refine wz_iload C rfl dX12_shrink_49 ?_
  obtain ⟨g19, h⟩ := h
  refine wy_iald C g19 dX12_shrink_51 ?_
  refine wz_aload_n C rfl rfl dX12_shrink_52 ?_
  refine wz_iload C rfl dX12_shrink_53 ?_
  obtain ⟨g20, h⟩ := h
  refine wy_iald C g20 dX12_shrink_55 ?_
  obtain ⟨g21, h⟩ := h
  refine wz_if_ge C (tgt := 63) g21 dX12_shrink_56 (by decide) (fun c => ?_) (fun c => ?_)
  · replace h := h.1 c
    refine wz_aload_n C rfl rfl dX12_shrink_63 ?_
    refine wm_callV C (S := (I18, J18)) (o := 1000) (As := []) (st := [.int (iZ (I18 v18 l4.toNat)), .int (iZ l3), .ref (kadr G p2)]) (a' := 2) (b' := 314) (shK_w (by decide) rfl) rfl (k_X12_sets G hG hW I18 J18 _ h) 0 gX12_shrink_X12_sets rfl (by decide +kernel) (by rw [hX]; exact ⟨Nat.le_of_ble_eq_true rfl, Nat.le_of_ble_eq_true rfl⟩) rfl (Nat.le_of_ble_eq_true rfl) (by show 0 + (2) = 2; omega) (by show 0 + (314) = 314; omega) rfl dX12_shrink_64 (kk_sK (fun v22 I22 J22 h => ?_))
    refine wz_aload_n C rfl rfl dX12_shrink_67 ?_
    refine wz_iload C rfl dX12_shrink_68 ?_
    obtain ⟨g23, h⟩ := h
    refine wy_iald C g23 dX12_shrink_70 ?_
    obtain ⟨g24, h⟩ := h
    refine wy_iald C g24 dX12_shrink_71 ?_
    refine wd_ior C dX12_shrink_72 ?_
    obtain ⟨g25, h⟩ := h
    refine wy_iast C g25 dX12_shrink_73 (fun I26 e => ?_)
    replace h := h I26 e
    refine wz_iinc_4 C rfl dX12_shrink_74 ?_
    refine wz_goto C dX12_shrink_77 (tgt := 17) (by decide) ?_
    exact Wz.less (a0 := 2) (b0 := 314) (by omega) (by omega) (w17 p1 p2 (l3 + 1) (l4 + 1) I26 J22 h)
  · replace h := h.2 c
    refine wz_iconst C dX12_shrink_59 ?_
    refine wz_goto C dX12_shrink_60 (tgt := 72) (by decide) ?_
    refine wd_ior C dX12_shrink_72 ?_
    obtain ⟨g27, h⟩ := h
    refine wy_iast C g27 dX12_shrink_73 (fun I28 e => ?_)
    replace h := h I28 e
    refine wz_iinc_4 C rfl dX12_shrink_74 ?_
    refine wz_goto C dX12_shrink_77 (tgt := 17) (by decide) ?_
    exact Wz.less (a0 := 2) (b0 := 314) (by omega) (by omega) (w17 p1 p2 (l3 + 1) (l4 + 1) I28 J18 h)
set_option maxHeartbeats 4000000 in
set_option maxRecDepth 100000 in
theorem lk_X12_shrink_17 (G : KG) (hG : Kok G) (hW : KWx G) (X : KX) (hX : KR X = rm_X12_shrink) (C : Fr G X cX12_shrink 5 yX12_shrink.cls (some .int) wsX12_shrink) (Q : Int → Ii → Jj → Prop) : ∀ (n : Nat) (p1 : Nat) (p2 : Nat) (l3 : Int) (l4 : Int) (I : Ii) (J : Jj), L_X12_shrink_17 Q n p1 p2 l3 l4 I J → Wz G X 5 (QsU G X (QsI Q)) 2 314 17 [some (.ref (kadr G 1000)), some (.ref (kadr G p1)), some (.ref (kadr G p2)), some (.int (iZ l3)), some (.int (iZ l4))] [] I J := by
  intro n
  induction n with
  | zero => intro p1 p2 l3 l4 I J h; exact False.elim h
  | succ n w17 =>
    intro p1 p2 l3 l4 I J h
    have h : Lb_X12_shrink_17 Q (L_X12_shrink_17 Q n) p1 p2 l3 l4 I J := h
    unfold Lb_X12_shrink_17 at h
    generalize L_X12_shrink_17 Q n = r17 at h w17
    refine wz_iload C rfl dX12_shrink_17 ?_
    refine wz_aload_n C rfl rfl dX12_shrink_19 ?_
    obtain ⟨g6, h⟩ := h
    refine wy_alen1 C g6 dX12_shrink_20 ?_
    obtain ⟨g7, h⟩ := h
    obtain ⟨g8, h⟩ := h
    refine wz_icmp_ge C (tgt := 80) g7 g8 dX12_shrink_21 (by decide) (fun c => ?_) (fun c => ?_)
    · replace h := h.1 c
      refine wz_iload_n C rfl rfl dX12_shrink_80 ?_
      obtain ⟨g9, h⟩ := h
      refine wy_newI C 14 g9 (by decide) (by decide +kernel) dX12_shrink_81 (a' := 1) (b' := 300) (by omega) (by omega) (fun I10 e => ?_)
      replace h := h I10 e
      replace h := h _ rfl
      refine wz_astore_4 C rfl dX12_shrink_83 ?_
      refine wz_aload_n C rfl rfl dX12_shrink_85 ?_
      refine wz_iconst C dX12_shrink_86 ?_
      refine wz_aload C rfl dX12_shrink_87 ?_
      refine wz_iconst C dX12_shrink_89 ?_
      refine wz_iload_n C rfl rfl dX12_shrink_90 ?_
      obtain ⟨g13, h⟩ := h
      refine wy_copyDD C g13 (by decide +kernel) (by decide +kernel) (by decide +kernel) (by decide +kernel) (by rw [hX]; exact ⟨Nat.le_of_ble_eq_true rfl, Nat.le_of_ble_eq_true rfl⟩) dX12_shrink_91 (fun I12 e => ?_)
      replace h := h I12 e
      refine wz_aload_n C rfl rfl dX12_shrink_94 ?_
      refine wz_getR C (j := 1020) f_X12_shrink_34 (sOw rfl (by decide)) (by decide) dX12_shrink_95 ?_
      refine wz_aload C rfl dX12_shrink_98 ?_
      refine wm_callF C (o := 1020) (As := [.ref (kadr G ((I 999 0).toNat))]) (st := []) (a' := 0) (b' := 0) (spAL (Or.inl rfl)) rfl hW.fadd (k_Jx4a65c_add_9ea2d G hG hW 1020 ((I 999 0).toNat) I12 J (Or.inl rfl) _ h) 1 gX12_shrink_Jx4a65c_add_9ea2d_f105Jx4a65c rfl (by decide +kernel) (by rw [hX]; exact ⟨Nat.le_of_ble_eq_true rfl, Nat.le_of_ble_eq_true rfl⟩) rfl (Nat.le_of_ble_eq_true rfl) (by show 1 + (0) = 1; omega) (by show 300 + (0) = 300; omega) rfl dX12_shrink_100 (kk_sB (fun v14 I14 J14 hb14 h => ?_))
      refine wz_pop C rfl dX12_shrink_105 ?_
      refine wz_iload_n C rfl rfl dX12_shrink_106 ?_
      exact wz_iret C dX12_shrink_107 ⟨_, rfl, h⟩
    · replace h := h.2 c
      refine wz_aload_n C rfl rfl dX12_shrink_24 ?_
      refine wz_iload C rfl dX12_shrink_25 ?_
      obtain ⟨g15, h⟩ := h
      refine wy_iald C g15 dX12_shrink_27 ?_
      obtain ⟨g16, h⟩ := h
      refine wz_if_lt C (tgt := 40) g16 dX12_shrink_28 (by decide) (fun c => ?_) (fun c => ?_)
      · replace h := h.1 c
        exact Wz.less (a0 := 2) (b0 := 314) (by omega) (by omega) (bk_X12_shrink_40 G hG hW X hX C Q r17 w17 p1 p2 l3 l4 I J h)
      · replace h := h.2 c
        refine wz_aload_n C rfl rfl dX12_shrink_31 ?_
        refine wz_iload C rfl dX12_shrink_32 ?_
        obtain ⟨g17, h⟩ := h
        refine wy_iald C g17 dX12_shrink_34 ?_
        refine wz_iload C rfl dX12_shrink_35 ?_
        refine wz_icmp_le C (tgt := 74) g16 g7 dX12_shrink_37 (by decide) (fun c => ?_) (fun c => ?_)
        · replace h := h.1 c
          refine wz_iinc_4 C rfl dX12_shrink_74 ?_
          refine wz_goto C dX12_shrink_77 (tgt := 17) (by decide) ?_
          exact Wz.less (a0 := 2) (b0 := 314) (by omega) (by omega) (w17 p1 p2 l3 (l4 + 1) I J h)
        · replace h := h.2 c
          exact Wz.less (a0 := 2) (b0 := 314) (by omega) (by omega) (bk_X12_shrink_40 G hG hW X hX C Q r17 w17 p1 p2 l3 l4 I J h)
set_option maxHeartbeats 4000000 in
set_option maxRecDepth 100000 in
theorem k_X12_shrink (G : KG) (hG : Kok G) (hW : KWx G)  (I : Ii) (J : Jj) (Q : Int → Ii → Jj → Prop) (h : wp_X12_shrink I J Q) : Ctr G yX12_shrink wsX12_shrink rm_X12_shrink [.ref (kadr G 1000)] (I, J) (QsI Q) := by
  unfold wp_X12_shrink at h
  refine Ctr.ofZ (cc := cX12_shrink) (nL := 5) (ret := (some .int)) [some (.ref (kadr G 1000)), none, none, none, none] hG (by decide +kernel) rfl (Nat.le_of_ble_eq_true rfl) (Nat.le_of_ble_eq_true rfl) (by simp [lvA, lv_args, Value.category]) ?_
  intro X hX C
  refine (?_ : Wz G X 5 (QsU G X (QsI Q)) 4 342 0 [some (.ref (kadr G 1000)), none, none, none, none] [] I J)
  refine wz_aload_n C rfl rfl dX12_shrink_0 ?_
  refine wm_callV C (S := (I, J)) (o := 1000) (As := []) (st := []) (a' := 3) (b' := 328) (shK_w (by decide) rfl) rfl (k_X12_mates G hG hW I J _ h) 0 gX12_shrink_X12_mates rfl (by decide +kernel) (by rw [hX]; exact ⟨Nat.le_of_ble_eq_true rfl, Nat.le_of_ble_eq_true rfl⟩) rfl (Nat.le_of_ble_eq_true rfl) (by show 1 + (3) = 4; omega) (by show 14 + (328) = 342; omega) rfl dX12_shrink_1 (kk_sK (fun v1 I1 J1 h => ?_))
  refine wz_astore_1 C rfl dX12_shrink_4 ?_
  refine wz_aload_n C rfl rfl dX12_shrink_5 ?_
  refine wm_callV C (S := (I1, J1)) (o := 1000) (As := []) (st := []) (a' := 3) (b' := 328) (shK_w (by decide) rfl) rfl (k_X12_groups G hG hW I1 J1 _ h) 0 gX12_shrink_X12_groups rfl (by decide +kernel) (by rw [hX]; exact ⟨Nat.le_of_ble_eq_true rfl, Nat.le_of_ble_eq_true rfl⟩) rfl (Nat.le_of_ble_eq_true rfl) (by show 0 + (3) = 3; omega) (by show 0 + (328) = 328; omega) rfl dX12_shrink_6 (kk_sI (fun v2 I2 J2 h => ?_))
  obtain ⟨g3, h⟩ := h
  refine wy_newI C 14 g3 (by decide) (by decide +kernel) dX12_shrink_9 (a' := 2) (b' := 314) (by omega) (by omega) (fun I4 e => ?_)
  replace h := h I4 e
  replace h := h _ rfl
  refine wz_astore_2 C rfl dX12_shrink_11 ?_
  refine wz_iconst C dX12_shrink_12 ?_
  refine wz_istore_3 C rfl dX12_shrink_13 ?_
  refine wz_iconst C dX12_shrink_14 ?_
  refine wz_istore_4 C rfl dX12_shrink_15 ?_
  obtain ⟨n, h⟩ := h
  exact Wz.less (a0 := 2) (b0 := 314) (by omega) (by omega) (lk_X12_shrink_17 G hG hW X hX C Q n v1 ((I2 999 0).toNat) 0 0 I4 J2 h)
theorem in_X12_grow_X12 : ∀ w ∈ wsX120, w ∈ wsX12_grow := by decide +kernel
theorem f_X12_grow_34 : FLk wsX12_grow RX12 34 15 10 := flk 15 10 rfl tyX12_ok nmX12 in_X12_grow_X12 (by decide) (by decide +kernel)
def rm_X12_grow : Room := { frames := 5, cells := 0, slots := 0, locals := 126 }
set_option maxHeartbeats 4000000 in
set_option maxRecDepth 100000 in
theorem k_X12_grow (G : KG) (hG : Kok G) (hW : KWx G)  (I : Ii) (J : Jj) (Q : Int → Ii → Jj → Prop) (h : wp_X12_grow I J Q) : Ctr G yX12_grow wsX12_grow rm_X12_grow [.ref (kadr G 1000)] (I, J) (QsI Q) := by
  unfold wp_X12_grow at h
  refine Ctr.ofZ (cc := cX12_grow) (nL := 2) (ret := (some .int)) [some (.ref (kadr G 1000)), none] hG (by decide +kernel) rfl (Nat.le_of_ble_eq_true rfl) (Nat.le_of_ble_eq_true rfl) (by simp [lvA, lv_args, Value.category]) ?_
  intro X hX C
  refine (?_ : Wz G X 2 (QsU G X (QsI Q)) 0 0 0 [some (.ref (kadr G 1000)), none] [] I J)
  refine wz_aload_n C rfl rfl dX12_grow_0 ?_
  refine wz_getR C (j := 1020) f_X12_grow_34 (sOw rfl (by decide)) (by decide) dX12_grow_1 ?_
  refine wz_aload_n C rfl rfl dX12_grow_4 ?_
  refine wz_getR C (j := 1020) f_X12_grow_34 (sOw rfl (by decide)) (by decide) dX12_grow_5 ?_
  refine wm_callF C (o := 1020) (As := []) (st := [.ref (kadr G 1020)]) (a' := 0) (b' := 0) (spAL (Or.inl rfl)) rfl hW.fsize (k_Jx4a65c_size_8abf5 G hG hW 1020 I J (Or.inl rfl) _ h) 0 gX12_grow_Jx4a65c_size_8abf5_f121Jx4a65c rfl (by decide +kernel) (by rw [hX]; exact ⟨Nat.le_of_ble_eq_true rfl, Nat.le_of_ble_eq_true rfl⟩) rfl (Nat.le_of_ble_eq_true rfl) (by show 0 + (0) = 0; omega) (by show 0 + (0) = 0; omega) rfl dX12_grow_8 (kk_sI (fun v1 I1 J1 h => ?_))
  refine wz_iconst C dX12_grow_13 ?_
  refine wz_isub C dX12_grow_14 ?_
  refine wm_callF C (o := 1020) (As := [.int (iZ (v1 - 1))]) (st := []) (a' := 0) (b' := 0) (spAL (Or.inl rfl)) rfl hW.frem (k_Jx4a65c_remove_915e3 G hG hW 1020 (v1 - 1) I1 J1 (Or.inl rfl) _ h) 1 gX12_grow_Jx4a65c_remove_915e3_f176Jx4a65c rfl (by decide +kernel) (by rw [hX]; exact ⟨Nat.le_of_ble_eq_true rfl, Nat.le_of_ble_eq_true rfl⟩) rfl (Nat.le_of_ble_eq_true rfl) (by show 0 + (0) = 0; omega) (by show 0 + (0) = 0; omega) rfl dX12_grow_15 (kk_sK (fun v2 I2 J2 h => ?_))
  obtain ⟨g3, h⟩ := h
  refine wy_castI C g3 (by decide +kernel) dX12_grow_20 ?_
  refine wz_astore_1 C rfl dX12_grow_23 ?_
  refine wz_aload_n C rfl rfl dX12_grow_24 ?_
  refine wm_callV C (S := (I2, J2)) (o := 1000) (As := []) (st := []) (a' := 0) (b' := 0) (shK_w (by decide) rfl) rfl (k_X12_groups G hG hW I2 J2 _ h) 0 gX12_grow_X12_groups rfl (by decide +kernel) (by rw [hX]; exact ⟨Nat.le_of_ble_eq_true rfl, Nat.le_of_ble_eq_true rfl⟩) rfl (Nat.le_of_ble_eq_true rfl) (by show 0 + (0) = 0; omega) (by show 0 + (0) = 0; omega) rfl dX12_grow_25 (kk_sI (fun v4 I4 J4 h => ?_))
  exact wz_iret C dX12_grow_28 ⟨_, rfl, h⟩
theorem in_X12_comes_X12 : ∀ w ∈ wsX120, w ∈ wsX12_comes := by decide +kernel
theorem f_X12_comes_87 : FLk wsX12_comes RX12 87 15 0 := flk 15 0 rfl tyX12_ok nmX12 in_X12_comes_X12 (by decide) (by decide +kernel)
theorem f_X12_comes_38 : FLk wsX12_comes RX12 38 15 11 := flk 15 11 rfl tyX12_ok nmX12 in_X12_comes_X12 (by decide) (by decide +kernel)
theorem f_X12_comes_17 : FLk wsX12_comes RX12 17 15 6 := flk 15 6 rfl tyX12_ok nmX12 in_X12_comes_X12 (by decide) (by decide +kernel)
def rm_X12_comes : Room := { frames := 7, cells := 2, slots := 314, locals := 228 }
set_option maxHeartbeats 4000000 in
set_option maxRecDepth 100000 in
theorem lk_X12_comes_16 (G : KG) (hG : Kok G) (hW : KWx G) (X : KX) (hX : KR X = rm_X12_comes) (C : Fr G X cX12_comes 5 yX12_comes.cls (some .boolean) wsX12_comes) (l1 : Int) (l2 : Int) (Q : Int → Ii → Jj → Prop) : ∀ (n : Nat) (l3 : Int) (l4 : Int) (I : Ii) (J : Jj), L_X12_comes_16 l1 l2 Q n l3 l4 I J → Wz G X 5 (QsU G X (QsB Q)) 2 314 16 [some (.ref (kadr G 1000)), some (.int (iZ l1)), some (.int (iZ l2)), some (.int (iZ l3)), some (.int (iZ l4))] [] I J := by
  intro n
  induction n with
  | zero => intro l3 l4 I J h; exact False.elim h
  | succ n w16 =>
    intro l3 l4 I J h
    have h : Lb_X12_comes_16 l1 l2 Q (L_X12_comes_16 l1 l2 Q n) l3 l4 I J := h
    unfold Lb_X12_comes_16 at h
    generalize L_X12_comes_16 l1 l2 Q n = r16 at h w16
    refine wz_iload C rfl dX12_comes_16 ?_
    refine wz_aload_n C rfl rfl dX12_comes_18 ?_
    refine wz_getI C rfl f_X12_comes_87 (sOw rfl (by decide)) dX12_comes_19 ?_
    obtain ⟨g4, h⟩ := h
    obtain ⟨g5, h⟩ := h
    refine wz_icmp_ge C (tgt := 54) g4 g5 dX12_comes_22 (by decide) (fun c => ?_) (fun c => ?_)
    · replace h := h.1 c
      refine wz_aload_n C rfl rfl dX12_comes_54 ?_
      refine wz_getR C (j := 1021) f_X12_comes_38 (sOw rfl (by decide)) (by decide) dX12_comes_55 ?_
      refine wz_iconst C dX12_comes_58 ?_
      obtain ⟨g6, h⟩ := h
      refine wy_newI C 14 g6 (by decide) (by decide +kernel) dX12_comes_59 (a' := 1) (b' := 300) (by omega) (by omega) (fun I7 e => ?_)
      replace h := h I7 e
      replace h := h _ rfl
      refine wz_dup C rfl dX12_comes_61 ?_
      refine wz_iconst C dX12_comes_62 ?_
      refine wz_iload_n C rfl rfl dX12_comes_63 ?_
      obtain ⟨g9, h⟩ := h
      refine wy_iast C g9 dX12_comes_64 (fun I10 e => ?_)
      replace h := h I10 e
      refine wz_dup C rfl dX12_comes_65 ?_
      refine wz_iconst C dX12_comes_66 ?_
      refine wz_iload_n C rfl rfl dX12_comes_67 ?_
      obtain ⟨g11, h⟩ := h
      refine wy_iast C g11 dX12_comes_68 (fun I12 e => ?_)
      replace h := h I12 e
      refine wz_dup C rfl dX12_comes_69 ?_
      refine wz_iconst C dX12_comes_70 ?_
      refine wz_iload_n C rfl rfl dX12_comes_71 ?_
      obtain ⟨g13, h⟩ := h
      refine wy_iast C g13 dX12_comes_72 (fun I14 e => ?_)
      replace h := h I14 e
      refine wz_dup C rfl dX12_comes_73 ?_
      refine wz_iconst C dX12_comes_74 ?_
      refine wz_aload_n C rfl rfl dX12_comes_75 ?_
      refine wm_callV C (S := (I14, J)) (o := 1000) (As := []) (st := [.int (iZ 3), .ref (kadr G ((I 999 0).toNat)), .ref (kadr G ((I 999 0).toNat)), .ref (kadr G 1021)]) (a' := 1) (b' := 300) (shK_w (by decide) rfl) rfl (k_X12_cut G hG hW I14 J _ h) 0 gX12_comes_X12_cut rfl (by decide +kernel) (by rw [hX]; exact ⟨Nat.le_of_ble_eq_true rfl, Nat.le_of_ble_eq_true rfl⟩) rfl (Nat.le_of_ble_eq_true rfl) (by show 0 + (1) = 1; omega) (by show 0 + (300) = 300; omega) rfl dX12_comes_76 (kk_sI (fun v15 I15 J15 h => ?_))
      obtain ⟨g16, h⟩ := h
      refine wy_iast C g16 dX12_comes_79 (fun I17 e => ?_)
      replace h := h I17 e
      refine wm_callF C (o := 1021) (As := [.ref (kadr G ((I 999 0).toNat))]) (st := []) (a' := 0) (b' := 0) (spAL (Or.inr rfl)) rfl hW.fadd (k_Jx4a65c_add_9ea2d G hG hW 1021 ((I 999 0).toNat) I17 J15 (Or.inr rfl) _ h) 1 gX12_comes_Jx4a65c_add_9ea2d_f105Jx4a65c rfl (by decide +kernel) (by rw [hX]; exact ⟨Nat.le_of_ble_eq_true rfl, Nat.le_of_ble_eq_true rfl⟩) rfl (Nat.le_of_ble_eq_true rfl) (by show 1 + (0) = 1; omega) (by show 300 + (0) = 300; omega) rfl dX12_comes_80 (kk_sB (fun v18 I18 J18 hb18 h => ?_))
      refine wz_pop C rfl dX12_comes_85 ?_
      refine wz_iconst C dX12_comes_86 ?_
      exact wz_zret C (Or.inr rfl) dX12_comes_87 ⟨_, rfl, (Or.inr rfl), h⟩
    · replace h := h.2 c
      refine wz_aload_n C rfl rfl dX12_comes_25 ?_
      refine wm_callV C (S := (I, J)) (o := 1000) (As := []) (st := []) (a' := 2) (b' := 314) (shK_w (by decide) rfl) rfl (k_X12_sets G hG hW I J _ h) 0 gX12_comes_X12_sets rfl (by decide +kernel) (by rw [hX]; exact ⟨Nat.le_of_ble_eq_true rfl, Nat.le_of_ble_eq_true rfl⟩) rfl (Nat.le_of_ble_eq_true rfl) (by show 0 + (2) = 2; omega) (by show 0 + (314) = 314; omega) rfl dX12_comes_26 (kk_sK (fun v19 I19 J19 h => ?_))
      refine wz_iload_n C rfl rfl dX12_comes_29 ?_
      obtain ⟨g20, h⟩ := h
      refine wy_iald C g20 dX12_comes_30 ?_
      refine wz_iload C rfl dX12_comes_31 ?_
      refine wd_ishr C dX12_comes_33 ?_
      refine wz_iconst C dX12_comes_34 ?_
      refine wd_iand C dX12_comes_35 ?_
      refine wz_iconst C dX12_comes_36 ?_
      refine wz_icmp_ne C (tgt := 48) (toInt_rg _) (by decide) dX12_comes_37 (by decide) (fun c => ?_) (fun c => ?_)
      · replace h := h.1 c
        refine wz_iinc_4 C rfl dX12_comes_48 ?_
        refine wz_goto C dX12_comes_51 (tgt := 16) (by decide) ?_
        exact Wz.less (a0 := 2) (b0 := 314) (by omega) (by omega) (w16 l3 (l4 + 1) I19 J19 h)
      · replace h := h.2 c
        refine wz_aload_n C rfl rfl dX12_comes_40 ?_
        refine wz_getR C (j := 1002) f_X12_comes_17 (sOw rfl (by decide)) (by decide) dX12_comes_41 ?_
        refine wz_iload C rfl dX12_comes_44 ?_
        refine wz_iload_n C rfl rfl dX12_comes_46 ?_
        obtain ⟨g21, h⟩ := h
        refine wd_iastore C l4.toNat (n := 14) (sRw rfl (by decide)) (zN g21) (zL g21) (by decide) dX12_comes_47 (fun I22 e => ?_)
        replace h := h I22 e
        refine wz_iinc_4 C rfl dX12_comes_48 ?_
        refine wz_goto C dX12_comes_51 (tgt := 16) (by decide) ?_
        exact Wz.less (a0 := 2) (b0 := 314) (by omega) (by omega) (w16 l3 (l4 + 1) I22 J19 h)
set_option maxHeartbeats 4000000 in
set_option maxRecDepth 100000 in
theorem k_X12_comes (G : KG) (hG : Kok G) (hW : KWx G)  (l1 : Int) (l2 : Int) (I : Ii) (J : Jj) (Q : Int → Ii → Jj → Prop) (h : wp_X12_comes l1 l2 I J Q) : Ctr G yX12_comes wsX12_comes rm_X12_comes [.ref (kadr G 1000), .int (iZ l1), .int (iZ l2)] (I, J) (QsB Q) := by
  unfold wp_X12_comes at h
  refine Ctr.ofZ (cc := cX12_comes) (nL := 5) (ret := (some .boolean)) [some (.ref (kadr G 1000)), some (.int (iZ l1)), some (.int (iZ l2)), none, none] hG (by decide +kernel) rfl (Nat.le_of_ble_eq_true rfl) (Nat.le_of_ble_eq_true rfl) (by simp [lvA, lv_args, Value.category]) ?_
  intro X hX C
  refine (?_ : Wz G X 5 (QsU G X (QsB Q)) 2 314 0 [some (.ref (kadr G 1000)), some (.int (iZ l1)), some (.int (iZ l2)), none, none] [] I J)
  refine wz_aload_n C rfl rfl dX12_comes_0 ?_
  refine wz_iload_n C rfl rfl dX12_comes_1 ?_
  refine wm_callV C (S := (I, J)) (o := 1000) (As := [.int (iZ l1)]) (st := []) (a' := 2) (b' := 314) (shK_w (by decide) rfl) rfl (k_X12_partOf G hG hW l1 I J _ h) 1 gX12_comes_X12_partOf rfl (by decide +kernel) (by rw [hX]; exact ⟨Nat.le_of_ble_eq_true rfl, Nat.le_of_ble_eq_true rfl⟩) rfl (Nat.le_of_ble_eq_true rfl) (by show 0 + (2) = 2; omega) (by show 0 + (314) = 314; omega) rfl dX12_comes_2 (kk_sI (fun v1 I1 J1 h => ?_))
  refine wz_istore_3 C rfl dX12_comes_5 ?_
  refine wz_iload_n C rfl rfl dX12_comes_6 ?_
  refine wz_iload_n C rfl rfl dX12_comes_7 ?_
  obtain ⟨g2, h⟩ := h
  obtain ⟨g3, h⟩ := h
  refine wz_icmp_ne C (tgt := 13) g2 g3 dX12_comes_8 (by decide) (fun c => ?_) (fun c => ?_)
  · replace h := h.1 c
    refine wz_iconst C dX12_comes_13 ?_
    refine wz_istore_4 C rfl dX12_comes_14 ?_
    obtain ⟨n, h⟩ := h
    exact Wz.less (a0 := 2) (b0 := 314) (by omega) (by omega) (lk_X12_comes_16 G hG hW X hX C l1 l2 Q n v1 0 I1 J1 h)
  · replace h := h.2 c
    refine wz_iconst C dX12_comes_11 ?_
    exact wz_zret C (Or.inl rfl) dX12_comes_12 ⟨_, rfl, (Or.inl rfl), h⟩
def rm_X12_move : Room := { frames := 8, cells := 2, slots := 314, locals := 252 }
set_option maxHeartbeats 4000000 in
set_option maxRecDepth 100000 in
theorem k_X12_move (G : KG) (hG : Kok G) (hW : KWx G)  (l1 : Int) (l2 : Int) (I : Ii) (J : Jj) (Q : Int → Ii → Jj → Prop) (h : wp_X12_move l1 l2 I J Q) : Ctr G yX12_move wsX12_move rm_X12_move [.ref (kadr G 1000), .int (iZ l1), .int (iZ l2)] (I, J) (QsI Q) := by
  unfold wp_X12_move at h
  refine Ctr.ofZ (cc := cX12_move) (nL := 4) (ret := (some .int)) [some (.ref (kadr G 1000)), some (.int (iZ l1)), some (.int (iZ l2)), none] hG (by decide +kernel) rfl (Nat.le_of_ble_eq_true rfl) (Nat.le_of_ble_eq_true rfl) (by simp [lvA, lv_args, Value.category]) ?_
  intro X hX C
  refine (?_ : Wz G X 4 (QsU G X (QsI Q)) 2 314 0 [some (.ref (kadr G 1000)), some (.int (iZ l1)), some (.int (iZ l2)), none] [] I J)
  refine wz_aload_n C rfl rfl dX12_move_0 ?_
  refine wz_iload_n C rfl rfl dX12_move_1 ?_
  refine wz_iload_n C rfl rfl dX12_move_2 ?_
  refine wm_callV C (S := (I, J)) (o := 1000) (As := [.int (iZ l1), .int (iZ l2)]) (st := []) (a' := 0) (b' := 0) (shK_w (by decide) rfl) rfl (k_X12_comes G hG hW l1 l2 I J _ h) 2 gX12_move_X12_comes rfl (by decide +kernel) (by rw [hX]; exact ⟨Nat.le_of_ble_eq_true rfl, Nat.le_of_ble_eq_true rfl⟩) rfl (Nat.le_of_ble_eq_true rfl) (by show 2 + (0) = 2; omega) (by show 314 + (0) = 314; omega) rfl dX12_move_3 (kk_sB (fun v1 I1 J1 hb1 h => ?_))
  refine wz_istore_3 C rfl dX12_move_6 ?_
  refine wz_aload_n C rfl rfl dX12_move_7 ?_
  refine wm_callV C (S := (I1, J1)) (o := 1000) (As := []) (st := []) (a' := 0) (b' := 0) (shK_w (by decide) rfl) rfl (k_X12_cut G hG hW I1 J1 _ h) 0 gX12_move_X12_cut rfl (by decide +kernel) (by rw [hX]; exact ⟨Nat.le_of_ble_eq_true rfl, Nat.le_of_ble_eq_true rfl⟩) rfl (Nat.le_of_ble_eq_true rfl) (by show 0 + (0) = 0; omega) (by show 0 + (0) = 0; omega) rfl dX12_move_8 (kk_sI (fun v2 I2 J2 h => ?_))
  exact wz_iret C dX12_move_11 ⟨_, rfl, h⟩
