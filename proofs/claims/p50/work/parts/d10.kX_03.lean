theorem in_X12_search_X12 : ∀ w ∈ wsX120, w ∈ wsX12_search := by decide +kernel
theorem f_X12_search_7 : FLk wsX12_search RX12 7 15 1 := flk 15 1 rfl tyX12_ok nmX12 in_X12_search_X12 (by decide) (by decide +kernel)
set_option maxHeartbeats 4000000 in
set_option maxRecDepth 100000 in
theorem lk_X12_search_67 (G : KG) (hG : Kok G) (hW : KWx G) {F Lc : Nat} {rec : Nat → Nat → Nat → Int → Ii → Jj → (Ii → Jj → Prop) → Prop} (hrec : ∀ (k2 k3 k4 : Nat) (l1 : Int) (I : Ii) (J : Jj) (Q : Ii → Jj → Prop), rec k2 k3 k4 l1 I J Q → Ctr G yX12_search wsX12_search { frames := F, cells := 0, slots := 0, locals := Lc } [.ref (kadr G 1000), .int (iZ l1), .ref (kadr G k2), .ref (kadr G k3), .ref (kadr G k4)] (I, J) (QsV Q)) (X : KX) (hX : KR X = { frames := F + 8, cells := 0, slots := 0, locals := Lc + 400 }) (C : Fr G X cX12_search 10 yX12_search.cls none wsX12_search) (k2 : Nat) (k3 : Nat) (k4 : Nat) (l1 : Int) (Q : Ii → Jj → Prop) (r52 : Int → Int → Int → Ii → Jj → Prop) (w52 : ∀ (l5 : Int) (l6 : Int) (l7 : Int) (I : Ii) (J : Jj), r52 l5 l6 l7 I J → Wz G X 10 (QsU G X (QsV Q)) 0 0 52 [some (.ref (kadr G 1000)), some (.int (iZ l1)), some (.ref (kadr G k2)), some (.ref (kadr G k3)), some (.ref (kadr G k4)), some (.int (iZ l5)), some (.int (iZ l6)), some (.int (iZ l7)), none, none] [] I J) : ∀ (n : Nat) (l5 : Int) (l6 : Int) (l7 : Int) (l8 : Int) (l9 : Int) (I : Ii) (J : Jj), L_X12_search_67 rec k2 k3 k4 l1 Q r52 n l5 l6 l7 l8 l9 I J → Wz G X 10 (QsU G X (QsV Q)) 0 0 67 [some (.ref (kadr G 1000)), some (.int (iZ l1)), some (.ref (kadr G k2)), some (.ref (kadr G k3)), some (.ref (kadr G k4)), some (.int (iZ l5)), some (.int (iZ l6)), some (.int (iZ l7)), some (.int (iZ l8)), some (.int (iZ l9))] [] I J := by
  intro n
  induction n with
  | zero => intro l5 l6 l7 l8 l9 I J h; exact False.elim h
  | succ n w67 =>
    intro l5 l6 l7 l8 l9 I J h
    have h : Lb_X12_search_67 rec k2 k3 k4 l1 Q r52 (L_X12_search_67 rec k2 k3 k4 l1 Q r52 n) l5 l6 l7 l8 l9 I J := h
    unfold Lb_X12_search_67 at h
    generalize L_X12_search_67 rec k2 k3 k4 l1 Q r52 n = r67 at h w67
    refine wz_iload C rfl dX12_search_67 ?_
    refine wz_iload_n C rfl rfl dX12_search_69 ?_
    obtain ⟨g24, h⟩ := h
    obtain ⟨g25, h⟩ := h
    refine wz_icmp_ge C (tgt := 108) g24 g25 dX12_search_70 (by decide) (fun c => ?_) (fun c => ?_)
    · replace h := h.1 c
      refine wz_iload C rfl dX12_search_108 ?_
      refine wz_iconst C dX12_search_110 ?_
      refine wz_iload C rfl dX12_search_111 ?_
      refine wz_aload_n C rfl rfl dX12_search_113 ?_
      refine wm_callV C (S := (I, J)) (o := 1000) (As := []) (st := [.int (iZ l8), .int (iZ 0), .int (iZ l5)]) (a' := 0) (b' := 0) (shK_w (by decide) rfl) rfl (k_X12_limit G hG hW I J _ h) 0 gX12_search_X12_limit rfl (by decide +kernel) (by rw [hX]; exact ⟨Nat.le_trans (Nat.le_of_ble_eq_true rfl) (Nat.le_add_left 8 F), Nat.le_trans (Nat.le_of_ble_eq_true rfl) (Nat.le_add_left 400 Lc)⟩) rfl (Nat.le_of_ble_eq_true rfl) (by show 0 + (0) = 0; omega) (by show 0 + (0) = 0; omega) rfl dX12_search_114 (kk_sI (fun v26 I26 J26 h => ?_))
      refine wz_isub C dX12_search_117 ?_
      refine wd_max C (st := [.int (iZ l5)]) h (by decide +kernel) (by decide +kernel) (by decide +kernel) (by decide +kernel) (by rw [hX]; exact ⟨Nat.le_trans (Nat.le_of_ble_eq_true rfl) (Nat.le_add_left 8 F), Nat.le_trans (Nat.le_of_ble_eq_true rfl) (Nat.le_add_left 400 Lc)⟩) dX12_search_118 (fun v27 I27 J27 h => ?_)
      refine wz_iadd C dX12_search_121 ?_
      refine wz_istore_5 C rfl dX12_search_122 ?_
      refine wz_iinc_7 C rfl dX12_search_124 ?_
      refine wz_goto C dX12_search_127 (tgt := 52) (by decide) ?_
      exact Wz.less (a0 := 0) (b0 := 0) (by omega) (by omega) (Wz.drop (w52 (l5 + v27) l6 (l7 + 1) I27 J27 h) (And.intro rfl (And.intro rfl (And.intro rfl (And.intro rfl (And.intro rfl (And.intro rfl (And.intro rfl (And.intro rfl trivial)))))))))
    · replace h := h.2 c
      refine wz_iload C rfl dX12_search_73 ?_
      refine wz_aload_n C rfl rfl dX12_search_75 ?_
      refine wz_iload C rfl dX12_search_76 ?_
      obtain ⟨g28, h⟩ := h
      refine wy_iald C g28 dX12_search_78 ?_
      refine wz_iload C rfl dX12_search_79 ?_
      obtain ⟨g29, h⟩ := h
      obtain ⟨g30, h⟩ := h
      refine wz_icmp_ne C (tgt := 98) g29 g30 dX12_search_81 (by decide) (fun c => ?_) (fun c => ?_)
      · replace h := h.1 c
        refine wz_iconst C dX12_search_98 ?_
        refine wz_iadd C dX12_search_99 ?_
        refine wz_istore_8 C rfl dX12_search_100 ?_
        refine wz_iinc_9 C rfl dX12_search_102 ?_
        refine wz_goto C dX12_search_105 (tgt := 67) (by decide) ?_
        exact Wz.less (a0 := 0) (b0 := 0) (by omega) (by omega) (w67 l5 l6 l7 (l8 + 0) (l9 + 1) I J h)
      · replace h := h.2 c
        refine wz_aload_n C rfl rfl dX12_search_84 ?_
        refine wz_aload_n C rfl rfl dX12_search_85 ?_
        refine wm_callV C (S := (I, J)) (o := 1000) (As := []) (st := [.ref (kadr G 1000), .int (iZ l8)]) (a' := 0) (b' := 0) (shK_w (by decide) rfl) rfl (k_X12_sets G hG hW I J _ h) 0 gX12_search_X12_sets rfl (by decide +kernel) (by rw [hX]; exact ⟨Nat.le_trans (Nat.le_of_ble_eq_true rfl) (Nat.le_add_left 8 F), Nat.le_trans (Nat.le_of_ble_eq_true rfl) (Nat.le_add_left 400 Lc)⟩) rfl (Nat.le_of_ble_eq_true rfl) (by show 0 + (0) = 0; omega) (by show 0 + (0) = 0; omega) rfl dX12_search_86 (kk_sK (fun v31 I31 J31 h => ?_))
        refine wz_iload C rfl dX12_search_89 ?_
        obtain ⟨g32, h⟩ := h
        refine wy_iald C g32 dX12_search_91 ?_
        refine wm_callV C (S := (I31, J31)) (o := 1000) (As := [.int (iZ (I31 v31 l9.toNat))]) (st := [.int (iZ l8)]) (a' := 0) (b' := 0) (shK_w (by decide) rfl) rfl (k_X12_weightOf G hG hW (I31 v31 l9.toNat) I31 J31 _ h) 1 gX12_search_X12_weightOf rfl (by decide +kernel) (by rw [hX]; exact ⟨Nat.le_trans (Nat.le_of_ble_eq_true rfl) (Nat.le_add_left 8 F), Nat.le_trans (Nat.le_of_ble_eq_true rfl) (Nat.le_add_left 400 Lc)⟩) rfl (Nat.le_of_ble_eq_true rfl) (by show 0 + (0) = 0; omega) (by show 0 + (0) = 0; omega) rfl dX12_search_92 (kk_sI (fun v33 I33 J33 h => ?_))
        refine wz_goto C dX12_search_95 (tgt := 99) (by decide) ?_
        refine wz_iadd C dX12_search_99 ?_
        refine wz_istore_8 C rfl dX12_search_100 ?_
        refine wz_iinc_9 C rfl dX12_search_102 ?_
        refine wz_goto C dX12_search_105 (tgt := 67) (by decide) ?_
        exact Wz.less (a0 := 0) (b0 := 0) (by omega) (by omega) (w67 l5 l6 l7 (l8 + v33) (l9 + 1) I33 J33 h)
set_option maxHeartbeats 4000000 in
set_option maxRecDepth 100000 in
theorem lk_X12_search_157 (G : KG) (hG : Kok G) (hW : KWx G) {F Lc : Nat} {rec : Nat → Nat → Nat → Int → Ii → Jj → (Ii → Jj → Prop) → Prop} (hrec : ∀ (k2 k3 k4 : Nat) (l1 : Int) (I : Ii) (J : Jj) (Q : Ii → Jj → Prop), rec k2 k3 k4 l1 I J Q → Ctr G yX12_search wsX12_search { frames := F, cells := 0, slots := 0, locals := Lc } [.ref (kadr G 1000), .int (iZ l1), .ref (kadr G k2), .ref (kadr G k3), .ref (kadr G k4)] (I, J) (QsV Q)) (X : KX) (hX : KR X = { frames := F + 8, cells := 0, slots := 0, locals := Lc + 400 }) (C : Fr G X cX12_search 10 yX12_search.cls none wsX12_search) (k2 : Nat) (k3 : Nat) (k4 : Nat) (l1 : Int) (Q : Ii → Jj → Prop) (r148 : Int → Int → Int → Ii → Jj → Prop) (w148 : ∀ (l5 : Int) (l6 : Int) (l7 : Int) (I : Ii) (J : Jj), r148 l5 l6 l7 I J → Wz G X 10 (QsU G X (QsV Q)) 0 0 148 [some (.ref (kadr G 1000)), some (.int (iZ l1)), some (.ref (kadr G k2)), some (.ref (kadr G k3)), some (.ref (kadr G k4)), some (.int (iZ l5)), some (.int (iZ l6)), some (.int (iZ l7)), none, none] [] I J) : ∀ (n : Nat) (l5 : Int) (l6 : Int) (l7 : Int) (l8 : Int) (I : Ii) (J : Jj), L_X12_search_157 rec k2 k3 k4 l1 Q r148 n l5 l6 l7 l8 I J → Wz G X 10 (QsU G X (QsV Q)) 0 0 157 [some (.ref (kadr G 1000)), some (.int (iZ l1)), some (.ref (kadr G k2)), some (.ref (kadr G k3)), some (.ref (kadr G k4)), some (.int (iZ l5)), some (.int (iZ l6)), some (.int (iZ l7)), some (.int (iZ l8)), none] [] I J := by
  intro n
  induction n with
  | zero => intro l5 l6 l7 l8 I J h; exact False.elim h
  | succ n w157 =>
    intro l5 l6 l7 l8 I J h
    have h : Lb_X12_search_157 rec k2 k3 k4 l1 Q r148 (L_X12_search_157 rec k2 k3 k4 l1 Q r148 n) l5 l6 l7 l8 I J := h
    unfold Lb_X12_search_157 at h
    generalize L_X12_search_157 rec k2 k3 k4 l1 Q r148 n = r157 at h w157
    refine wz_iload C rfl dX12_search_157 ?_
    refine wz_iload C rfl dX12_search_159 ?_
    obtain ⟨g40, h⟩ := h
    obtain ⟨g41, h⟩ := h
    refine wz_icmp_ge C (tgt := 208) g40 g41 dX12_search_161 (by decide) (fun c => ?_) (fun c => ?_)
    · replace h := h.1 c
      refine wz_iinc_7 C rfl dX12_search_208 ?_
      refine wz_goto C dX12_search_211 (tgt := 148) (by decide) ?_
      exact Wz.less (a0 := 0) (b0 := 0) (by omega) (by omega) (Wz.drop (w148 l5 l6 (l7 + 1) I J h) (And.intro rfl (And.intro rfl (And.intro rfl (And.intro rfl (And.intro rfl (And.intro rfl (And.intro rfl (And.intro rfl trivial)))))))))
    · replace h := h.2 c
      refine wz_iload C rfl dX12_search_164 ?_
      refine wz_aload_n C rfl rfl dX12_search_166 ?_
      refine wz_iload C rfl dX12_search_167 ?_
      obtain ⟨g42, h⟩ := h
      refine wy_iald C g42 dX12_search_169 ?_
      refine wz_aload_n C rfl rfl dX12_search_170 ?_
      refine wz_iload C rfl dX12_search_171 ?_
      obtain ⟨g43, h⟩ := h
      refine wy_iald C g43 dX12_search_173 ?_
      obtain ⟨g44, h⟩ := h
      obtain ⟨g45, h⟩ := h
      refine wz_icmp_ne C (tgt := 181) g44 g45 dX12_search_174 (by decide) (fun c => ?_) (fun c => ?_)
      · replace h := h.1 c
        refine wz_aload_n C rfl rfl dX12_search_181 ?_
        refine wz_aload_n C rfl rfl dX12_search_182 ?_
        refine wm_callV C (S := (I, J)) (o := 1000) (As := []) (st := [.ref (kadr G 1000), .int (iZ l6)]) (a' := 0) (b' := 0) (shK_w (by decide) rfl) rfl (k_X12_sets G hG hW I J _ h) 0 gX12_search_X12_sets rfl (by decide +kernel) (by rw [hX]; exact ⟨Nat.le_trans (Nat.le_of_ble_eq_true rfl) (Nat.le_add_left 8 F), Nat.le_trans (Nat.le_of_ble_eq_true rfl) (Nat.le_add_left 400 Lc)⟩) rfl (Nat.le_of_ble_eq_true rfl) (by show 0 + (0) = 0; omega) (by show 0 + (0) = 0; omega) rfl dX12_search_183 (kk_sK (fun v46 I46 J46 h => ?_))
        refine wz_iload C rfl dX12_search_186 ?_
        obtain ⟨g47, h⟩ := h
        refine wy_iald C g47 dX12_search_188 ?_
        refine wz_aload_n C rfl rfl dX12_search_189 ?_
        refine wm_callV C (S := (I46, J46)) (o := 1000) (As := []) (st := [.int (iZ (I46 v46 l7.toNat)), .ref (kadr G 1000), .int (iZ l6)]) (a' := 0) (b' := 0) (shK_w (by decide) rfl) rfl (k_X12_sets G hG hW I46 J46 _ h) 0 gX12_search_X12_sets rfl (by decide +kernel) (by rw [hX]; exact ⟨Nat.le_trans (Nat.le_of_ble_eq_true rfl) (Nat.le_add_left 8 F), Nat.le_trans (Nat.le_of_ble_eq_true rfl) (Nat.le_add_left 400 Lc)⟩) rfl (Nat.le_of_ble_eq_true rfl) (by show 0 + (0) = 0; omega) (by show 0 + (0) = 0; omega) rfl dX12_search_190 (kk_sK (fun v48 I48 J48 h => ?_))
        refine wz_iload C rfl dX12_search_193 ?_
        obtain ⟨g49, h⟩ := h
        refine wy_iald C g49 dX12_search_195 ?_
        refine wm_callV C (S := (I48, J48)) (o := 1000) (As := [.int (iZ (I46 v46 l7.toNat)), .int (iZ (I48 v48 l8.toNat))]) (st := [.int (iZ l6)]) (a' := 0) (b' := 0) (shK_w (by decide) rfl) rfl (k_X12_links G hG hW (I46 v46 l7.toNat) (I48 v48 l8.toNat) I48 J48 _ h) 2 gX12_search_X12_links rfl (by decide +kernel) (by rw [hX]; exact ⟨Nat.le_trans (Nat.le_of_ble_eq_true rfl) (Nat.le_add_left 8 F), Nat.le_trans (Nat.le_of_ble_eq_true rfl) (Nat.le_add_left 400 Lc)⟩) rfl (Nat.le_of_ble_eq_true rfl) (by show 0 + (0) = 0; omega) (by show 0 + (0) = 0; omega) rfl dX12_search_196 (kk_sI (fun v50 I50 J50 h => ?_))
        refine wz_iadd C dX12_search_199 ?_
        refine wz_istore_6 C rfl dX12_search_200 ?_
        refine wz_iinc_8 C rfl dX12_search_202 ?_
        refine wz_goto C dX12_search_205 (tgt := 157) (by decide) ?_
        exact Wz.less (a0 := 0) (b0 := 0) (by omega) (by omega) (w157 l5 (l6 + v50) l7 (l8 + 1) I50 J50 h)
      · replace h := h.2 c
        refine wz_iconst C dX12_search_177 ?_
        refine wz_goto C dX12_search_178 (tgt := 199) (by decide) ?_
        refine wz_iadd C dX12_search_199 ?_
        refine wz_istore_6 C rfl dX12_search_200 ?_
        refine wz_iinc_8 C rfl dX12_search_202 ?_
        refine wz_goto C dX12_search_205 (tgt := 157) (by decide) ?_
        exact Wz.less (a0 := 0) (b0 := 0) (by omega) (by omega) (w157 l5 (l6 + 0) l7 (l8 + 1) I J h)
set_option maxHeartbeats 4000000 in
set_option maxRecDepth 100000 in
theorem bk_X12_search_237 (G : KG) (hG : Kok G) (hW : KWx G) {F Lc : Nat} {rec : Nat → Nat → Nat → Int → Ii → Jj → (Ii → Jj → Prop) → Prop} (hrec : ∀ (k2 k3 k4 : Nat) (l1 : Int) (I : Ii) (J : Jj) (Q : Ii → Jj → Prop), rec k2 k3 k4 l1 I J Q → Ctr G yX12_search wsX12_search { frames := F, cells := 0, slots := 0, locals := Lc } [.ref (kadr G 1000), .int (iZ l1), .ref (kadr G k2), .ref (kadr G k3), .ref (kadr G k4)] (I, J) (QsV Q)) (X : KX) (hX : KR X = { frames := F + 8, cells := 0, slots := 0, locals := Lc + 400 }) (C : Fr G X cX12_search 10 yX12_search.cls none wsX12_search) (k2 : Nat) (k3 : Nat) (k4 : Nat) (l1 : Int) (Q : Ii → Jj → Prop) (l5 : Int) (l6 : Int) (I : Ii) (J : Jj) (h : B_X12_search_237 rec k2 k3 k4 l1 Q l5 l6 I J) : Wz G X 10 (QsU G X (QsV Q)) 0 0 237 [none, some (.int (iZ l1)), some (.ref (kadr G k2)), some (.ref (kadr G k3)), some (.ref (kadr G k4)), some (.int (iZ l5)), some (.int (iZ l6)), none, none, none] [] I J := by
  unfold B_X12_search_237 at h
  refine wz_aload_n C rfl rfl dX12_search_237 ?_
  refine wz_iconst C dX12_search_238 ?_
  refine wz_iload C rfl dX12_search_239 ?_
  obtain ⟨g34, h⟩ := h
  refine wy_iast C g34 dX12_search_241 (fun I35 e => ?_)
  replace h := h I35 e
  refine wz_aload_n C rfl rfl dX12_search_242 ?_
  refine wz_iconst C dX12_search_243 ?_
  refine wz_iload C rfl dX12_search_244 ?_
  obtain ⟨g36, h⟩ := h
  refine wy_iast C g36 dX12_search_246 (fun I37 e => ?_)
  replace h := h I37 e
  refine wz_aload_n C rfl rfl dX12_search_247 ?_
  refine wz_iconst C dX12_search_248 ?_
  refine wz_aload C rfl dX12_search_249 ?_
  refine wz_iconst C dX12_search_251 ?_
  refine wz_iload_n C rfl rfl dX12_search_252 ?_
  obtain ⟨g39, h⟩ := h
  refine wy_copyDD C g39 (by decide +kernel) (by decide +kernel) (by decide +kernel) (by decide +kernel) (by rw [hX]; exact ⟨Nat.le_trans (Nat.le_of_ble_eq_true rfl) (Nat.le_add_left 8 F), Nat.le_trans (Nat.le_of_ble_eq_true rfl) (Nat.le_add_left 400 Lc)⟩) dX12_search_253 (fun I38 e => ?_)
  replace h := h I38 e
  exact wz_vret C dX12_search_256 ⟨rfl, h⟩
set_option maxHeartbeats 4000000 in
set_option maxRecDepth 100000 in
theorem lk_X12_search_148 (G : KG) (hG : Kok G) (hW : KWx G) {F Lc : Nat} {rec : Nat → Nat → Nat → Int → Ii → Jj → (Ii → Jj → Prop) → Prop} (hrec : ∀ (k2 k3 k4 : Nat) (l1 : Int) (I : Ii) (J : Jj) (Q : Ii → Jj → Prop), rec k2 k3 k4 l1 I J Q → Ctr G yX12_search wsX12_search { frames := F, cells := 0, slots := 0, locals := Lc } [.ref (kadr G 1000), .int (iZ l1), .ref (kadr G k2), .ref (kadr G k3), .ref (kadr G k4)] (I, J) (QsV Q)) (X : KX) (hX : KR X = { frames := F + 8, cells := 0, slots := 0, locals := Lc + 400 }) (C : Fr G X cX12_search 10 yX12_search.cls none wsX12_search) (k2 : Nat) (k3 : Nat) (k4 : Nat) (l1 : Int) (Q : Ii → Jj → Prop) : ∀ (n : Nat) (l5 : Int) (l6 : Int) (l7 : Int) (I : Ii) (J : Jj), L_X12_search_148 rec k2 k3 k4 l1 Q n l5 l6 l7 I J → Wz G X 10 (QsU G X (QsV Q)) 0 0 148 [some (.ref (kadr G 1000)), some (.int (iZ l1)), some (.ref (kadr G k2)), some (.ref (kadr G k3)), some (.ref (kadr G k4)), some (.int (iZ l5)), some (.int (iZ l6)), some (.int (iZ l7)), none, none] [] I J := by
  intro n
  induction n with
  | zero => intro l5 l6 l7 I J h; exact False.elim h
  | succ n w148 =>
    intro l5 l6 l7 I J h
    have h : Lb_X12_search_148 rec k2 k3 k4 l1 Q (L_X12_search_148 rec k2 k3 k4 l1 Q n) l5 l6 l7 I J := h
    unfold Lb_X12_search_148 at h
    generalize L_X12_search_148 rec k2 k3 k4 l1 Q n = r148 at h w148
    refine wz_iload C rfl dX12_search_148 ?_
    refine wz_iload_n C rfl rfl dX12_search_150 ?_
    obtain ⟨g15, h⟩ := h
    obtain ⟨g16, h⟩ := h
    refine wz_icmp_ge C (tgt := 214) g15 g16 dX12_search_151 (by decide) (fun c => ?_) (fun c => ?_)
    · replace h := h.1 c
      refine wz_aload_n C rfl rfl dX12_search_214 ?_
      refine wz_iconst C dX12_search_215 ?_
      obtain ⟨g17, h⟩ := h
      refine wy_iald C g17 dX12_search_216 ?_
      obtain ⟨g18, h⟩ := h
      refine wz_if_lt C (tgt := 237) g18 dX12_search_217 (by decide) (fun c => ?_) (fun c => ?_)
      · replace h := h.1 c
        exact Wz.less (a0 := 0) (b0 := 0) (by omega) (by omega) (Wz.drop (bk_X12_search_237 G hG hW hrec X hX C k2 k3 k4 l1 Q l5 l6 I J h) (And.intro rfl (And.intro rfl (And.intro rfl (And.intro rfl (And.intro rfl (And.intro rfl trivial)))))))
      · replace h := h.2 c
        refine wz_iload C rfl dX12_search_220 ?_
        refine wz_aload_n C rfl rfl dX12_search_222 ?_
        refine wz_iconst C dX12_search_223 ?_
        obtain ⟨g19, h⟩ := h
        refine wy_iald C g19 dX12_search_224 ?_
        obtain ⟨g20, h⟩ := h
        refine wz_icmp_ne C (tgt := 237) g20 g18 dX12_search_225 (by decide) (fun c => ?_) (fun c => ?_)
        · replace h := h.1 c
          exact Wz.less (a0 := 0) (b0 := 0) (by omega) (by omega) (Wz.drop (bk_X12_search_237 G hG hW hrec X hX C k2 k3 k4 l1 Q l5 l6 I J h) (And.intro rfl (And.intro rfl (And.intro rfl (And.intro rfl (And.intro rfl (And.intro rfl trivial)))))))
        · replace h := h.2 c
          refine wz_iload C rfl dX12_search_228 ?_
          refine wz_aload_n C rfl rfl dX12_search_230 ?_
          refine wz_iconst C dX12_search_231 ?_
          obtain ⟨g21, h⟩ := h
          refine wy_iald C g21 dX12_search_232 ?_
          obtain ⟨g22, h⟩ := h
          obtain ⟨g23, h⟩ := h
          refine wz_icmp_lt C (tgt := 237) g22 g23 dX12_search_233 (by decide) (fun c => ?_) (fun c => ?_)
          · replace h := h.1 c
            exact Wz.less (a0 := 0) (b0 := 0) (by omega) (by omega) (Wz.drop (bk_X12_search_237 G hG hW hrec X hX C k2 k3 k4 l1 Q l5 l6 I J h) (And.intro rfl (And.intro rfl (And.intro rfl (And.intro rfl (And.intro rfl (And.intro rfl trivial)))))))
          · replace h := h.2 c
            exact wz_vret C dX12_search_236 ⟨rfl, h⟩
    · replace h := h.2 c
      refine wz_iconst C dX12_search_154 ?_
      refine wz_istore_8 C rfl dX12_search_155 ?_
      obtain ⟨n, h⟩ := h
      exact Wz.less (a0 := 0) (b0 := 0) (by omega) (by omega) (lk_X12_search_157 G hG hW hrec X hX C k2 k3 k4 l1 Q r148 w148 n l5 l6 l7 0 I J h)
set_option maxHeartbeats 4000000 in
set_option maxRecDepth 100000 in
theorem lk_X12_search_52 (G : KG) (hG : Kok G) (hW : KWx G) {F Lc : Nat} {rec : Nat → Nat → Nat → Int → Ii → Jj → (Ii → Jj → Prop) → Prop} (hrec : ∀ (k2 k3 k4 : Nat) (l1 : Int) (I : Ii) (J : Jj) (Q : Ii → Jj → Prop), rec k2 k3 k4 l1 I J Q → Ctr G yX12_search wsX12_search { frames := F, cells := 0, slots := 0, locals := Lc } [.ref (kadr G 1000), .int (iZ l1), .ref (kadr G k2), .ref (kadr G k3), .ref (kadr G k4)] (I, J) (QsV Q)) (X : KX) (hX : KR X = { frames := F + 8, cells := 0, slots := 0, locals := Lc + 400 }) (C : Fr G X cX12_search 10 yX12_search.cls none wsX12_search) (k2 : Nat) (k3 : Nat) (k4 : Nat) (l1 : Int) (Q : Ii → Jj → Prop) : ∀ (n : Nat) (l5 : Int) (l6 : Int) (l7 : Int) (I : Ii) (J : Jj), L_X12_search_52 rec k2 k3 k4 l1 Q n l5 l6 l7 I J → Wz G X 10 (QsU G X (QsV Q)) 0 0 52 [some (.ref (kadr G 1000)), some (.int (iZ l1)), some (.ref (kadr G k2)), some (.ref (kadr G k3)), some (.ref (kadr G k4)), some (.int (iZ l5)), some (.int (iZ l6)), some (.int (iZ l7)), none, none] [] I J := by
  intro n
  induction n with
  | zero => intro l5 l6 l7 I J h; exact False.elim h
  | succ n w52 =>
    intro l5 l6 l7 I J h
    have h : Lb_X12_search_52 rec k2 k3 k4 l1 Q (L_X12_search_52 rec k2 k3 k4 l1 Q n) l5 l6 l7 I J := h
    unfold Lb_X12_search_52 at h
    generalize L_X12_search_52 rec k2 k3 k4 l1 Q n = r52 at h w52
    refine wz_iload C rfl dX12_search_52 ?_
    refine wz_aload_n C rfl rfl dX12_search_54 ?_
    refine wz_getI C rfl f_X12_search_7 (sOw rfl (by decide)) dX12_search_55 ?_
    obtain ⟨g4, h⟩ := h
    obtain ⟨g5, h⟩ := h
    refine wz_icmp_ge C (tgt := 130) g4 g5 dX12_search_58 (by decide) (fun c => ?_) (fun c => ?_)
    · replace h := h.1 c
      refine wz_aload_n C rfl rfl dX12_search_130 ?_
      refine wz_iconst C dX12_search_131 ?_
      obtain ⟨g6, h⟩ := h
      refine wy_iald C g6 dX12_search_132 ?_
      obtain ⟨g7, h⟩ := h
      refine wz_if_lt C (tgt := 145) g7 dX12_search_133 (by decide) (fun c => ?_) (fun c => ?_)
      · replace h := h.1 c
        refine wz_iconst C dX12_search_145 ?_
        refine wz_istore_7 C rfl dX12_search_146 ?_
        obtain ⟨n, h⟩ := h
        exact Wz.less (a0 := 0) (b0 := 0) (by omega) (by omega) (lk_X12_search_148 G hG hW hrec X hX C k2 k3 k4 l1 Q n l5 l6 0 I J h)
      · replace h := h.2 c
        refine wz_iload C rfl dX12_search_136 ?_
        refine wz_aload_n C rfl rfl dX12_search_138 ?_
        refine wz_iconst C dX12_search_139 ?_
        obtain ⟨g8, h⟩ := h
        refine wy_iald C g8 dX12_search_140 ?_
        obtain ⟨g9, h⟩ := h
        refine wz_icmp_le C (tgt := 145) g9 g7 dX12_search_141 (by decide) (fun c => ?_) (fun c => ?_)
        · replace h := h.1 c
          refine wz_iconst C dX12_search_145 ?_
          refine wz_istore_7 C rfl dX12_search_146 ?_
          obtain ⟨n, h⟩ := h
          exact Wz.less (a0 := 0) (b0 := 0) (by omega) (by omega) (lk_X12_search_148 G hG hW hrec X hX C k2 k3 k4 l1 Q n l5 l6 0 I J h)
        · replace h := h.2 c
          exact wz_vret C dX12_search_144 ⟨rfl, h⟩
    · replace h := h.2 c
      refine wz_iconst C dX12_search_61 ?_
      refine wz_istore_8 C rfl dX12_search_62 ?_
      refine wz_iconst C dX12_search_64 ?_
      refine wz_istore_9 C rfl dX12_search_65 ?_
      obtain ⟨n, h⟩ := h
      exact Wz.less (a0 := 0) (b0 := 0) (by omega) (by omega) (lk_X12_search_67 G hG hW hrec X hX C k2 k3 k4 l1 Q r52 w52 n l5 l6 l7 0 0 I J h)
set_option maxHeartbeats 4000000 in
set_option maxRecDepth 100000 in
theorem lk_X12_search_11 (G : KG) (hG : Kok G) (hW : KWx G) {F Lc : Nat} {rec : Nat → Nat → Nat → Int → Ii → Jj → (Ii → Jj → Prop) → Prop} (hrec : ∀ (k2 k3 k4 : Nat) (l1 : Int) (I : Ii) (J : Jj) (Q : Ii → Jj → Prop), rec k2 k3 k4 l1 I J Q → Ctr G yX12_search wsX12_search { frames := F, cells := 0, slots := 0, locals := Lc } [.ref (kadr G 1000), .int (iZ l1), .ref (kadr G k2), .ref (kadr G k3), .ref (kadr G k4)] (I, J) (QsV Q)) (X : KX) (hX : KR X = { frames := F + 8, cells := 0, slots := 0, locals := Lc + 400 }) (C : Fr G X cX12_search 10 yX12_search.cls none wsX12_search) (k2 : Nat) (k3 : Nat) (k4 : Nat) (l1 : Int) (Q : Ii → Jj → Prop) : ∀ (n : Nat) (l5 : Int) (I : Ii) (J : Jj), L_X12_search_11 rec k2 k3 k4 l1 Q n l5 I J → Wz G X 10 (QsU G X (QsV Q)) 0 0 11 [some (.ref (kadr G 1000)), some (.int (iZ l1)), some (.ref (kadr G k2)), some (.ref (kadr G k3)), some (.ref (kadr G k4)), some (.int (iZ l5)), none, none, none, none] [] I J := by
  intro n
  induction n with
  | zero => intro l5 I J h; exact False.elim h
  | succ n w11 =>
    intro l5 I J h
    have h : Lb_X12_search_11 rec k2 k3 k4 l1 Q (L_X12_search_11 rec k2 k3 k4 l1 Q n) l5 I J := h
    unfold Lb_X12_search_11 at h
    generalize L_X12_search_11 rec k2 k3 k4 l1 Q n = r11 at h w11
    refine wz_iload C rfl dX12_search_11 ?_
    refine wz_aload_n C rfl rfl dX12_search_13 ?_
    refine wz_getI C rfl f_X12_search_7 (sOw rfl (by decide)) dX12_search_14 ?_
    obtain ⟨g10, h⟩ := h
    obtain ⟨g11, h⟩ := h
    refine wz_icmp_ge C (tgt := 42) g10 g11 dX12_search_17 (by decide) (fun c => ?_) (fun c => ?_)
    · replace h := h.1 c
      exact wz_vret C dX12_search_42 ⟨rfl, h⟩
    · replace h := h.2 c
      refine wz_aload_n C rfl rfl dX12_search_20 ?_
      refine wz_iload_n C rfl rfl dX12_search_21 ?_
      refine wz_iload C rfl dX12_search_22 ?_
      obtain ⟨g12, h⟩ := h
      refine wy_iast C g12 dX12_search_24 (fun I13 e => ?_)
      replace h := h I13 e
      refine wz_aload_n C rfl rfl dX12_search_25 ?_
      refine wz_iload_n C rfl rfl dX12_search_26 ?_
      refine wz_iconst C dX12_search_27 ?_
      refine wz_iadd C dX12_search_28 ?_
      refine wz_aload_n C rfl rfl dX12_search_29 ?_
      refine wz_aload_n C rfl rfl dX12_search_30 ?_
      refine wz_aload C rfl dX12_search_31 ?_
      refine wm_callV C (S := (I13, J)) (o := 1000) (As := [.int (iZ (l1 + 1)), .ref (kadr G k2), .ref (kadr G k3), .ref (kadr G k4)]) (st := []) (a' := 0) (b' := 0) (shK_w (by decide) rfl) rfl (hrec k2 k3 k4 (l1 + 1) I13 J _ h) 4 gX12_search_X12_search rfl (by decide +kernel) (by rw [hX]; exact ⟨by show F + 1 ≤ F + 8; omega, by show 8 + (10 + 11) + Lc ≤ Lc + 400; omega⟩) rfl (Nat.le_of_ble_eq_true rfl) (Nat.zero_add _) (Nat.zero_add _) rfl dX12_search_33 (kk_sV (fun I14 J14 h => ?_))
      refine wz_iinc_5 C rfl dX12_search_36 ?_
      refine wz_goto C dX12_search_39 (tgt := 11) (by decide) ?_
      exact Wz.less (a0 := 0) (b0 := 0) (by omega) (by omega) (w11 (l5 + 1) I14 J14 h)
set_option maxHeartbeats 4000000 in
set_option maxRecDepth 100000 in
theorem k_X12_search_b (G : KG) (hG : Kok G) (hW : KWx G) {F Lc : Nat} {rec : Nat → Nat → Nat → Int → Ii → Jj → (Ii → Jj → Prop) → Prop} (hrec : ∀ (k2 k3 k4 : Nat) (l1 : Int) (I : Ii) (J : Jj) (Q : Ii → Jj → Prop), rec k2 k3 k4 l1 I J Q → Ctr G yX12_search wsX12_search { frames := F, cells := 0, slots := 0, locals := Lc } [.ref (kadr G 1000), .int (iZ l1), .ref (kadr G k2), .ref (kadr G k3), .ref (kadr G k4)] (I, J) (QsV Q)) (k2 : Nat) (k3 : Nat) (k4 : Nat) (l1 : Int) (I : Ii) (J : Jj) (Q : Ii → Jj → Prop) (h : wp_X12_search_b rec k2 k3 k4 l1 I J Q) : Ctr G yX12_search wsX12_search { frames := F + 8, cells := 0, slots := 0, locals := Lc + 400 } [.ref (kadr G 1000), .int (iZ l1), .ref (kadr G k2), .ref (kadr G k3), .ref (kadr G k4)] (I, J) (QsV Q) := by
  unfold wp_X12_search_b at h
  refine Ctr.ofZ (cc := cX12_search) (nL := 10) (ret := none) [some (.ref (kadr G 1000)), some (.int (iZ l1)), some (.ref (kadr G k2)), some (.ref (kadr G k3)), some (.ref (kadr G k4)), none, none, none, none, none] hG (by decide +kernel) rfl (Nat.le_of_ble_eq_true rfl) (Nat.le_of_ble_eq_true rfl) (by simp [lvA, lv_args, Value.category]) ?_
  intro X hX C
  refine (?_ : Wz G X 10 (QsU G X (QsV Q)) 0 0 0 [some (.ref (kadr G 1000)), some (.int (iZ l1)), some (.ref (kadr G k2)), some (.ref (kadr G k3)), some (.ref (kadr G k4)), none, none, none, none, none] [] I J)
  refine wz_iload_n C rfl rfl dX12_search_0 ?_
  refine wz_aload_n C rfl rfl dX12_search_1 ?_
  refine wm_callV C (S := (I, J)) (o := 1000) (As := []) (st := [.int (iZ l1)]) (a' := 0) (b' := 0) (shK_w (by decide) rfl) rfl (k_X12_groups G hG hW I J _ h) 0 gX12_search_X12_groups rfl (by decide +kernel) (by rw [hX]; exact ⟨Nat.le_trans (Nat.le_of_ble_eq_true rfl) (Nat.le_add_left 8 F), Nat.le_trans (Nat.le_of_ble_eq_true rfl) (Nat.le_add_left 400 Lc)⟩) rfl (Nat.le_of_ble_eq_true rfl) (by show 0 + (0) = 0; omega) (by show 0 + (0) = 0; omega) rfl dX12_search_2 (kk_sI (fun v1 I1 J1 h => ?_))
  obtain ⟨g2, h⟩ := h
  obtain ⟨g3, h⟩ := h
  refine wz_icmp_ge C (tgt := 43) g2 g3 dX12_search_5 (by decide) (fun c => ?_) (fun c => ?_)
  · replace h := h.1 c
    refine wz_iconst C dX12_search_43 ?_
    refine wz_istore_5 C rfl dX12_search_44 ?_
    refine wz_iconst C dX12_search_46 ?_
    refine wz_istore_6 C rfl dX12_search_47 ?_
    refine wz_iconst C dX12_search_49 ?_
    refine wz_istore_7 C rfl dX12_search_50 ?_
    obtain ⟨n, h⟩ := h
    exact Wz.less (a0 := 0) (b0 := 0) (by omega) (by omega) (lk_X12_search_52 G hG hW hrec X hX C k2 k3 k4 l1 Q n 0 0 0 I1 J1 h)
  · replace h := h.2 c
    refine wz_iconst C dX12_search_8 ?_
    refine wz_istore_5 C rfl dX12_search_9 ?_
    obtain ⟨n, h⟩ := h
    exact Wz.less (a0 := 0) (b0 := 0) (by omega) (by omega) (lk_X12_search_11 G hG hW hrec X hX C k2 k3 k4 l1 Q n 0 I1 J1 h)
