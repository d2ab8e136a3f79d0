theorem in_L_acts_X12 : ∀ w ∈ wsX120, w ∈ wsL_acts := by decide +kernel
theorem f_L_acts_101 : FLk wsL_acts RL 101 15 1 := flk 15 1 rfl tyX12_ok nmX12 in_L_acts_X12 (by decide) (by decide +kernel)
theorem f_L_acts_43 : FLk wsL_acts RL 43 15 3 := flk 15 3 rfl tyX12_ok nmX12 in_L_acts_X12 (by decide) (by decide +kernel)
theorem fp_X12_3 : FPk 15 3 .int := fun C9 T9 N9 h => by
  have h : some (RX12, TX12, 13) = some (C9, T9, N9) := h
  cases h
  exact ⟨rfl, by decide +kernel⟩
theorem f_L_acts_52 : FLk wsL_acts RL 52 15 10 := flk 15 10 rfl tyX12_ok nmX12 in_L_acts_X12 (by decide) (by decide +kernel)
theorem f_L_acts_83 : FLk wsL_acts RL 83 15 0 := flk 15 0 rfl tyX12_ok nmX12 in_L_acts_X12 (by decide) (by decide +kernel)
def rm_L_acts : Room := { frames := 66, cells := 160, slots := 5672, locals := 3252 }
set_option maxHeartbeats 4000000 in
set_option maxRecDepth 100000 in
theorem bk_L_acts_108 (G : KG) (hGC : KokC G) (hG : Kok G) (hW : KWx G) {sL : Nat} {xs : Nat → Int} (hT : KScr G sL xs) (X : KX) (hX : KR X = rm_L_acts) (C : Fr G X cL_acts 12 yL_acts.cls (some .boolean) wsL_acts) (l3 : Int) (Q : Int → Ii → Jj → Prop)  (I : Ii) (J : Jj) (h : B_L_acts_108 sL xs l3 Q  I J) : Wz G X 12 (QsU G X (QsB Q)) 5 356 108 [some (.ref (kadr G 100)), some (.ref (kadr G 1000)), none, none, none, none, none, none, none, none, none, none] [] I J := by
  unfold B_L_acts_108 at h
  refine wz_aload_n C rfl rfl dL_acts_108 ?_
  refine wm_callV C (S := (I, J)) (o := 1000) (As := []) (st := []) (a' := 4) (b' := 342) (shK_w (by decide) rfl) rfl (k_X12_whyShrink G hG hW I J _ h) 0 gL_acts_X12_whyShrink rfl (by decide +kernel) (by rw [hX]; exact ⟨Nat.le_of_ble_eq_true rfl, Nat.le_of_ble_eq_true rfl⟩) rfl (Nat.le_of_ble_eq_true rfl) (by show 1 + (4) = 5; omega) (by show 14 + (342) = 356; omega) rfl dL_acts_109 (kk_sI (fun v37 I37 J37 h => ?_))
  refine wz_istore_7 C rfl dL_acts_112 ?_
  refine wz_aload_n C rfl rfl dL_acts_114 ?_
  refine wm_callV C (S := (I37, J37)) (o := 100) (As := []) (st := []) (a' := 4) (b' := 342) (shK_c hGC.2 rfl) rfl (k_X11_whyNotShrink G hGC I37 J37 _ h) 0 gL_acts_X11_whyNotShrink rfl (by decide +kernel) (by rw [hX]; exact ⟨Nat.le_of_ble_eq_true rfl, Nat.le_of_ble_eq_true rfl⟩) rfl (Nat.le_of_ble_eq_true rfl) (by show 0 + (4) = 4; omega) (by show 0 + (342) = 342; omega) rfl dL_acts_115 (kk_sI (fun v38 I38 J38 h => ?_))
  refine wz_iload C rfl dL_acts_118 ?_
  obtain ⟨g39, h⟩ := h
  obtain ⟨g40, h⟩ := h
  refine wz_icmp_ne C (tgt := 143) g39 g40 dL_acts_120 (by decide) (fun c => ?_) (fun c => ?_)
  · replace h := h.1 c
    refine wz_iconst C dL_acts_143 ?_
    exact wz_zret C (Or.inl rfl) dL_acts_144 ⟨_, rfl, (Or.inl rfl), h⟩
  · replace h := h.2 c
    refine wz_iload C rfl dL_acts_123 ?_
    refine wz_if_gt C (tgt := 139) g40 dL_acts_125 (by decide) (fun c => ?_) (fun c => ?_)
    · replace h := h.1 c
      refine wz_iconst C dL_acts_139 ?_
      refine wz_goto C dL_acts_140 (tgt := 144) (by decide) ?_
      exact wz_zret C (Or.inr rfl) dL_acts_144 ⟨_, rfl, (Or.inr rfl), h⟩
    · replace h := h.2 c
      refine wz_aload_n C rfl rfl dL_acts_128 ?_
      refine wm_callV C (S := (I38, J38)) (o := 100) (As := []) (st := []) (a' := 4) (b' := 342) (shK_c hGC.2 rfl) rfl (k_X11_shrink G hGC I38 J38 _ h) 0 gL_acts_X11_shrink rfl (by decide +kernel) (by rw [hX]; exact ⟨Nat.le_of_ble_eq_true rfl, Nat.le_of_ble_eq_true rfl⟩) rfl (Nat.le_of_ble_eq_true rfl) (by show 0 + (4) = 4; omega) (by show 0 + (342) = 342; omega) rfl dL_acts_129 (kk_sI (fun v41 I41 J41 h => ?_))
      refine wz_aload_n C rfl rfl dL_acts_132 ?_
      refine wm_callV C (S := (I41, J41)) (o := 1000) (As := []) (st := [.int (iZ v41)]) (a' := 0) (b' := 0) (shK_w (by decide) rfl) rfl (k_X12_shrink G hG hW I41 J41 _ h) 0 gL_acts_X12_shrink rfl (by decide +kernel) (by rw [hX]; exact ⟨Nat.le_of_ble_eq_true rfl, Nat.le_of_ble_eq_true rfl⟩) rfl (Nat.le_of_ble_eq_true rfl) (by show 4 + (0) = 4; omega) (by show 342 + (0) = 342; omega) rfl dL_acts_133 (kk_sI (fun v42 I42 J42 h => ?_))
      obtain ⟨g43, h⟩ := h
      obtain ⟨g44, h⟩ := h
      refine wz_icmp_ne C (tgt := 143) g43 g44 dL_acts_136 (by decide) (fun c => ?_) (fun c => ?_)
      · replace h := h.1 c
        refine wz_iconst C dL_acts_143 ?_
        exact wz_zret C (Or.inl rfl) dL_acts_144 ⟨_, rfl, (Or.inl rfl), h⟩
      · replace h := h.2 c
        refine wz_iconst C dL_acts_139 ?_
        refine wz_goto C dL_acts_140 (tgt := 144) (by decide) ?_
        exact wz_zret C (Or.inr rfl) dL_acts_144 ⟨_, rfl, (Or.inr rfl), h⟩
set_option maxHeartbeats 4000000 in
set_option maxRecDepth 100000 in
theorem bk_L_acts_175 (G : KG) (hGC : KokC G) (hG : Kok G) (hW : KWx G) {sL : Nat} {xs : Nat → Int} (hT : KScr G sL xs) (X : KX) (hX : KR X = rm_L_acts) (C : Fr G X cL_acts 12 yL_acts.cls (some .boolean) wsL_acts) (l3 : Int) (Q : Int → Ii → Jj → Prop) (l5 : Int) (l6 : Int) (I : Ii) (J : Jj) (h : B_L_acts_175 sL xs l3 Q l5 l6 I J) : Wz G X 12 (QsU G X (QsB Q)) 2 314 175 [some (.ref (kadr G 100)), some (.ref (kadr G 1000)), none, none, none, some (.int (iZ l5)), some (.int (iZ l6)), none, none, none, none, none] [] I J := by
  unfold B_L_acts_175 at h
  refine wz_aload_n C rfl rfl dL_acts_175 ?_
  refine wz_iload C rfl dL_acts_176 ?_
  refine wz_iload C rfl dL_acts_178 ?_
  refine wm_callV C (S := (I, J)) (o := 1000) (As := [.int (iZ l5), .int (iZ l6)]) (st := []) (a' := 2) (b' := 314) (shK_w (by decide) rfl) rfl (k_X12_why G hG hW l5 l6 I J _ h) 2 gL_acts_X12_why rfl (by decide +kernel) (by rw [hX]; exact ⟨Nat.le_of_ble_eq_true rfl, Nat.le_of_ble_eq_true rfl⟩) rfl (Nat.le_of_ble_eq_true rfl) (by show 0 + (2) = 2; omega) (by show 0 + (314) = 314; omega) rfl dL_acts_180 (kk_sI (fun v45 I45 J45 h => ?_))
  refine wz_istore_7 C rfl dL_acts_183 ?_
  refine wz_aload_n C rfl rfl dL_acts_185 ?_
  refine wz_iload C rfl dL_acts_186 ?_
  refine wz_iload C rfl dL_acts_188 ?_
  refine wm_callV C (S := (I45, J45)) (o := 100) (As := [.int (iZ l5), .int (iZ l6)]) (st := []) (a' := 2) (b' := 314) (shK_c hGC.2 rfl) rfl (k_X11_whyNotMove G hGC l5 l6 I45 J45 _ h) 2 gL_acts_X11_whyNotMove rfl (by decide +kernel) (by rw [hX]; exact ⟨Nat.le_of_ble_eq_true rfl, Nat.le_of_ble_eq_true rfl⟩) rfl (Nat.le_of_ble_eq_true rfl) (by show 0 + (2) = 2; omega) (by show 0 + (314) = 314; omega) rfl dL_acts_190 (kk_sI (fun v46 I46 J46 h => ?_))
  refine wz_iload C rfl dL_acts_193 ?_
  obtain ⟨g47, h⟩ := h
  obtain ⟨g48, h⟩ := h
  refine wz_icmp_ne C (tgt := 226) g47 g48 dL_acts_195 (by decide) (fun c => ?_) (fun c => ?_)
  · replace h := h.1 c
    refine wz_iconst C dL_acts_226 ?_
    exact wz_zret C (Or.inl rfl) dL_acts_227 ⟨_, rfl, (Or.inl rfl), h⟩
  · replace h := h.2 c
    refine wz_iload C rfl dL_acts_198 ?_
    refine wz_if_gt C (tgt := 222) g48 dL_acts_200 (by decide) (fun c => ?_) (fun c => ?_)
    · replace h := h.1 c
      refine wz_iconst C dL_acts_222 ?_
      refine wz_goto C dL_acts_223 (tgt := 227) (by decide) ?_
      exact wz_zret C (Or.inr rfl) dL_acts_227 ⟨_, rfl, (Or.inr rfl), h⟩
    · replace h := h.2 c
      refine wz_aload_n C rfl rfl dL_acts_203 ?_
      refine wz_iload C rfl dL_acts_204 ?_
      refine wz_iload C rfl dL_acts_206 ?_
      refine wm_callV C (S := (I46, J46)) (o := 100) (As := [.int (iZ l5), .int (iZ l6)]) (st := []) (a' := 2) (b' := 314) (shK_c hGC.2 rfl) rfl (k_X11_move G hGC l5 l6 I46 J46 _ h) 2 gL_acts_X11_move rfl (by decide +kernel) (by rw [hX]; exact ⟨Nat.le_of_ble_eq_true rfl, Nat.le_of_ble_eq_true rfl⟩) rfl (Nat.le_of_ble_eq_true rfl) (by show 0 + (2) = 2; omega) (by show 0 + (314) = 314; omega) rfl dL_acts_208 (kk_sI (fun v49 I49 J49 h => ?_))
      refine wz_aload_n C rfl rfl dL_acts_211 ?_
      refine wz_iload C rfl dL_acts_212 ?_
      refine wz_iload C rfl dL_acts_214 ?_
      refine wm_callV C (S := (I49, J49)) (o := 1000) (As := [.int (iZ l5), .int (iZ l6)]) (st := [.int (iZ v49)]) (a' := 0) (b' := 0) (shK_w (by decide) rfl) rfl (k_X12_move G hG hW l5 l6 I49 J49 _ h) 2 gL_acts_X12_move rfl (by decide +kernel) (by rw [hX]; exact ⟨Nat.le_of_ble_eq_true rfl, Nat.le_of_ble_eq_true rfl⟩) rfl (Nat.le_of_ble_eq_true rfl) (by show 2 + (0) = 2; omega) (by show 314 + (0) = 314; omega) rfl dL_acts_216 (kk_sI (fun v50 I50 J50 h => ?_))
      obtain ⟨g51, h⟩ := h
      obtain ⟨g52, h⟩ := h
      refine wz_icmp_ne C (tgt := 226) g51 g52 dL_acts_219 (by decide) (fun c => ?_) (fun c => ?_)
      · replace h := h.1 c
        refine wz_iconst C dL_acts_226 ?_
        exact wz_zret C (Or.inl rfl) dL_acts_227 ⟨_, rfl, (Or.inl rfl), h⟩
      · replace h := h.2 c
        refine wz_iconst C dL_acts_222 ?_
        refine wz_goto C dL_acts_223 (tgt := 227) (by decide) ?_
        exact wz_zret C (Or.inr rfl) dL_acts_227 ⟨_, rfl, (Or.inr rfl), h⟩
set_option maxHeartbeats 4000000 in
set_option maxRecDepth 100000 in
theorem bk_L_acts_228 (G : KG) (hGC : KokC G) (hG : Kok G) (hW : KWx G) {sL : Nat} {xs : Nat → Int} (hT : KScr G sL xs) (X : KX) (hX : KR X = rm_L_acts) (C : Fr G X cL_acts 12 yL_acts.cls (some .boolean) wsL_acts) (l3 : Int) (Q : Int → Ii → Jj → Prop)  (I : Ii) (J : Jj) (h : B_L_acts_228 sL xs l3 Q  I J) : Wz G X 12 (QsU G X (QsB Q)) 2 314 228 [some (.ref (kadr G 100)), some (.ref (kadr G 1000)), none, none, none, none, none, none, none, none, none, none] [] I J := by
  unfold B_L_acts_228 at h
  refine wz_aload_n C rfl rfl dL_acts_228 ?_
  refine wm_callV C (S := (I, J)) (o := 100) (As := []) (st := []) (a' := 2) (b' := 314) (shK_c hGC.2 rfl) rfl (k_X11_nextStep G hGC I J _ h) 0 gL_acts_X11_nextStep rfl (by decide +kernel) (by rw [hX]; exact ⟨Nat.le_of_ble_eq_true rfl, Nat.le_of_ble_eq_true rfl⟩) rfl (Nat.le_of_ble_eq_true rfl) (by show 0 + (2) = 2; omega) (by show 0 + (314) = 314; omega) rfl dL_acts_229 (kk_sI (fun v53 I53 J53 h => ?_))
  refine wz_aload_n C rfl rfl dL_acts_232 ?_
  refine wm_callV C (S := (I53, J53)) (o := 1000) (As := []) (st := [.int (iZ v53)]) (a' := 2) (b' := 314) (shK_w (by decide) rfl) rfl (k_X12_next G hG hW I53 J53 _ h) 0 gL_acts_X12_next rfl (by decide +kernel) (by rw [hX]; exact ⟨Nat.le_of_ble_eq_true rfl, Nat.le_of_ble_eq_true rfl⟩) rfl (Nat.le_of_ble_eq_true rfl) (by show 0 + (2) = 2; omega) (by show 0 + (314) = 314; omega) rfl dL_acts_233 (kk_sI (fun v54 I54 J54 h => ?_))
  obtain ⟨g55, h⟩ := h
  obtain ⟨g56, h⟩ := h
  refine wz_icmp_ne C (tgt := 254) g55 g56 dL_acts_236 (by decide) (fun c => ?_) (fun c => ?_)
  · replace h := h.1 c
    refine wz_iconst C dL_acts_254 ?_
    exact wz_zret C (Or.inl rfl) dL_acts_255 ⟨_, rfl, (Or.inl rfl), h⟩
  · replace h := h.2 c
    refine wz_aload_n C rfl rfl dL_acts_239 ?_
    refine wm_callV C (S := (I54, J54)) (o := 100) (As := []) (st := []) (a' := 2) (b' := 314) (shK_c hGC.2 rfl) rfl (k_X11_step G hGC I54 J54 _ h) 0 gL_acts_X11_step rfl (by decide +kernel) (by rw [hX]; exact ⟨Nat.le_of_ble_eq_true rfl, Nat.le_of_ble_eq_true rfl⟩) rfl (Nat.le_of_ble_eq_true rfl) (by show 0 + (2) = 2; omega) (by show 0 + (314) = 314; omega) rfl dL_acts_240 (kk_sI (fun v57 I57 J57 h => ?_))
    refine wz_aload_n C rfl rfl dL_acts_243 ?_
    refine wm_callV C (S := (I57, J57)) (o := 1000) (As := []) (st := [.int (iZ v57)]) (a' := 0) (b' := 0) (shK_w (by decide) rfl) rfl (k_X12_step G hG hW I57 J57 _ h) 0 gL_acts_X12_step rfl (by decide +kernel) (by rw [hX]; exact ⟨Nat.le_of_ble_eq_true rfl, Nat.le_of_ble_eq_true rfl⟩) rfl (Nat.le_of_ble_eq_true rfl) (by show 2 + (0) = 2; omega) (by show 314 + (0) = 314; omega) rfl dL_acts_244 (kk_sI (fun v58 I58 J58 h => ?_))
    obtain ⟨g59, h⟩ := h
    obtain ⟨g60, h⟩ := h
    refine wz_icmp_ne C (tgt := 254) g59 g60 dL_acts_247 (by decide) (fun c => ?_) (fun c => ?_)
    · replace h := h.1 c
      refine wz_iconst C dL_acts_254 ?_
      exact wz_zret C (Or.inl rfl) dL_acts_255 ⟨_, rfl, (Or.inl rfl), h⟩
    · replace h := h.2 c
      refine wz_iconst C dL_acts_250 ?_
      refine wz_goto C dL_acts_251 (tgt := 255) (by decide) ?_
      exact wz_zret C (Or.inr rfl) dL_acts_255 ⟨_, rfl, (Or.inr rfl), h⟩
set_option maxHeartbeats 4000000 in
set_option maxRecDepth 100000 in
theorem lk_L_acts_310 (G : KG) (hGC : KokC G) (hG : Kok G) (hW : KWx G) {sL : Nat} {xs : Nat → Int} (hT : KScr G sL xs) (X : KX) (hX : KR X = rm_L_acts) (C : Fr G X cL_acts 12 yL_acts.cls (some .boolean) wsL_acts) (l3 : Int) (Q : Int → Ii → Jj → Prop) : ∀ (n : Nat) (p7 : Nat) (l8 : Int) (l9 : Int) (I : Ii) (J : Jj), L_L_acts_310 sL xs l3 Q n p7 l8 l9 I J → Wz G X 12 (QsU G X (QsB Q)) (n * 2 + 0) (n * 314 + 0) 310 [some (.ref (kadr G 100)), some (.ref (kadr G 1000)), none, none, none, none, none, some (.ref (kadr G p7)), some (.int (iZ l8)), some (.int (iZ l9)), none, none] [] I J := by
  intro n
  induction n with
  | zero => intro p7 l8 l9 I J h; exact False.elim h
  | succ n w310 =>
    intro p7 l8 l9 I J h
    have h : Lb_L_acts_310 sL xs l3 Q (L_L_acts_310 sL xs l3 Q n) p7 l8 l9 I J := h
    unfold Lb_L_acts_310 at h
    generalize L_L_acts_310 sL xs l3 Q n = r310 at h w310
    refine Wz.less (a0 := n * 2 + 0 + 2) (b0 := n * 314 + 0 + 314) (by omega) (by omega) ?_
    have haH : 0 ≤ n * 2 + 0 ∧ 0 ≤ n * 314 + 0 := by omega
    generalize n * 2 + 0 = aH at w310 haH ⊢
    generalize n * 314 + 0 = bH at w310 haH ⊢
    refine wz_iload C rfl dL_acts_310 ?_
    refine wz_aload_n C rfl rfl dL_acts_312 ?_
    refine wm_callV C (S := (I, J)) (o := 1000) (As := []) (st := [.int (iZ l9)]) (a' := aH + 2) (b' := bH + 314) (shK_w (by decide) rfl) rfl (k_X12_groups G hG hW I J _ h) 0 gL_acts_X12_groups rfl (by decide +kernel) (by rw [hX]; exact ⟨Nat.le_of_ble_eq_true rfl, Nat.le_of_ble_eq_true rfl⟩) rfl (Nat.le_of_ble_eq_true rfl) (by show 0 + (aH + 2) = aH + 2; omega) (by show 0 + (bH + 314) = bH + 314; omega) rfl dL_acts_313 (kk_sI (fun v61 I61 J61 h => ?_))
    obtain ⟨g62, h⟩ := h
    obtain ⟨g63, h⟩ := h
    refine wz_icmp_ge C (tgt := 349) g62 g63 dL_acts_316 (by decide) (fun c => ?_) (fun c => ?_)
    · replace h := h.1 c
      refine wz_aload_n C rfl rfl dL_acts_349 ?_
      refine wm_callV C (S := (I61, J61)) (o := 100) (As := []) (st := []) (a' := aH + 2) (b' := bH + 314) (shK_c hGC.2 rfl) rfl (k_X11_placeBest G hGC I61 J61 _ h) 0 gL_acts_X11_placeBest rfl (by decide +kernel) (by rw [hX]; exact ⟨Nat.le_of_ble_eq_true rfl, Nat.le_of_ble_eq_true rfl⟩) rfl (Nat.le_of_ble_eq_true rfl) (by show 0 + (aH + 2) = aH + 2; omega) (by show 0 + (bH + 314) = bH + 314; omega) rfl dL_acts_350 (kk_sI (fun v64 I64 J64 h => ?_))
      refine wz_iload C rfl dL_acts_353 ?_
      obtain ⟨g65, h⟩ := h
      obtain ⟨g66, h⟩ := h
      refine wz_icmp_ne C (tgt := 362) g65 g66 dL_acts_355 (by decide) (fun c => ?_) (fun c => ?_)
      · replace h := h.1 c
        refine wz_iconst C dL_acts_362 ?_
        exact wz_zret C (Or.inl rfl) dL_acts_363 ⟨_, rfl, (Or.inl rfl), h⟩
      · replace h := h.2 c
        refine wz_iconst C dL_acts_358 ?_
        refine wz_goto C dL_acts_359 (tgt := 363) (by decide) ?_
        exact wz_zret C (Or.inr rfl) dL_acts_363 ⟨_, rfl, (Or.inr rfl), h⟩
    · replace h := h.2 c
      refine wz_iload C rfl dL_acts_319 ?_
      refine wz_aload_n C rfl rfl dL_acts_321 ?_
      refine wz_iload C rfl dL_acts_322 ?_
      refine wz_aload C rfl dL_acts_324 ?_
      refine wz_iload C rfl dL_acts_326 ?_
      obtain ⟨g67, h⟩ := h
      refine wy_iald C g67 dL_acts_328 ?_
      refine wm_callV C (S := (I61, J61)) (o := 1000) (As := [.int (iZ l9), .int (iZ (I61 p7 l9.toNat))]) (st := [.int (iZ l8)]) (a' := aH + 0) (b' := bH + 0) (shK_w (by decide) rfl) rfl (k_X12_comes G hG hW l9 (I61 p7 l9.toNat) I61 J61 _ h) 2 gL_acts_X12_comes rfl (by decide +kernel) (by rw [hX]; exact ⟨Nat.le_of_ble_eq_true rfl, Nat.le_of_ble_eq_true rfl⟩) rfl (Nat.le_of_ble_eq_true rfl) (by show 2 + (aH + 0) = aH + 2; omega) (by show 314 + (bH + 0) = bH + 314; omega) rfl dL_acts_329 (kk_sB (fun v68 I68 J68 hb68 h => ?_))
      refine wz_if_eq C (tgt := 339) (rgB hb68) dL_acts_332 (by decide) (fun c => ?_) (fun c => ?_)
      · replace h := h.1 c
        refine wz_iconst C dL_acts_339 ?_
        refine wz_iadd C dL_acts_340 ?_
        refine wz_istore_8 C rfl dL_acts_341 ?_
        refine wz_iinc_9 C rfl dL_acts_343 ?_
        refine wz_goto C dL_acts_346 (tgt := 310) (by decide) ?_
        exact Wz.less (a0 := aH) (b0 := bH) (by omega) (by omega) (w310 p7 (l8 + 0) (l9 + 1) I68 J68 h)
      · replace h := h.2 c
        refine wz_iconst C dL_acts_335 ?_
        refine wz_goto C dL_acts_336 (tgt := 340) (by decide) ?_
        refine wz_iadd C dL_acts_340 ?_
        refine wz_istore_8 C rfl dL_acts_341 ?_
        refine wz_iinc_9 C rfl dL_acts_343 ?_
        refine wz_goto C dL_acts_346 (tgt := 310) (by decide) ?_
        exact Wz.less (a0 := aH) (b0 := bH) (by omega) (by omega) (w310 p7 (l8 + 1) (l9 + 1) I68 J68 h)
set_option maxHeartbeats 4000000 in
set_option maxRecDepth 100000 in
theorem bk_L_acts_468 (G : KG) (hGC : KokC G) (hG : Kok G) (hW : KWx G) {sL : Nat} {xs : Nat → Int} (hT : KScr G sL xs) (X : KX) (hX : KR X = rm_L_acts) (C : Fr G X cL_acts 12 yL_acts.cls (some .boolean) wsL_acts) (aH bH : Nat) (haH : 0 ≤ aH ∧ 0 ≤ bH) (l3 : Int) (Q : Int → Ii → Jj → Prop) (r438 : Int → Int → Int → Int → Int → Ii → Jj → Prop) (w438 : ∀ (l7 : Int) (l8 : Int) (l9 : Int) (l10 : Int) (l11 : Int) (I : Ii) (J : Jj), r438 l7 l8 l9 l10 l11 I J → Wz G X 12 (QsU G X (QsB Q)) aH bH 438 [some (.ref (kadr G 100)), some (.ref (kadr G 1000)), none, none, none, none, none, some (.int (iZ l7)), some (.int (iZ l8)), some (.int (iZ l9)), some (.int (iZ l10)), some (.int (iZ l11))] [] I J) (l7 : Int) (l8 : Int) (l9 : Int) (l11 : Int) (t0 : Int) (t2 : Int) (t3 : Int) (I : Ii) (J : Jj) (h : B_L_acts_468 sL xs l3 Q r438 l7 l8 l9 l11 t0 t2 t3 I J) : Wz G X 12 (QsU G X (QsB Q)) (aH + 2) (bH + 314) 468 [some (.ref (kadr G 100)), some (.ref (kadr G 1000)), none, none, none, none, none, some (.int (iZ l7)), some (.int (iZ l8)), some (.int (iZ l9)), none, some (.int (iZ l11))] [.int (iZ t3), .int (iZ t2), .ref (kadr G 1000), .int (iZ t0)] I J := by
  unfold B_L_acts_468 at h
  refine wm_callV C (S := (I, J)) (o := 1000) (As := [.int (iZ t2), .int (iZ t3)]) (st := [.int (iZ t0)]) (a' := aH + 0) (b' := bH + 0) (shK_w (by decide) rfl) rfl (k_X12_comes G hG hW t2 t3 I J _ h) 2 gL_acts_X12_comes rfl (by decide +kernel) (by rw [hX]; exact ⟨Nat.le_of_ble_eq_true rfl, Nat.le_of_ble_eq_true rfl⟩) rfl (Nat.le_of_ble_eq_true rfl) (by show 2 + (aH + 0) = aH + 2; omega) (by show 314 + (bH + 0) = bH + 314; omega) rfl dL_acts_468 (kk_sB (fun v74 I74 J74 hb74 h => ?_))
  refine wz_if_eq C (tgt := 478) (rgB hb74) dL_acts_471 (by decide) (fun c => ?_) (fun c => ?_)
  · replace h := h.1 c
    refine wz_iconst C dL_acts_478 ?_
    refine wz_iadd C dL_acts_479 ?_
    refine wz_istore_10 C rfl dL_acts_480 ?_
    refine wz_iinc_11 C rfl dL_acts_482 ?_
    refine wz_goto C dL_acts_485 (tgt := 438) (by decide) ?_
    exact Wz.less (a0 := aH) (b0 := bH) (by omega) (by omega) (w438 l7 l8 l9 (t0 + 0) (l11 + 1) I74 J74 h)
  · replace h := h.2 c
    refine wz_iconst C dL_acts_474 ?_
    refine wz_goto C dL_acts_475 (tgt := 479) (by decide) ?_
    refine wz_iadd C dL_acts_479 ?_
    refine wz_istore_10 C rfl dL_acts_480 ?_
    refine wz_iinc_11 C rfl dL_acts_482 ?_
    refine wz_goto C dL_acts_485 (tgt := 438) (by decide) ?_
    exact Wz.less (a0 := aH) (b0 := bH) (by omega) (by omega) (w438 l7 l8 l9 (t0 + 1) (l11 + 1) I74 J74 h)
set_option maxHeartbeats 4000000 in
set_option maxRecDepth 100000 in
theorem lk_L_acts_438 (G : KG) (hGC : KokC G) (hG : Kok G) (hW : KWx G) {sL : Nat} {xs : Nat → Int} (hT : KScr G sL xs) (X : KX) (hX : KR X = rm_L_acts) (C : Fr G X cL_acts 12 yL_acts.cls (some .boolean) wsL_acts) (l3 : Int) (Q : Int → Ii → Jj → Prop) : ∀ (n : Nat) (l7 : Int) (l8 : Int) (l9 : Int) (l10 : Int) (l11 : Int) (I : Ii) (J : Jj), L_L_acts_438 sL xs l3 Q n l7 l8 l9 l10 l11 I J → Wz G X 12 (QsU G X (QsB Q)) (n * 2 + 0) (n * 314 + 0) 438 [some (.ref (kadr G 100)), some (.ref (kadr G 1000)), none, none, none, none, none, some (.int (iZ l7)), some (.int (iZ l8)), some (.int (iZ l9)), some (.int (iZ l10)), some (.int (iZ l11))] [] I J := by
  intro n
  induction n with
  | zero => intro l7 l8 l9 l10 l11 I J h; exact False.elim h
  | succ n w438 =>
    intro l7 l8 l9 l10 l11 I J h
    have h : Lb_L_acts_438 sL xs l3 Q (L_L_acts_438 sL xs l3 Q n) l7 l8 l9 l10 l11 I J := h
    unfold Lb_L_acts_438 at h
    generalize L_L_acts_438 sL xs l3 Q n = r438 at h w438
    refine Wz.less (a0 := n * 2 + 0 + 2) (b0 := n * 314 + 0 + 314) (by omega) (by omega) ?_
    have haH : 0 ≤ n * 2 + 0 ∧ 0 ≤ n * 314 + 0 := by omega
    generalize n * 2 + 0 = aH at w438 haH ⊢
    generalize n * 314 + 0 = bH at w438 haH ⊢
    refine wz_iload C rfl dL_acts_438 ?_
    refine wz_aload_n C rfl rfl dL_acts_440 ?_
    refine wz_getI C rfl f_L_acts_83 (sOw rfl (by decide)) dL_acts_441 ?_
    obtain ⟨g69, h⟩ := h
    obtain ⟨g70, h⟩ := h
    refine wz_icmp_ge C (tgt := 488) g69 g70 dL_acts_444 (by decide) (fun c => ?_) (fun c => ?_)
    · replace h := h.1 c
      refine wz_aload_n C rfl rfl dL_acts_488 ?_
      refine wz_iload C rfl dL_acts_489 ?_
      refine wz_iload C rfl dL_acts_491 ?_
      refine wm_callV C (S := (I, J)) (o := 100) (As := [.int (iZ l7), .int (iZ l8)]) (st := []) (a' := aH + 2) (b' := bH + 314) (shK_c hGC.2 rfl) rfl (k_X11_placeApart G hGC l7 l8 I J _ h) 2 gL_acts_X11_placeApart rfl (by decide +kernel) (by rw [hX]; exact ⟨Nat.le_of_ble_eq_true rfl, Nat.le_of_ble_eq_true rfl⟩) rfl (Nat.le_of_ble_eq_true rfl) (by show 0 + (aH + 2) = aH + 2; omega) (by show 0 + (bH + 314) = bH + 314; omega) rfl dL_acts_493 (kk_sI (fun v71 I71 J71 h => ?_))
      refine wz_iload C rfl dL_acts_496 ?_
      obtain ⟨g72, h⟩ := h
      obtain ⟨g73, h⟩ := h
      refine wz_icmp_ne C (tgt := 505) g72 g73 dL_acts_498 (by decide) (fun c => ?_) (fun c => ?_)
      · replace h := h.1 c
        refine wz_iconst C dL_acts_505 ?_
        exact wz_zret C (Or.inl rfl) dL_acts_506 ⟨_, rfl, (Or.inl rfl), h⟩
      · replace h := h.2 c
        refine wz_iconst C dL_acts_501 ?_
        refine wz_goto C dL_acts_502 (tgt := 506) (by decide) ?_
        exact wz_zret C (Or.inr rfl) dL_acts_506 ⟨_, rfl, (Or.inr rfl), h⟩
    · replace h := h.2 c
      refine wz_iload C rfl dL_acts_447 ?_
      refine wz_aload_n C rfl rfl dL_acts_449 ?_
      refine wz_iload C rfl dL_acts_450 ?_
      refine wz_iload C rfl dL_acts_452 ?_
      refine wz_iload C rfl dL_acts_454 ?_
      refine wd_ishr C dL_acts_456 ?_
      refine wz_iconst C dL_acts_457 ?_
      refine wd_iand C dL_acts_458 ?_
      refine wz_iconst C dL_acts_459 ?_
      refine wz_icmp_ne C (tgt := 467) (toInt_rg _) (by decide) dL_acts_460 (by decide) (fun c => ?_) (fun c => ?_)
      · replace h := h.1 c
        refine wz_iconst C dL_acts_467 ?_
        exact Wz.less (a0 := aH + 2) (b0 := bH + 314) (by omega) (by omega) (Wz.drop (bk_L_acts_468 G hGC hG hW hT X hX C aH bH haH l3 Q r438 w438 l7 l8 l9 l11 l10 l11 1 I J h) (And.intro rfl (And.intro rfl (And.intro rfl (And.intro rfl (And.intro rfl (And.intro rfl trivial)))))))
      · replace h := h.2 c
        refine wz_iconst C dL_acts_463 ?_
        refine wz_goto C dL_acts_464 (tgt := 468) (by decide) ?_
        exact Wz.less (a0 := aH + 2) (b0 := bH + 314) (by omega) (by omega) (Wz.drop (bk_L_acts_468 G hGC hG hW hT X hX C aH bH haH l3 Q r438 w438 l7 l8 l9 l11 l10 l11 0 I J h) (And.intro rfl (And.intro rfl (And.intro rfl (And.intro rfl (And.intro rfl (And.intro rfl trivial)))))))
set_option maxHeartbeats 4000000 in
set_option maxRecDepth 100000 in
theorem k_L_acts (G : KG) (hGC : KokC G) (hW : KWx G) {sL : Nat} {xs : Nat → Int} (hT : KScr G sL xs) (l3 : Int) (I : Ii) (J : Jj) (Q : Int → Ii → Jj → Prop) (h : wp_L_acts sL xs l3 I J Q) : Ctr G yL_acts wsL_acts rm_L_acts [.ref (kadr G 100), .ref (kadr G 1000), .ref (kadr G 998), .int (iZ l3)] (I, J) (QsB Q) := by
  unfold wp_L_acts at h
  have hG := hGC.1
  refine Ctr.ofZ (cc := cL_acts) (nL := 12) (ret := (some .boolean)) [some (.ref (kadr G 100)), some (.ref (kadr G 1000)), some (.ref (kadr G 998)), some (.int (iZ l3)), none, none, none, none, none, none, none, none] hG (by decide +kernel) rfl (Nat.le_of_ble_eq_true rfl) (Nat.le_of_ble_eq_true rfl) (by simp [lvA, lv_args, Value.category]) ?_
  intro X hX C
  refine (?_ : Wz G X 12 (QsU G X (QsB Q)) 160 5672 0 [some (.ref (kadr G 100)), some (.ref (kadr G 1000)), some (.ref (kadr G 998)), some (.int (iZ l3)), none, none, none, none, none, none, none, none] [] I J)
  refine wz_aload_n C rfl rfl dL_acts_0 ?_
  refine wz_sipush C (by decide) dL_acts_1 ?_
  refine wz_iload_n C rfl rfl dL_acts_4 ?_
  refine wz_iadd C dL_acts_5 ?_
  refine wz_sipush C (by decide) dL_acts_6 ?_
  refine wm_callSo C (As := [.ref (kadr G 998), .int (iZ ((340 : Int) + l3)), .int (iZ 4000)]) (st := []) (a' := 160) (b' := 5672) (k_L_pick G hG hW hT ((340 : Int) + l3) 4000 I J _ h) 3 (goodIn_wsS gL_acts_L_pick) (by decide +kernel) (by decide +kernel) (by decide +kernel) rfl (by decide +kernel) (by rw [hX]; exact ⟨Nat.le_of_ble_eq_true rfl, Nat.le_of_ble_eq_true rfl⟩) rfl (Nat.le_of_ble_eq_true rfl) (by show 0 + (160) = 160; omega) (by show 0 + (5672) = 5672; omega) rfl dL_acts_9 (kk_sI (fun v1 I1 J1 h => ?_))
  refine wz_istore_4 C rfl dL_acts_12 ?_
  refine wz_aload_n C rfl rfl dL_acts_14 ?_
  refine wz_sipush C (by decide) dL_acts_15 ?_
  refine wz_iload_n C rfl rfl dL_acts_18 ?_
  refine wz_iadd C dL_acts_19 ?_
  refine wz_aload_n C rfl rfl dL_acts_20 ?_
  refine wm_callV C (S := (I1, J1)) (o := 1000) (As := []) (st := [.int (iZ ((380 : Int) + l3)), .ref (kadr G 998)]) (a' := 160) (b' := 5672) (shK_w (by decide) rfl) rfl (k_X12_groups G hG hW I1 J1 _ h) 0 gL_acts_X12_groups rfl (by decide +kernel) (by rw [hX]; exact ⟨Nat.le_of_ble_eq_true rfl, Nat.le_of_ble_eq_true rfl⟩) rfl (Nat.le_of_ble_eq_true rfl) (by show 0 + (160) = 160; omega) (by show 0 + (5672) = 5672; omega) rfl dL_acts_21 (kk_sI (fun v2 I2 J2 h => ?_))
  refine wm_callSo C (As := [.ref (kadr G 998), .int (iZ ((380 : Int) + l3)), .int (iZ v2)]) (st := []) (a' := 160) (b' := 5672) (k_L_pick G hG hW hT ((380 : Int) + l3) v2 I2 J2 _ h) 3 (goodIn_wsS gL_acts_L_pick) (by decide +kernel) (by decide +kernel) (by decide +kernel) rfl (by decide +kernel) (by rw [hX]; exact ⟨Nat.le_of_ble_eq_true rfl, Nat.le_of_ble_eq_true rfl⟩) rfl (Nat.le_of_ble_eq_true rfl) (by show 0 + (160) = 160; omega) (by show 0 + (5672) = 5672; omega) rfl dL_acts_24 (kk_sI (fun v3 I3 J3 h => ?_))
  refine wz_istore_5 C rfl dL_acts_27 ?_
  refine wz_aload_n C rfl rfl dL_acts_29 ?_
  refine wz_sipush C (by decide) dL_acts_30 ?_
  refine wz_iload_n C rfl rfl dL_acts_33 ?_
  refine wz_iadd C dL_acts_34 ?_
  refine wz_aload_n C rfl rfl dL_acts_35 ?_
  refine wz_getI C rfl f_L_acts_101 (sOw rfl (by decide)) dL_acts_36 ?_
  refine wm_callSo C (As := [.ref (kadr G 998), .int (iZ ((420 : Int) + l3)), .int (iZ (I3 1000 1))]) (st := []) (a' := 160) (b' := 5672) (k_L_pick G hG hW hT ((420 : Int) + l3) (I3 1000 1) I3 J3 _ h) 3 (goodIn_wsS gL_acts_L_pick) (by decide +kernel) (by decide +kernel) (by decide +kernel) rfl (by decide +kernel) (by rw [hX]; exact ⟨Nat.le_of_ble_eq_true rfl, Nat.le_of_ble_eq_true rfl⟩) rfl (Nat.le_of_ble_eq_true rfl) (by show 0 + (160) = 160; omega) (by show 0 + (5672) = 5672; omega) rfl dL_acts_39 (kk_sI (fun v4 I4 J4 h => ?_))
  refine wz_istore_6 C rfl dL_acts_42 ?_
  refine wz_aload_n C rfl rfl dL_acts_44 ?_
  refine wz_sipush C (by decide) dL_acts_45 ?_
  refine wz_iload_n C rfl rfl dL_acts_48 ?_
  refine wz_iadd C dL_acts_49 ?_
  refine wz_bipush C (by decide) dL_acts_50 ?_
  refine wm_callSo C (As := [.ref (kadr G 998), .int (iZ ((300 : Int) + l3)), .int (iZ 12)]) (st := []) (a' := 160) (b' := 5672) (k_L_pick G hG hW hT ((300 : Int) + l3) 12 I4 J4 _ h) 3 (goodIn_wsS gL_acts_L_pick) (by decide +kernel) (by decide +kernel) (by decide +kernel) rfl (by decide +kernel) (by rw [hX]; exact ⟨Nat.le_of_ble_eq_true rfl, Nat.le_of_ble_eq_true rfl⟩) rfl (Nat.le_of_ble_eq_true rfl) (by show 0 + (160) = 160; omega) (by show 0 + (5672) = 5672; omega) rfl dL_acts_52 (kk_sI (fun v5 I5 J5 h => ?_))
  obtain ⟨g6, h⟩ := h
  have c : (v5 < 0 ∨ 9 < v5) ∨ v5 = 0 ∨ v5 = 1 ∨ v5 = 2 ∨ v5 = 3 ∨ v5 = 4 ∨ v5 = 5 ∨ v5 = 6 ∨ v5 = 7 ∨ v5 = 8 ∨ v5 = 9 := by omega
  rcases c with c | c | c | c | c | c | c | c | c | c | c
  · replace h := h.1 c
    refine wz_tableOut C (tgt := 507) g6 dL_acts_55 c (by decide) ?_
    refine wz_aload_n C rfl rfl dL_acts_507 ?_
    refine wz_getI C rfl f_L_acts_43 (sOw rfl (by decide)) dL_acts_508 ?_
    refine wz_istore_7 C rfl dL_acts_511 ?_
    refine wz_aload_n C rfl rfl dL_acts_513 ?_
    refine wz_iload C rfl dL_acts_514 ?_
    refine wz_bipush C (by decide) dL_acts_516 ?_
    obtain ⟨g7, h⟩ := h
    refine wd_irem C g7 dL_acts_518 ?_
    refine wd_putI C f_L_acts_43 fp_X12_3 (sOw rfl (by decide)) dL_acts_519 (fun I8 e => ?_)
    replace h := h I8 e
    refine wz_aload_n C rfl rfl dL_acts_522 ?_
    refine wz_iload C rfl dL_acts_523 ?_
    refine wz_bipush C (by decide) dL_acts_525 ?_
    obtain ⟨g9, h⟩ := h
    refine wd_irem C g9 dL_acts_527 ?_
    refine wm_callV C (S := (I8, J5)) (o := 100) (As := [.int (iZ (v1 % 40))]) (st := []) (a' := 160) (b' := 5672) (shK_c hGC.2 rfl) rfl (k_X11_setCredit G hGC (v1 % 40) I8 J5 _ h) 1 gL_acts_X11_setCredit rfl (by decide +kernel) (by rw [hX]; exact ⟨Nat.le_of_ble_eq_true rfl, Nat.le_of_ble_eq_true rfl⟩) rfl (Nat.le_of_ble_eq_true rfl) (by show 0 + (160) = 160; omega) (by show 0 + (5672) = 5672; omega) rfl dL_acts_528 (kk_sI (fun v10 I10 J10 h => ?_))
    refine wz_iload C rfl dL_acts_531 ?_
    obtain ⟨g11, h⟩ := h
    obtain ⟨g12, h⟩ := h
    refine wz_icmp_ne C (tgt := 540) g11 g12 dL_acts_533 (by decide) (fun c => ?_) (fun c => ?_)
    · replace h := h.1 c
      refine wz_iconst C dL_acts_540 ?_
      exact wz_zret C (Or.inl rfl) dL_acts_541 ⟨_, rfl, (Or.inl rfl), h⟩
    · replace h := h.2 c
      refine wz_iconst C dL_acts_536 ?_
      refine wz_goto C dL_acts_537 (tgt := 541) (by decide) ?_
      exact wz_zret C (Or.inr rfl) dL_acts_541 ⟨_, rfl, (Or.inr rfl), h⟩
  · replace h := h.2.1 c
    refine wz_tableIn C (v := 0) (tgt := 108) c dL_acts_55 (by decide) rfl (by decide) ?_
    exact Wz.less (a0 := 5) (b0 := 356) (by omega) (by omega) (Wz.drop (bk_L_acts_108 G hGC hG hW hT X hX C l3 Q I5 J5 h) (And.intro rfl (And.intro rfl trivial)))
  · replace h := h.2.2.1 c
    refine wz_tableIn C (v := 1) (tgt := 108) c dL_acts_55 (by decide) rfl (by decide) ?_
    exact Wz.less (a0 := 5) (b0 := 356) (by omega) (by omega) (Wz.drop (bk_L_acts_108 G hGC hG hW hT X hX C l3 Q I5 J5 h) (And.intro rfl (And.intro rfl trivial)))
  · replace h := h.2.2.2.1 c
    refine wz_tableIn C (v := 2) (tgt := 145) c dL_acts_55 (by decide) rfl (by decide) ?_
    refine wz_aload_n C rfl rfl dL_acts_145 ?_
    refine wz_getR C (j := 1020) f_L_acts_52 (sOw rfl (by decide)) (by decide) dL_acts_146 ?_
    refine wm_callF C (o := 1020) (As := []) (st := []) (a' := 160) (b' := 5672) (spAL (Or.inl rfl)) rfl hW.fsize (k_Jx4a65c_size_8abf5 G hG hW 1020 I5 J5 (Or.inl rfl) _ h) 0 gL_acts_Jx4a65c_size_8abf5_f56Jx4a65c rfl (by decide +kernel) (by rw [hX]; exact ⟨Nat.le_of_ble_eq_true rfl, Nat.le_of_ble_eq_true rfl⟩) rfl (Nat.le_of_ble_eq_true rfl) (by show 0 + (160) = 160; omega) (by show 0 + (5672) = 5672; omega) rfl dL_acts_149 (kk_sI (fun v13 I13 J13 h => ?_))
    refine wz_iconst C dL_acts_154 ?_
    obtain ⟨g14, h⟩ := h
    refine wz_icmp_eq C (tgt := 169) g14 (by decide) dL_acts_155 (by decide) (fun c => ?_) (fun c => ?_)
    · replace h := h.1 c
      refine wz_iconst C dL_acts_169 ?_
      refine wz_goto C dL_acts_170 (tgt := 174) (by decide) ?_
      exact wz_zret C (Or.inr rfl) dL_acts_174 ⟨_, rfl, (Or.inr rfl), h⟩
    · replace h := h.2 c
      refine wz_aload_n C rfl rfl dL_acts_158 ?_
      refine wm_callV C (S := (I13, J13)) (o := 100) (As := []) (st := []) (a' := 160) (b' := 5672) (shK_c hGC.2 rfl) rfl (k_X11_grow G hGC I13 J13 _ h) 0 gL_acts_X11_grow rfl (by decide +kernel) (by rw [hX]; exact ⟨Nat.le_of_ble_eq_true rfl, Nat.le_of_ble_eq_true rfl⟩) rfl (Nat.le_of_ble_eq_true rfl) (by show 0 + (160) = 160; omega) (by show 0 + (5672) = 5672; omega) rfl dL_acts_159 (kk_sI (fun v15 I15 J15 h => ?_))
      refine wz_aload_n C rfl rfl dL_acts_162 ?_
      refine wm_callV C (S := (I15, J15)) (o := 1000) (As := []) (st := [.int (iZ v15)]) (a' := 160) (b' := 5672) (shK_w (by decide) rfl) rfl (k_X12_grow G hG hW I15 J15 _ h) 0 gL_acts_X12_grow rfl (by decide +kernel) (by rw [hX]; exact ⟨Nat.le_of_ble_eq_true rfl, Nat.le_of_ble_eq_true rfl⟩) rfl (Nat.le_of_ble_eq_true rfl) (by show 0 + (160) = 160; omega) (by show 0 + (5672) = 5672; omega) rfl dL_acts_163 (kk_sI (fun v16 I16 J16 h => ?_))
      obtain ⟨g17, h⟩ := h
      obtain ⟨g18, h⟩ := h
      refine wz_icmp_ne C (tgt := 173) g17 g18 dL_acts_166 (by decide) (fun c => ?_) (fun c => ?_)
      · replace h := h.1 c
        refine wz_iconst C dL_acts_173 ?_
        exact wz_zret C (Or.inl rfl) dL_acts_174 ⟨_, rfl, (Or.inl rfl), h⟩
      · replace h := h.2 c
        refine wz_iconst C dL_acts_169 ?_
        refine wz_goto C dL_acts_170 (tgt := 174) (by decide) ?_
        exact wz_zret C (Or.inr rfl) dL_acts_174 ⟨_, rfl, (Or.inr rfl), h⟩
  · replace h := h.2.2.2.2.1 c
    refine wz_tableIn C (v := 3) (tgt := 175) c dL_acts_55 (by decide) rfl (by decide) ?_
    exact Wz.less (a0 := 2) (b0 := 314) (by omega) (by omega) (Wz.drop (bk_L_acts_175 G hGC hG hW hT X hX C l3 Q v3 v4 I5 J5 h) (And.intro rfl (And.intro rfl (And.intro rfl (And.intro rfl trivial)))))
  · replace h := h.2.2.2.2.2.1 c
    refine wz_tableIn C (v := 4) (tgt := 175) c dL_acts_55 (by decide) rfl (by decide) ?_
    exact Wz.less (a0 := 2) (b0 := 314) (by omega) (by omega) (Wz.drop (bk_L_acts_175 G hGC hG hW hT X hX C l3 Q v3 v4 I5 J5 h) (And.intro rfl (And.intro rfl (And.intro rfl (And.intro rfl trivial)))))
  · replace h := h.2.2.2.2.2.2.1 c
    refine wz_tableIn C (v := 5) (tgt := 228) c dL_acts_55 (by decide) rfl (by decide) ?_
    exact Wz.less (a0 := 2) (b0 := 314) (by omega) (by omega) (Wz.drop (bk_L_acts_228 G hGC hG hW hT X hX C l3 Q I5 J5 h) (And.intro rfl (And.intro rfl trivial)))
  · replace h := h.2.2.2.2.2.2.2.1 c
    refine wz_tableIn C (v := 6) (tgt := 228) c dL_acts_55 (by decide) rfl (by decide) ?_
    exact Wz.less (a0 := 2) (b0 := 314) (by omega) (by omega) (Wz.drop (bk_L_acts_228 G hGC hG hW hT X hX C l3 Q I5 J5 h) (And.intro rfl (And.intro rfl trivial)))
  · replace h := h.2.2.2.2.2.2.2.2.1 c
    refine wz_tableIn C (v := 7) (tgt := 256) c dL_acts_55 (by decide) rfl (by decide) ?_
    refine wz_aload_n C rfl rfl dL_acts_256 ?_
    refine wz_iconst C dL_acts_257 ?_
    refine wz_iload C rfl dL_acts_258 ?_
    refine wz_bipush C (by decide) dL_acts_260 ?_
    obtain ⟨g19, h⟩ := h
    refine wd_irem C g19 dL_acts_262 ?_
    refine wz_iadd C dL_acts_263 ?_
    refine wm_callV C (S := (I5, J5)) (o := 100) (As := [.int (iZ ((1 : Int) + (v1 % 9)))]) (st := []) (a' := 160) (b' := 5672) (shK_c hGC.2 rfl) rfl (k_X11_steps G hGC ((1 : Int) + (v1 % 9)) I5 J5 _ h) 1 gL_acts_X11_steps rfl (by decide +kernel) (by rw [hX]; exact ⟨Nat.le_of_ble_eq_true rfl, Nat.le_of_ble_eq_true rfl⟩) rfl (Nat.le_of_ble_eq_true rfl) (by show 0 + (160) = 160; omega) (by show 0 + (5672) = 5672; omega) rfl dL_acts_264 (kk_sI (fun v20 I20 J20 h => ?_))
    refine wz_aload_n C rfl rfl dL_acts_267 ?_
    refine wz_iconst C dL_acts_268 ?_
    refine wz_iload C rfl dL_acts_269 ?_
    refine wz_bipush C (by decide) dL_acts_271 ?_
    obtain ⟨g21, h⟩ := h
    refine wd_irem C g21 dL_acts_273 ?_
    refine wz_iadd C dL_acts_274 ?_
    refine wm_callV C (S := (I20, J20)) (o := 1000) (As := [.int (iZ ((1 : Int) + (v1 % 9)))]) (st := [.int (iZ v20)]) (a' := 138) (b' := 2218) (shK_w (by decide) rfl) rfl (k_X12_steps G hG hW ((1 : Int) + (v1 % 9)) I20 J20 _ h) 1 gL_acts_X12_steps rfl (by decide +kernel) (by rw [hX]; exact ⟨Nat.le_of_ble_eq_true rfl, Nat.le_of_ble_eq_true rfl⟩) rfl (Nat.le_of_ble_eq_true rfl) (by show 22 + (138) = 160; omega) (by show 3454 + (2218) = 5672; omega) rfl dL_acts_275 (kk_sI (fun v22 I22 J22 h => ?_))
    obtain ⟨g23, h⟩ := h
    obtain ⟨g24, h⟩ := h
    refine wz_icmp_ne C (tgt := 285) g23 g24 dL_acts_278 (by decide) (fun c => ?_) (fun c => ?_)
    · replace h := h.1 c
      refine wz_iconst C dL_acts_285 ?_
      exact wz_zret C (Or.inl rfl) dL_acts_286 ⟨_, rfl, (Or.inl rfl), h⟩
    · replace h := h.2 c
      refine wz_iconst C dL_acts_281 ?_
      refine wz_goto C dL_acts_282 (tgt := 286) (by decide) ?_
      exact wz_zret C (Or.inr rfl) dL_acts_286 ⟨_, rfl, (Or.inr rfl), h⟩
  · replace h := h.2.2.2.2.2.2.2.2.2.1 c
    refine wz_tableIn C (v := 8) (tgt := 287) c dL_acts_55 (by decide) rfl (by decide) ?_
    refine wz_aload_n C rfl rfl dL_acts_287 ?_
    refine wm_callV C (S := (I5, J5)) (o := 1000) (As := []) (st := []) (a' := 160) (b' := 5672) (shK_w (by decide) rfl) rfl (k_X12_groups G hG hW I5 J5 _ h) 0 gL_acts_X12_groups rfl (by decide +kernel) (by rw [hX]; exact ⟨Nat.le_of_ble_eq_true rfl, Nat.le_of_ble_eq_true rfl⟩) rfl (Nat.le_of_ble_eq_true rfl) (by show 0 + (160) = 160; omega) (by show 0 + (5672) = 5672; omega) rfl dL_acts_288 (kk_sI (fun v25 I25 J25 h => ?_))
    refine wz_bipush C (by decide) dL_acts_291 ?_
    obtain ⟨g26, h⟩ := h
    refine wz_icmp_le C (tgt := 298) g26 (by decide) dL_acts_293 (by decide) (fun c => ?_) (fun c => ?_)
    · replace h := h.1 c
      refine wz_aload_n C rfl rfl dL_acts_298 ?_
      refine wm_callV C (S := (I25, J25)) (o := 1000) (As := []) (st := []) (a' := 157) (b' := 5630) (shK_w (by decide) rfl) rfl (k_X12_best G hG hW I25 J25 _ h) 0 gL_acts_X12_best rfl (by decide +kernel) (by rw [hX]; exact ⟨Nat.le_of_ble_eq_true rfl, Nat.le_of_ble_eq_true rfl⟩) rfl (Nat.le_of_ble_eq_true rfl) (by show 3 + (157) = 160; omega) (by show 42 + (5630) = 5672; omega) rfl dL_acts_299 (kk_sK (fun v27 I27 J27 h => ?_))
      refine wz_astore_7 C rfl dL_acts_302 ?_
      refine wz_iconst C dL_acts_304 ?_
      refine wz_istore_8 C rfl dL_acts_305 ?_
      refine wz_iconst C dL_acts_307 ?_
      refine wz_istore_9 C rfl dL_acts_308 ?_
      obtain ⟨n, hn, h⟩ := h
      exact Wz.less (a0 := n * 2 + 0) (b0 := n * 314 + 0) (by omega) (by omega) (Wz.drop (lk_L_acts_310 G hGC hG hW hT X hX C l3 Q n v27 0 0 I27 J27 h) (And.intro rfl (And.intro rfl (And.intro rfl (And.intro rfl (And.intro rfl trivial))))))
    · replace h := h.2 c
      refine wz_iconst C dL_acts_296 ?_
      exact wz_zret C (Or.inr rfl) dL_acts_297 ⟨_, rfl, (Or.inr rfl), h⟩
  · replace h := h.2.2.2.2.2.2.2.2.2.2 c
    refine wz_tableIn C (v := 9) (tgt := 364) c dL_acts_55 (by decide) rfl (by decide) ?_
    refine wz_iload C rfl dL_acts_364 ?_
    refine wz_aload_n C rfl rfl dL_acts_366 ?_
    refine wz_getI C rfl f_L_acts_83 (sOw rfl (by decide)) dL_acts_367 ?_
    obtain ⟨g28, h⟩ := h
    refine wd_irem C g28 dL_acts_370 ?_
    refine wz_istore_7 C rfl dL_acts_371 ?_
    refine wz_iload C rfl dL_acts_373 ?_
    refine wz_iconst C dL_acts_375 ?_
    refine wz_iadd C dL_acts_376 ?_
    refine wz_iload C rfl dL_acts_377 ?_
    refine wz_bipush C (by decide) dL_acts_379 ?_
    obtain ⟨g29, h⟩ := h
    refine wd_idiv C g29 dL_acts_381 ?_
    refine wz_aload_n C rfl rfl dL_acts_382 ?_
    refine wz_getI C rfl f_L_acts_83 (sOw rfl (by decide)) dL_acts_383 ?_
    refine wz_iconst C dL_acts_386 ?_
    refine wz_isub C dL_acts_387 ?_
    obtain ⟨g30, h⟩ := h
    refine wd_irem C g30 dL_acts_388 ?_
    refine wz_iadd C dL_acts_389 ?_
    refine wz_aload_n C rfl rfl dL_acts_390 ?_
    refine wz_getI C rfl f_L_acts_83 (sOw rfl (by decide)) dL_acts_391 ?_
    obtain ⟨g31, h⟩ := h
    refine wd_irem C g31 dL_acts_394 ?_
    refine wz_istore_8 C rfl dL_acts_395 ?_
    refine wz_aload_n C rfl rfl dL_acts_397 ?_
    refine wz_getI C rfl f_L_acts_101 (sOw rfl (by decide)) dL_acts_398 ?_
    refine wz_iconst C dL_acts_401 ?_
    obtain ⟨g32, h⟩ := h
    refine wz_icmp_ne C (tgt := 418) g32 (by decide) dL_acts_402 (by decide) (fun c => ?_) (fun c => ?_)
    · replace h := h.1 c
      refine wz_iconst C dL_acts_418 ?_
      exact wz_zret C (Or.inr rfl) dL_acts_419 ⟨_, rfl, (Or.inr rfl), h⟩
    · replace h := h.2 c
      refine wz_aload_n C rfl rfl dL_acts_405 ?_
      refine wz_getR C (j := 1020) f_L_acts_52 (sOw rfl (by decide)) (by decide) dL_acts_406 ?_
      refine wm_callF C (o := 1020) (As := []) (st := []) (a' := 160) (b' := 5672) (spAL (Or.inl rfl)) rfl hW.fsize (k_Jx4a65c_size_8abf5 G hG hW 1020 I5 J5 (Or.inl rfl) _ h) 0 gL_acts_Jx4a65c_size_8abf5_f56Jx4a65c rfl (by decide +kernel) (by rw [hX]; exact ⟨Nat.le_of_ble_eq_true rfl, Nat.le_of_ble_eq_true rfl⟩) rfl (Nat.le_of_ble_eq_true rfl) (by show 0 + (160) = 160; omega) (by show 0 + (5672) = 5672; omega) rfl dL_acts_409 (kk_sI (fun v33 I33 J33 h => ?_))
      refine wz_iconst C dL_acts_414 ?_
      obtain ⟨g34, h⟩ := h
      refine wz_icmp_le C (tgt := 420) g34 (by decide) dL_acts_415 (by decide) (fun c => ?_) (fun c => ?_)
      · replace h := h.1 c
        refine wz_aload_n C rfl rfl dL_acts_420 ?_
        refine wz_iload C rfl dL_acts_421 ?_
        refine wz_iload C rfl dL_acts_423 ?_
        refine wm_callV C (S := (I33, J33)) (o := 1000) (As := [.int (iZ (v1 % (I5 1000 0))), .int (iZ ((((v1 % (I5 1000 0)) + 1) + ((v1 / 20) % ((I5 1000 0) - 1))) % (I5 1000 0)))]) (st := []) (a' := 24) (b' := 3768) (shK_w (by decide) rfl) rfl (k_X12_flow G hG hW (v1 % (I5 1000 0)) ((((v1 % (I5 1000 0)) + 1) + ((v1 / 20) % ((I5 1000 0) - 1))) % (I5 1000 0)) I33 J33 _ h) 2 gL_acts_X12_flow rfl (by decide +kernel) (by rw [hX]; exact ⟨Nat.le_of_ble_eq_true rfl, Nat.le_of_ble_eq_true rfl⟩) rfl (Nat.le_of_ble_eq_true rfl) (by show 136 + (24) = 160; omega) (by show 1904 + (3768) = 5672; omega) rfl dL_acts_425 (kk_sK (fun v35 I35 J35 h => ?_))
        refine wz_iconst C dL_acts_428 ?_
        obtain ⟨g36, h⟩ := h
        refine wy_iald C g36 dL_acts_429 ?_
        refine wz_istore_9 C rfl dL_acts_430 ?_
        refine wz_iconst C dL_acts_432 ?_
        refine wz_istore_10 C rfl dL_acts_433 ?_
        refine wz_iconst C dL_acts_435 ?_
        refine wz_istore_11 C rfl dL_acts_436 ?_
        obtain ⟨n, hn, h⟩ := h
        exact Wz.less (a0 := n * 2 + 0) (b0 := n * 314 + 0) (by omega) (by omega) (Wz.drop (lk_L_acts_438 G hGC hG hW hT X hX C l3 Q n (v1 % (I5 1000 0)) ((((v1 % (I5 1000 0)) + 1) + ((v1 / 20) % ((I5 1000 0) - 1))) % (I5 1000 0)) (I35 v35 ((1 : Int).toNat)) 0 0 I35 J35 h) (And.intro rfl (And.intro rfl (And.intro rfl (And.intro rfl (And.intro rfl (And.intro rfl (And.intro rfl trivial))))))))
      · replace h := h.2 c
        refine wz_iconst C dL_acts_418 ?_
        exact wz_zret C (Or.inr rfl) dL_acts_419 ⟨_, rfl, (Or.inr rfl), h⟩
