set_option maxHeartbeats 4000000 in
set_option maxRecDepth 100000 in
theorem fb_X4_greatestGain_122 {l1 : Int} {P Q : Int → Ii → Jj → Prop} {I : Ii} {J : Jj} (hq : ∀ (v : Int), P v I J → Q v I J) {r10 q10 : Int → Int → Int → Int → Ii → Jj → Prop} (hr10 : ∀ (l2 : Int) (l3 : Int) (l4 : Int) (l5 : Int), r10 l2 l3 l4 l5 I J → q10 l2 l3 l4 l5 I J) {r22 q22 : Int → Int → Int → Int → Int → Ii → Jj → Prop} (hr22 : ∀ (l2 : Int) (l3 : Int) (l4 : Int) (l5 : Int) (l6 : Int), r22 l2 l3 l4 l5 l6 I J → q22 l2 l3 l4 l5 l6 I J) {l2 : Int} {l3 : Int} {l4 : Int} {l5 : Int} {l6 : Int} {l7 : Int} {l8 : Int} {l9 : Int} {t0 : Int} (h : B_X4_greatestGain_122 l1 P r10 r22 l2 l3 l4 l5 l6 l7 l8 l9 t0 I J) : B_X4_greatestGain_122 l1 Q q10 q22 l2 l3 l4 l5 l6 l7 l8 l9 t0 I J := by
  unfold B_X4_greatestGain_122 at h ⊢
  obtain ⟨g, h⟩ := h
  refine ⟨g, ?_⟩
  refine ⟨fun c => ?_, fun c => ?_⟩
  · replace h := h.1 c
    exact hr22 _ _ _ _ _ h
  · replace h := h.2 c
    obtain ⟨g, h⟩ := h
    refine ⟨g, ?_⟩
    refine ⟨fun c => ?_, fun c => ?_⟩
    · replace h := h.1 c
      exact hr22 _ _ _ _ _ h
    · replace h := h.2 c
      exact hr22 _ _ _ _ _ h
set_option maxHeartbeats 4000000 in
set_option maxRecDepth 100000 in
theorem fb_X4_greatestGain_91 {l1 : Int} {P Q : Int → Ii → Jj → Prop} {I : Ii} {J : Jj} (hq : ∀ (v : Int), P v I J → Q v I J) {r10 q10 : Int → Int → Int → Int → Ii → Jj → Prop} (hr10 : ∀ (l2 : Int) (l3 : Int) (l4 : Int) (l5 : Int), r10 l2 l3 l4 l5 I J → q10 l2 l3 l4 l5 I J) {r22 q22 : Int → Int → Int → Int → Int → Ii → Jj → Prop} (hr22 : ∀ (l2 : Int) (l3 : Int) (l4 : Int) (l5 : Int) (l6 : Int), r22 l2 l3 l4 l5 l6 I J → q22 l2 l3 l4 l5 l6 I J) {l2 : Int} {l3 : Int} {l4 : Int} {l5 : Int} {l6 : Int} {l7 : Int} {l8 : Int} {t0 : Int} (h : B_X4_greatestGain_91 l1 P r10 r22 l2 l3 l4 l5 l6 l7 l8 t0 I J) : B_X4_greatestGain_91 l1 Q q10 q22 l2 l3 l4 l5 l6 l7 l8 t0 I J := by
  unfold B_X4_greatestGain_91 at h ⊢
  obtain ⟨g, h⟩ := h
  refine ⟨g, ?_⟩
  refine ⟨fun c => ?_, fun c => ?_⟩
  · replace h := h.1 c
    exact fb_X4_greatestGain_122 hq hr10 hr22 h
  · replace h := h.2 c
    obtain ⟨g, h⟩ := h
    refine ⟨g, ?_⟩
    obtain ⟨g, h⟩ := h
    refine ⟨g, ?_⟩
    refine ⟨fun c => ?_, fun c => ?_⟩
    · replace h := h.1 c
      exact fb_X4_greatestGain_122 hq hr10 hr22 h
    · replace h := h.2 c
      refine ⟨fun c => ?_, fun c => ?_⟩
      · replace h := h.1 c
        exact fb_X4_greatestGain_122 hq hr10 hr22 h
      · replace h := h.2 c
        obtain ⟨g, h⟩ := h
        refine ⟨g, ?_⟩
        obtain ⟨g, h⟩ := h
        refine ⟨g, ?_⟩
        refine ⟨fun c => ?_, fun c => ?_⟩
        · replace h := h.1 c
          exact fb_X4_greatestGain_122 hq hr10 hr22 h
        · replace h := h.2 c
          exact fb_X4_greatestGain_122 hq hr10 hr22 h
theorem ls_X4_greatestGain_22 {l1 : Int} {Q : Int → Ii → Jj → Prop} {r10 : Int → Int → Int → Int → Ii → Jj → Prop} {n : Nat} {l2 : Int} {l3 : Int} {l4 : Int} {l5 : Int} {l6 : Int} {I : Ii} {J : Jj} (h : Lb_X4_greatestGain_22 l1 Q r10 (L_X4_greatestGain_22 l1 Q r10 n) l2 l3 l4 l5 l6 I J) : L_X4_greatestGain_22 l1 Q r10 (n + 1) l2 l3 l4 l5 l6 I J := h
set_option maxHeartbeats 4000000 in
set_option maxRecDepth 100000 in
theorem fl_X4_greatestGain_22 {l1 : Int} {P Q : Int → Ii → Jj → Prop} {I : Ii} {J : Jj} (hq : ∀ (v : Int), P v I J → Q v I J) {r10 q10 : Int → Int → Int → Int → Ii → Jj → Prop} (hr10 : ∀ (l2 : Int) (l3 : Int) (l4 : Int) (l5 : Int), r10 l2 l3 l4 l5 I J → q10 l2 l3 l4 l5 I J) : ∀ (n : Nat) (l2 : Int) (l3 : Int) (l4 : Int) (l5 : Int) (l6 : Int), L_X4_greatestGain_22 l1 P r10 n l2 l3 l4 l5 l6 I J → L_X4_greatestGain_22 l1 Q q10 n l2 l3 l4 l5 l6 I J := by
  intro n
  induction n with
  | zero => intro l2 l3 l4 l5 l6 h; exact h
  | succ n ih =>
    intro l2 l3 l4 l5 l6 h
    have h : Lb_X4_greatestGain_22 l1 P r10 (L_X4_greatestGain_22 l1 P r10 n) l2 l3 l4 l5 l6 I J := h
    show Lb_X4_greatestGain_22 l1 Q q10 (L_X4_greatestGain_22 l1 Q q10 n) l2 l3 l4 l5 l6 I J
    have hr22 := ih
    clear ih
    unfold Lb_X4_greatestGain_22 at h ⊢
    obtain ⟨g, h⟩ := h
    refine ⟨g, ?_⟩
    obtain ⟨g, h⟩ := h
    refine ⟨g, ?_⟩
    refine ⟨fun c => ?_, fun c => ?_⟩
    · replace h := h.1 c
      exact hr10 _ _ _ _ h
    · replace h := h.2 c
      refine fr_X4_gainOf h (fun v h => ?_)
      refine fr_X4_debtsWith h (fun v h => ?_)
      obtain ⟨g, h⟩ := h
      refine ⟨g, ?_⟩
      refine ⟨fun c => ?_, fun c => ?_⟩
      · replace h := h.1 c
        obtain ⟨g, h⟩ := h
        refine ⟨g, ?_⟩
        refine ⟨fun c => ?_, fun c => ?_⟩
        · replace h := h.1 c
          exact fb_X4_greatestGain_91 hq hr10 hr22 h
        · replace h := h.2 c
          refine fr_X4_isTooMuch h (fun v h => ?_)
          refine ⟨fun c => ?_, fun c => ?_⟩
          · replace h := h.1 c
            exact fb_X4_greatestGain_91 hq hr10 hr22 h
          · replace h := h.2 c
            exact fb_X4_greatestGain_91 hq hr10 hr22 h
      · replace h := h.2 c
        obtain ⟨g, h⟩ := h
        refine ⟨g, ?_⟩
        obtain ⟨g, h⟩ := h
        refine ⟨g, ?_⟩
        refine ⟨fun c => ?_, fun c => ?_⟩
        · replace h := h.1 c
          exact fb_X4_greatestGain_91 hq hr10 hr22 h
        · replace h := h.2 c
          exact fb_X4_greatestGain_91 hq hr10 hr22 h
theorem ls_X4_greatestGain_10 {l1 : Int} {Q : Int → Ii → Jj → Prop} {n : Nat} {l2 : Int} {l3 : Int} {l4 : Int} {l5 : Int} {I : Ii} {J : Jj} (h : Lb_X4_greatestGain_10 l1 Q (L_X4_greatestGain_10 l1 Q n) l2 l3 l4 l5 I J) : L_X4_greatestGain_10 l1 Q (n + 1) l2 l3 l4 l5 I J := h
set_option maxHeartbeats 4000000 in
set_option maxRecDepth 100000 in
theorem fl_X4_greatestGain_10 {l1 : Int} {P Q : Int → Ii → Jj → Prop} {I : Ii} {J : Jj} (hq : ∀ (v : Int), P v I J → Q v I J) : ∀ (n : Nat) (l2 : Int) (l3 : Int) (l4 : Int) (l5 : Int), L_X4_greatestGain_10 l1 P n l2 l3 l4 l5 I J → L_X4_greatestGain_10 l1 Q n l2 l3 l4 l5 I J := by
  intro n
  induction n with
  | zero => intro l2 l3 l4 l5 h; exact h
  | succ n ih =>
    intro l2 l3 l4 l5 h
    have h : Lb_X4_greatestGain_10 l1 P (L_X4_greatestGain_10 l1 P n) l2 l3 l4 l5 I J := h
    show Lb_X4_greatestGain_10 l1 Q (L_X4_greatestGain_10 l1 Q n) l2 l3 l4 l5 I J
    have hr10 := ih
    clear ih
    unfold Lb_X4_greatestGain_10 at h ⊢
    obtain ⟨g, h⟩ := h
    refine ⟨g, ?_⟩
    obtain ⟨g, h⟩ := h
    refine ⟨g, ?_⟩
    refine ⟨fun c => ?_, fun c => ?_⟩
    · replace h := h.1 c
      exact hq _ h
    · replace h := h.2 c
      obtain ⟨n, h⟩ := h
      exact ⟨n, fl_X4_greatestGain_22 hq hr10 n _ _ _ _ _ h⟩
set_option maxHeartbeats 4000000 in
set_option maxRecDepth 100000 in
theorem fr_X4_greatestGain {l1 : Int} {P Q : Int → Ii → Jj → Prop} {I : Ii} {J : Jj} (h : wp_X4_greatestGain l1 I J P) (hq : ∀ (v : Int), P v I J → Q v I J) : wp_X4_greatestGain l1 I J Q := by
  unfold wp_X4_greatestGain at h ⊢
  obtain ⟨n, h⟩ := h
  exact ⟨n, fl_X4_greatestGain_10 hq n _ _ _ _ h⟩
def W_X5_join (k1 : Nat) (k2 : Nat) : Nat → Nat → Prop := WL [(121, 1000)]
theorem W_X5_join_n {k1 : Nat} {k2 : Nat} {k : Nat} (h : wlk [(121, 1000)] k = false := by rfl) : ∀ i, ¬ W_X5_join k1 k2 k i := WL_n h
theorem ls_X5_join_16 {k1 : Nat} {k2 : Nat} {Q : Ii → Jj → Prop} {n : Nat} {l3 : Int} {l4 : Int} {I : Ii} {J : Jj} (h : Lb_X5_join_16 k1 k2 Q (L_X5_join_16 k1 k2 Q n) l3 l4 I J) : L_X5_join_16 k1 k2 Q (n + 1) l3 l4 I J := h
set_option maxHeartbeats 4000000 in
set_option maxRecDepth 100000 in
theorem fl_X5_join_16 {k1 : Nat} {k2 : Nat} {P Q : Ii → Jj → Prop} {I0 : Ii} {J0 : Jj} (hq : ∀ (I' : Ii) (J' : Jj), P I' J' → Same (W_X5_join k1 k2) I0 J0 I' J' → Q I' J') : ∀ (n : Nat) (l3 : Int) (l4 : Int) (I : Ii) (J : Jj), L_X5_join_16 k1 k2 P n l3 l4 I J → Same (W_X5_join k1 k2) I0 J0 I J → L_X5_join_16 k1 k2 Q n l3 l4 I J := by
  intro n
  induction n with
  | zero => intro l3 l4 I J h _; exact h
  | succ n ih =>
    intro l3 l4 I J h hs
    have h : Lb_X5_join_16 k1 k2 P (L_X5_join_16 k1 k2 P n) l3 l4 I J := h
    show Lb_X5_join_16 k1 k2 Q (L_X5_join_16 k1 k2 Q n) l3 l4 I J
    have hr16 := ih
    clear ih
    unfold Lb_X5_join_16 at h ⊢
    obtain ⟨g, h⟩ := h
    refine ⟨g, ?_⟩
    obtain ⟨g, h⟩ := h
    refine ⟨g, ?_⟩
    refine ⟨fun c => ?_, fun c => ?_⟩
    · replace h := h.1 c
      exact hq _ _ h hs
    · replace h := h.2 c
      refine fr_X11_at h (fun v h => ?_)
      refine fr_X11_at h (fun v h => ?_)
      refine fr_X11_at h (fun v h => ?_)
      refine fr_X11_at h (fun v h => ?_)
      refine fr_X11_at h (fun v h => ?_)
      refine fr_X11_add h (fun I2 J2 h hs2 => ?_)
      replace hs := hs.trans hs2 (by first | exact WL_sub rfl | exact WL_any (by simp [wls, wl, WL]))
      refine fr_X11_at h (fun v h => ?_)
      refine fr_X11_add h (fun I2 J2 h hs2 => ?_)
      replace hs := hs.trans hs2 (by first | exact WL_sub rfl | exact WL_any (by simp [wls, wl, WL]))
      exact hr16 _ _ _ _ h hs
set_option maxHeartbeats 4000000 in
set_option maxRecDepth 100000 in
theorem fr_X5_join {k1 : Nat} {k2 : Nat} {P Q : Ii → Jj → Prop} {I0 : Ii} {J0 : Jj} (h : wp_X5_join k1 k2 I0 J0 P) (hq : ∀ (I' : Ii) (J' : Jj), P I' J' → Same (W_X5_join k1 k2) I0 J0 I' J' → Q I' J') : wp_X5_join k1 k2 I0 J0 Q := by
  have hs := Same.rf (W := (W_X5_join k1 k2)) I0 J0
  unfold wp_X5_join at h ⊢
  obtain ⟨g, h⟩ := h
  refine ⟨g, ?_⟩
  obtain ⟨g, h⟩ := h
  refine ⟨g, ?_⟩
  refine fr_J7_fill_53178 h (fun I2 J2 h hs2 => ?_)
  replace hs := hs.trans hs2 (by first | exact WL_sub rfl | exact WL_any (by simp [wls, wl, WL]))
  refine fr_X8_groupRow h (fun v h => ?_)
  obtain ⟨n, h⟩ := h
  exact ⟨n, fl_X5_join_16 hq n _ _ _ _ h hs⟩
theorem ls_X5_mateBehind_10 {l1 : Int} {Q : Int → Ii → Jj → Prop} {n : Nat} {l3 : Int} {l4 : Int} {l5 : Int} {I : Ii} {J : Jj} (h : Lb_X5_mateBehind_10 l1 Q (L_X5_mateBehind_10 l1 Q n) l3 l4 l5 I J) : L_X5_mateBehind_10 l1 Q (n + 1) l3 l4 l5 I J := h
set_option maxHeartbeats 4000000 in
set_option maxRecDepth 100000 in
theorem fl_X5_mateBehind_10 {l1 : Int} {P Q : Int → Ii → Jj → Prop} {I : Ii} {J : Jj} (hq : ∀ (v : Int), P v I J → Q v I J) : ∀ (n : Nat) (l3 : Int) (l4 : Int) (l5 : Int), L_X5_mateBehind_10 l1 P n l3 l4 l5 I J → L_X5_mateBehind_10 l1 Q n l3 l4 l5 I J := by
  intro n
  induction n with
  | zero => intro l3 l4 l5 h; exact h
  | succ n ih =>
    intro l3 l4 l5 h
    have h : Lb_X5_mateBehind_10 l1 P (L_X5_mateBehind_10 l1 P n) l3 l4 l5 I J := h
    show Lb_X5_mateBehind_10 l1 Q (L_X5_mateBehind_10 l1 Q n) l3 l4 l5 I J
    have hr10 := ih
    clear ih
    unfold Lb_X5_mateBehind_10 at h ⊢
    obtain ⟨g, h⟩ := h
    refine ⟨g, ?_⟩
    obtain ⟨g, h⟩ := h
    refine ⟨g, ?_⟩
    refine ⟨fun c => ?_, fun c => ?_⟩
    · replace h := h.1 c
      exact hq _ h
    · replace h := h.2 c
      refine fr_X11_at h (fun v h => ?_)
      refine fr_X11_at h (fun v h => ?_)
      refine fr_X11_at h (fun v h => ?_)
      obtain ⟨g, h⟩ := h
      refine ⟨g, ?_⟩
      refine ⟨fun c => ?_, fun c => ?_⟩
      · replace h := h.1 c
        exact hr10 _ _ _ h
      · replace h := h.2 c
        refine fr_X11_at h (fun v h => ?_)
        refine fr_X11_at h (fun v h => ?_)
        obtain ⟨g, h⟩ := h
        refine ⟨g, ?_⟩
        obtain ⟨g, h⟩ := h
        refine ⟨g, ?_⟩
        refine ⟨fun c => ?_, fun c => ?_⟩
        · replace h := h.1 c
          exact hr10 _ _ _ h
        · replace h := h.2 c
          obtain ⟨g, h⟩ := h
          refine ⟨g, ?_⟩
          obtain ⟨g, h⟩ := h
          refine ⟨g, ?_⟩
          refine ⟨fun c => ?_, fun c => ?_⟩
          · replace h := h.1 c
            exact hr10 _ _ _ h
          · replace h := h.2 c
            refine fr_X11_at h (fun v h => ?_)
            obtain ⟨g, h⟩ := h
            refine ⟨g, ?_⟩
            obtain ⟨g, h⟩ := h
            refine ⟨g, ?_⟩
            refine ⟨fun c => ?_, fun c => ?_⟩
            · replace h := h.1 c
              exact hr10 _ _ _ h
            · replace h := h.2 c
              refine fr_X11_at h (fun v h => ?_)
              exact hr10 _ _ _ h
set_option maxHeartbeats 4000000 in
set_option maxRecDepth 100000 in
theorem fr_X5_mateBehind {l1 : Int} {P Q : Int → Ii → Jj → Prop} {I : Ii} {J : Jj} (h : wp_X5_mateBehind l1 I J P) (hq : ∀ (v : Int), P v I J → Q v I J) : wp_X5_mateBehind l1 I J Q := by
  unfold wp_X5_mateBehind at h ⊢
  obtain ⟨n, h⟩ := h
  exact ⟨n, fl_X5_mateBehind_10 hq n _ _ _ h⟩
def W_X5_numberMerged : Nat → Nat → Prop := WL [(120, 3), (123, 1000)]
theorem W_X5_numberMerged_n {k : Nat} (h : wlk [(120, 3), (123, 1000)] k = false := by rfl) : ∀ i, ¬ W_X5_numberMerged k i := WL_n h
set_option maxHeartbeats 4000000 in
set_option maxRecDepth 100000 in
theorem fb_X5_numberMerged_53 {P Q : Ii → Jj → Prop} {I0 : Ii} {J0 : Jj} (hq : ∀ (I' : Ii) (J' : Jj), P I' J' → Same (W_X5_numberMerged) I0 J0 I' J' → Q I' J') {r7 q7 : Int → Ii → Jj → Prop} (hr7 : ∀ (l2 : Int) (I' : Ii) (J' : Jj), r7 l2 I' J' → Same (W_X5_numberMerged) I0 J0 I' J' → q7 l2 I' J') {l2 : Int} {I : Ii} {J : Jj} (h : B_X5_numberMerged_53 P r7 l2 I J) (hs : Same (W_X5_numberMerged) I0 J0 I J) : B_X5_numberMerged_53 Q q7 l2 I J := by
  unfold B_X5_numberMerged_53 at h ⊢
  refine fr_X11_put h (fun I2 J2 h hs2 => ?_)
  replace hs := hs.trans hs2 (WL_sub rfl)
  intro I1 e1
  replace h := h I1 e1
  replace hs := hs.upI e1 rfl
  exact hr7 _ _ _ h hs
theorem ls_X5_numberMerged_7 {Q : Ii → Jj → Prop} {n : Nat} {l2 : Int} {I : Ii} {J : Jj} (h : Lb_X5_numberMerged_7 Q (L_X5_numberMerged_7 Q n) l2 I J) : L_X5_numberMerged_7 Q (n + 1) l2 I J := h
set_option maxHeartbeats 4000000 in
set_option maxRecDepth 100000 in
theorem fl_X5_numberMerged_7 {P Q : Ii → Jj → Prop} {I0 : Ii} {J0 : Jj} (hq : ∀ (I' : Ii) (J' : Jj), P I' J' → Same (W_X5_numberMerged) I0 J0 I' J' → Q I' J') : ∀ (n : Nat) (l2 : Int) (I : Ii) (J : Jj), L_X5_numberMerged_7 P n l2 I J → Same (W_X5_numberMerged) I0 J0 I J → L_X5_numberMerged_7 Q n l2 I J := by
  intro n
  induction n with
  | zero => intro l2 I J h _; exact h
  | succ n ih =>
    intro l2 I J h hs
    have h : Lb_X5_numberMerged_7 P (L_X5_numberMerged_7 P n) l2 I J := h
    show Lb_X5_numberMerged_7 Q (L_X5_numberMerged_7 Q n) l2 I J
    have hr7 := ih
    clear ih
    unfold Lb_X5_numberMerged_7 at h ⊢
    obtain ⟨g, h⟩ := h
    refine ⟨g, ?_⟩
    obtain ⟨g, h⟩ := h
    refine ⟨g, ?_⟩
    refine ⟨fun c => ?_, fun c => ?_⟩
    · replace h := h.1 c
      exact hq _ _ h hs
    · replace h := h.2 c
      refine fr_X11_at h (fun v h => ?_)
      obtain ⟨g, h⟩ := h
      refine ⟨g, ?_⟩
      refine ⟨fun c => ?_, fun c => ?_⟩
      · replace h := h.1 c
        exact fb_X5_numberMerged_53 hq hr7 h hs
      · replace h := h.2 c
        obtain ⟨g, h⟩ := h
        refine ⟨g, ?_⟩
        refine ⟨fun c => ?_, fun c => ?_⟩
        · replace h := h.1 c
          exact fb_X5_numberMerged_53 hq hr7 h hs
        · replace h := h.2 c
          refine fr_X11_at h (fun v h => ?_)
          refine fr_X11_put h (fun I2 J2 h hs2 => ?_)
          replace hs := hs.trans hs2 (WL_sub rfl)
          exact hr7 _ _ _ h hs
set_option maxHeartbeats 4000000 in
set_option maxRecDepth 100000 in
theorem fr_X5_numberMerged {P Q : Ii → Jj → Prop} {I0 : Ii} {J0 : Jj} (h : wp_X5_numberMerged I0 J0 P) (hq : ∀ (I' : Ii) (J' : Jj), P I' J' → Same (W_X5_numberMerged) I0 J0 I' J' → Q I' J') : wp_X5_numberMerged I0 J0 Q := by
  have hs := Same.rf (W := (W_X5_numberMerged)) I0 J0
  unfold wp_X5_numberMerged at h ⊢
  intro I1 e1
  replace h := h I1 e1
  replace hs := hs.upI e1 rfl
  obtain ⟨n, h⟩ := h
  exact ⟨n, fl_X5_numberMerged_7 hq n _ _ _ h hs⟩
def W_X6_append : Nat → Nat → Prop := WL [(106, 4), (107, 1000), (108, 1000), (109, 1000)]
theorem W_X6_append_n {k : Nat} (h : wlk [(106, 4), (107, 1000), (108, 1000), (109, 1000)] k = false := by rfl) : ∀ i, ¬ W_X6_append k i := WL_n h
set_option maxHeartbeats 4000000 in
set_option maxRecDepth 100000 in
theorem fr_X6_append {l1 : Int} {l2 : Int} {l3 : Int} {P Q : Ii → Jj → Prop} {I0 : Ii} {J0 : Jj} (h : wp_X6_append l1 l2 l3 I0 J0 P) (hq : ∀ (I' : Ii) (J' : Jj), P I' J' → Same (W_X6_append) I0 J0 I' J' → Q I' J') : wp_X6_append l1 l2 l3 I0 J0 Q := by
  have hs := Same.rf (W := (W_X6_append)) I0 J0
  unfold wp_X6_append at h ⊢
  refine fr_X11_put h (fun I2 J2 h hs2 => ?_)
  replace hs := hs.trans hs2 (WL_sub rfl)
  refine fr_X11_put h (fun I2 J2 h hs2 => ?_)
  replace hs := hs.trans hs2 (WL_sub rfl)
  refine fr_X11_put h (fun I2 J2 h hs2 => ?_)
  replace hs := hs.trans hs2 (WL_sub rfl)
  intro I1 e1
  replace h := h I1 e1
  replace hs := hs.upI e1 rfl
  exact hq _ _ h hs
def W_X6_beginRepeat : Nat → Nat → Prop := WL [(110, 1000)]
theorem W_X6_beginRepeat_n {k : Nat} (h : wlk [(110, 1000)] k = false := by rfl) : ∀ i, ¬ W_X6_beginRepeat k i := WL_n h
set_option maxHeartbeats 4000000 in
set_option maxRecDepth 100000 in
theorem fr_X6_beginRepeat {l1 : Int} {P Q : Ii → Jj → Prop} {I0 : Ii} {J0 : Jj} (h : wp_X6_beginRepeat l1 I0 J0 P) (hq : ∀ (I' : Ii) (J' : Jj), P I' J' → Same (W_X6_beginRepeat) I0 J0 I' J' → Q I' J') : wp_X6_beginRepeat l1 I0 J0 Q := by
  have hs := Same.rf (W := (W_X6_beginRepeat)) I0 J0
  unfold wp_X6_beginRepeat at h ⊢
  refine fr_X11_at h (fun v h => ?_)
  refine fr_X11_put h (fun I2 J2 h hs2 => ?_)
  replace hs := hs.trans hs2 (WL_sub rfl)
  exact hq _ _ h hs
def W_X6_behindClose : Nat → Nat → Prop := WL [(110, 1000)]
theorem W_X6_behindClose_n {k : Nat} (h : wlk [(110, 1000)] k = false := by rfl) : ∀ i, ¬ W_X6_behindClose k i := WL_n h
set_option maxHeartbeats 4000000 in
set_option maxRecDepth 100000 in
theorem fr_X6_behindClose {l1 : Int} {P Q : Int → Ii → Jj → Prop} {I0 : Ii} {J0 : Jj} (h : wp_X6_behindClose l1 I0 J0 P) (hq : ∀ (v : Int) (I' : Ii) (J' : Jj), P v I' J' → Same (W_X6_behindClose) I0 J0 I' J' → Q v I' J') : wp_X6_behindClose l1 I0 J0 Q := by
  have hs := Same.rf (W := (W_X6_behindClose)) I0 J0
  unfold wp_X6_behindClose at h ⊢
  refine fr_X11_at h (fun v h => ?_)
  refine fr_X11_add h (fun I2 J2 h hs2 => ?_)
  replace hs := hs.trans hs2 (WL_sub rfl)
  refine fr_X11_at h (fun v h => ?_)
  obtain ⟨g, h⟩ := h
  refine ⟨g, ?_⟩
  refine ⟨fun c => ?_, fun c => ?_⟩
  · replace h := h.1 c
    exact hq _ _ _ h hs
  · replace h := h.2 c
    exact hq _ _ _ h hs
def W_X8_start (k0 : Nat) (k1 : Nat) : Nat → Nat → Prop := WL [(k0, 0), (k0, 1), (k0, 2), (k0 + 1, 1000), (k0 + 2, 1000), (k0 + 3, 1000)]
theorem W_X8_start_n {k0 : Nat} {k1 : Nat} {k : Nat} (h : wlk [(k0, 0), (k0, 1), (k0, 2), (k0 + 1, 1000), (k0 + 2, 1000), (k0 + 3, 1000)] k = false := by rfl) : ∀ i, ¬ W_X8_start k0 k1 k i := WL_n h
theorem ls_X8_start_40 {k0 : Nat} {k1 : Nat} {Q : Ii → Jj → Prop} {n : Nat} {l2 : Int} {I : Ii} {J : Jj} (h : Lb_X8_start_40 k0 k1 Q (L_X8_start_40 k0 k1 Q n) l2 I J) : L_X8_start_40 k0 k1 Q (n + 1) l2 I J := h
set_option maxHeartbeats 4000000 in
set_option maxRecDepth 100000 in
theorem fl_X8_start_40 {k0 : Nat} {k1 : Nat} {P Q : Ii → Jj → Prop} {I0 : Ii} {J0 : Jj} (hq : ∀ (I' : Ii) (J' : Jj), P I' J' → Same (W_X8_start k0 k1) I0 J0 I' J' → Q I' J') : ∀ (n : Nat) (l2 : Int) (I : Ii) (J : Jj), L_X8_start_40 k0 k1 P n l2 I J → Same (W_X8_start k0 k1) I0 J0 I J → L_X8_start_40 k0 k1 Q n l2 I J := by
  intro n
  induction n with
  | zero => intro l2 I J h _; exact h
  | succ n ih =>
    intro l2 I J h hs
    have h : Lb_X8_start_40 k0 k1 P (L_X8_start_40 k0 k1 P n) l2 I J := h
    show Lb_X8_start_40 k0 k1 Q (L_X8_start_40 k0 k1 Q n) l2 I J
    have hr40 := ih
    clear ih
    unfold Lb_X8_start_40 at h ⊢
    obtain ⟨g, h⟩ := h
    refine ⟨g, ?_⟩
    obtain ⟨g, h⟩ := h
    refine ⟨g, ?_⟩
    refine ⟨fun c => ?_, fun c => ?_⟩
    · replace h := h.1 c
      exact hq _ _ h hs
    · replace h := h.2 c
      refine fr_X11_put h (fun I2 J2 h hs2 => ?_)
      replace hs := hs.trans hs2 (by first | exact WL_sub rfl | exact WL_any (by simp [wls, wl, WL]))
      exact hr40 _ _ _ h hs
set_option maxHeartbeats 4000000 in
set_option maxRecDepth 100000 in
theorem fr_X8_start {k0 : Nat} {k1 : Nat} {P Q : Ii → Jj → Prop} {I0 : Ii} {J0 : Jj} (h : wp_X8_start k0 k1 I0 J0 P) (hq : ∀ (I' : Ii) (J' : Jj), P I' J' → Same (W_X8_start k0 k1) I0 J0 I' J' → Q I' J') : wp_X8_start k0 k1 I0 J0 Q := by
  have hs := Same.rf (W := (W_X8_start k0 k1)) I0 J0
  unfold wp_X8_start at h ⊢
  obtain ⟨g, h⟩ := h
  refine ⟨g, ?_⟩
  obtain ⟨g, h⟩ := h
  refine ⟨g, ?_⟩
  intro I1 e1
  replace h := h I1 e1
  replace hs := hs.upI e1 (by first | rfl | simp [W_X8_start, WL, wl])
  intro I1 e1
  replace h := h I1 e1
  replace hs := hs.upI e1 (by first | rfl | simp [W_X8_start, WL, wl])
  intro I1 e1
  replace h := h I1 e1
  replace hs := hs.upI e1 (by first | rfl | simp [W_X8_start, WL, wl])
  refine fr_J7_fill_53178 h (fun I2 J2 h hs2 => ?_)
  replace hs := hs.trans hs2 (by first | exact WL_sub rfl | exact WL_any (by simp [wls, wl, WL]))
  refine fr_X11_put h (fun I2 J2 h hs2 => ?_)
  replace hs := hs.trans hs2 (by first | exact WL_sub rfl | exact WL_any (by simp [wls, wl, WL]))
  obtain ⟨n, h⟩ := h
  exact ⟨n, fl_X8_start_40 hq n _ _ _ h hs⟩
set_option maxHeartbeats 4000000 in
set_option maxRecDepth 100000 in
theorem fr_X8_groupCount {k0 : Nat} {P Q : Int → Ii → Jj → Prop} {I : Ii} {J : Jj} (h : wp_X8_groupCount k0 I J P) (hq : ∀ (v : Int), P v I J → Q v I J) : wp_X8_groupCount k0 I J Q := by
  unfold wp_X8_groupCount at h ⊢
  obtain ⟨g, h⟩ := h
  refine ⟨g, ?_⟩
  refine fr_X11_at h (fun v h => ?_)
  exact hq _ h
def W_X8_raiseLevel (k0 : Nat) : Nat → Nat → Prop := WL [(k0, 0), (k0 + 2, 1000), (k0 + 3, 1000)]
theorem W_X8_raiseLevel_n {k0 : Nat} {k : Nat} (h : wlk [(k0, 0), (k0 + 2, 1000), (k0 + 3, 1000)] k = false := by rfl) : ∀ i, ¬ W_X8_raiseLevel k0 k i := WL_n h
theorem ls_X8_raiseLevel_8 {k0 : Nat} {l1 : Int} {Q : Ii → Jj → Prop} {n : Nat} {l3 : Int} {l4 : Int} {I : Ii} {J : Jj} (h : Lb_X8_raiseLevel_8 k0 l1 Q (L_X8_raiseLevel_8 k0 l1 Q n) l3 l4 I J) : L_X8_raiseLevel_8 k0 l1 Q (n + 1) l3 l4 I J := h
set_option maxHeartbeats 4000000 in
set_option maxRecDepth 100000 in
theorem fl_X8_raiseLevel_8 {k0 : Nat} {l1 : Int} {P Q : Ii → Jj → Prop} {I0 : Ii} {J0 : Jj} (hq : ∀ (I' : Ii) (J' : Jj), P I' J' → Same (W_X8_raiseLevel k0) I0 J0 I' J' → Q I' J') : ∀ (n : Nat) (l3 : Int) (l4 : Int) (I : Ii) (J : Jj), L_X8_raiseLevel_8 k0 l1 P n l3 l4 I J → Same (W_X8_raiseLevel k0) I0 J0 I J → L_X8_raiseLevel_8 k0 l1 Q n l3 l4 I J := by
  intro n
  induction n with
  | zero => intro l3 l4 I J h _; exact h
  | succ n ih =>
    intro l3 l4 I J h hs
    have h : Lb_X8_raiseLevel_8 k0 l1 P (L_X8_raiseLevel_8 k0 l1 P n) l3 l4 I J := h
    show Lb_X8_raiseLevel_8 k0 l1 Q (L_X8_raiseLevel_8 k0 l1 Q n) l3 l4 I J
    have hr8 := ih
    clear ih
    unfold Lb_X8_raiseLevel_8 at h ⊢
    obtain ⟨g, h⟩ := h
    refine ⟨g, ?_⟩
    obtain ⟨g, h⟩ := h
    refine ⟨g, ?_⟩
    refine ⟨fun c => ?_, fun c => ?_⟩
    · replace h := h.1 c
      intro I1 e1
      replace h := h I1 e1
      replace hs := hs.upI e1 (by first | rfl | simp [W_X8_raiseLevel, WL, wl])
      refine fr_X11_put h (fun I2 J2 h hs2 => ?_)
      replace hs := hs.trans hs2 (by first | exact WL_sub rfl | exact WL_any (by simp [wls, wl, WL]))
      exact hq _ _ h hs
    · replace h := h.2 c
      refine fr_X11_at h (fun v h => ?_)
      refine fr_X11_at h (fun v h => ?_)
      refine fr_X11_put h (fun I2 J2 h hs2 => ?_)
      replace hs := hs.trans hs2 (by first | exact WL_sub rfl | exact WL_any (by simp [wls, wl, WL]))
      exact hr8 _ _ _ _ h hs
set_option maxHeartbeats 4000000 in
set_option maxRecDepth 100000 in
theorem fr_X8_raiseLevel {k0 : Nat} {l1 : Int} {P Q : Ii → Jj → Prop} {I0 : Ii} {J0 : Jj} (h : wp_X8_raiseLevel k0 l1 I0 J0 P) (hq : ∀ (I' : Ii) (J' : Jj), P I' J' → Same (W_X8_raiseLevel k0) I0 J0 I' J' → Q I' J') : wp_X8_raiseLevel k0 l1 I0 J0 Q := by
  have hs := Same.rf (W := (W_X8_raiseLevel k0)) I0 J0
  unfold wp_X8_raiseLevel at h ⊢
  obtain ⟨g, h⟩ := h
  refine ⟨g, ?_⟩
  refine fr_X8_groupRow h (fun v h => ?_)
  obtain ⟨n, h⟩ := h
  exact ⟨n, fl_X8_raiseLevel_8 hq n _ _ _ _ h hs⟩
def W_X8_place (k0 : Nat) : Nat → Nat → Prop := WL [(k0 + 1, 1000)]
theorem W_X8_place_n {k0 : Nat} {k : Nat} (h : wlk [(k0 + 1, 1000)] k = false := by rfl) : ∀ i, ¬ W_X8_place k0 k i := WL_n h
theorem ls_X8_place_2 {k0 : Nat} {l1 : Int} {l2 : Int} {Q : Ii → Jj → Prop} {n : Nat} {l3 : Int} {I : Ii} {J : Jj} (h : Lb_X8_place_2 k0 l1 l2 Q (L_X8_place_2 k0 l1 l2 Q n) l3 I J) : L_X8_place_2 k0 l1 l2 Q (n + 1) l3 I J := h
set_option maxHeartbeats 4000000 in
set_option maxRecDepth 100000 in
theorem fl_X8_place_2 {k0 : Nat} {l1 : Int} {l2 : Int} {P Q : Ii → Jj → Prop} {I0 : Ii} {J0 : Jj} (hq : ∀ (I' : Ii) (J' : Jj), P I' J' → Same (W_X8_place k0) I0 J0 I' J' → Q I' J') : ∀ (n : Nat) (l3 : Int) (I : Ii) (J : Jj), L_X8_place_2 k0 l1 l2 P n l3 I J → Same (W_X8_place k0) I0 J0 I J → L_X8_place_2 k0 l1 l2 Q n l3 I J := by
  intro n
  induction n with
  | zero => intro l3 I J h _; exact h
  | succ n ih =>
    intro l3 I J h hs
    have h : Lb_X8_place_2 k0 l1 l2 P (L_X8_place_2 k0 l1 l2 P n) l3 I J := h
    show Lb_X8_place_2 k0 l1 l2 Q (L_X8_place_2 k0 l1 l2 Q n) l3 I J
    have hr2 := ih
    clear ih
    unfold Lb_X8_place_2 at h ⊢
    obtain ⟨g, h⟩ := h
    refine ⟨g, ?_⟩
    refine ⟨fun c => ?_, fun c => ?_⟩
    · replace h := h.1 c
      exact hq _ _ h hs
    · replace h := h.2 c
      refine fr_X11_isIn h (fun v h => ?_)
      refine ⟨fun c => ?_, fun c => ?_⟩
      · replace h := h.1 c
        exact hr2 _ _ _ h hs
      · replace h := h.2 c
        refine fr_X11_put h (fun I2 J2 h hs2 => ?_)
        replace hs := hs.trans hs2 (by first | exact WL_sub rfl | exact WL_any (by simp [wls, wl, WL]))
        exact hr2 _ _ _ h hs
set_option maxHeartbeats 4000000 in
set_option maxRecDepth 100000 in
theorem fr_X8_place {k0 : Nat} {l1 : Int} {l2 : Int} {P Q : Ii → Jj → Prop} {I0 : Ii} {J0 : Jj} (h : wp_X8_place k0 l1 l2 I0 J0 P) (hq : ∀ (I' : Ii) (J' : Jj), P I' J' → Same (W_X8_place k0) I0 J0 I' J' → Q I' J') : wp_X8_place k0 l1 l2 I0 J0 Q := by
  have hs := Same.rf (W := (W_X8_place k0)) I0 J0
  unfold wp_X8_place at h ⊢
  obtain ⟨g, h⟩ := h
  refine ⟨g, ?_⟩
  obtain ⟨n, h⟩ := h
  exact ⟨n, fl_X8_place_2 hq n _ _ _ h hs⟩
def W_X8_note (k0 : Nat) : Nat → Nat → Prop := WL [(k0, 2), (k0 + 4, 1000)]
theorem W_X8_note_n {k0 : Nat} {k : Nat} (h : wlk [(k0, 2), (k0 + 4, 1000)] k = false := by rfl) : ∀ i, ¬ W_X8_note k0 k i := WL_n h
set_option maxHeartbeats 4000000 in
set_option maxRecDepth 100000 in
theorem fr_X8_note {k0 : Nat} {l1 : Int} {l2 : Int} {l3 : Int} {l4 : Int} {P Q : Ii → Jj → Prop} {I0 : Ii} {J0 : Jj} (h : wp_X8_note k0 l1 l2 l3 l4 I0 J0 P) (hq : ∀ (I' : Ii) (J' : Jj), P I' J' → Same (W_X8_note k0) I0 J0 I' J' → Q I' J') : wp_X8_note k0 l1 l2 l3 l4 I0 J0 Q := by
  have hs := Same.rf (W := (W_X8_note k0)) I0 J0
  unfold wp_X8_note at h ⊢
  obtain ⟨g, h⟩ := h
  refine ⟨g, ?_⟩
  obtain ⟨g, h⟩ := h
  refine ⟨g, ?_⟩
  intro I1 e1
  replace h := h I1 e1
  replace hs := hs.uprI e1 (fun i => (by first | rfl | simp [W_X8_note, WL, wl]))
  refine fr_X11_put h (fun I2 J2 h hs2 => ?_)
  replace hs := hs.trans hs2 (by first | exact WL_sub rfl | exact WL_any (by simp [wls, wl, WL]))
  refine fr_X11_put h (fun I2 J2 h hs2 => ?_)
  replace hs := hs.trans hs2 (by first | exact WL_sub rfl | exact WL_any (by simp [wls, wl, WL]))
  refine fr_X11_put h (fun I2 J2 h hs2 => ?_)
  replace hs := hs.trans hs2 (by first | exact WL_sub rfl | exact WL_any (by simp [wls, wl, WL]))
  refine fr_X11_put h (fun I2 J2 h hs2 => ?_)
  replace hs := hs.trans hs2 (by first | exact WL_sub rfl | exact WL_any (by simp [wls, wl, WL]))
  refine fr_J9_min_7cf53 h (fun v h => ?_)
  intro I1 e1
  replace h := h I1 e1
  replace hs := hs.upI e1 (by first | rfl | simp [W_X8_note, WL, wl])
  exact hq _ _ h hs
def W_X9_takesOnce : Nat → Nat → Prop := WL [(101, 9), (101, 10), (101, 11), (103, 0)]
theorem W_X9_takesOnce_n {k : Nat} (h : wlk [(101, 9), (101, 10), (101, 11), (103, 0)] k = false := by rfl) : ∀ i, ¬ W_X9_takesOnce k i := WL_n h
set_option maxHeartbeats 4000000 in
set_option maxRecDepth 100000 in
theorem fr_X9_takesOnce {l2 : Int} {P Q : Int → Ii → Jj → Prop} {I0 : Ii} {J0 : Jj} (h : wp_X9_takesOnce l2 I0 J0 P) (hq : ∀ (v : Int) (I' : Ii) (J' : Jj), P v I' J' → Same (W_X9_takesOnce) I0 J0 I' J' → Q v I' J') : wp_X9_takesOnce l2 I0 J0 Q := by
  have hs := Same.rf (W := (W_X9_takesOnce)) I0 J0
  unfold wp_X9_takesOnce at h ⊢
  refine ⟨fun c => ?_, fun c => ?_⟩
  · replace h := h.1 c
    intro I1 e1
    replace h := h I1 e1
    replace hs := hs.upI e1 rfl
    exact hq _ _ _ h hs
  · replace h := h.2 c
    refine fr_X10_fail h (fun v I2 J2 h hs2 => ?_)
    replace hs := hs.trans hs2 (WL_sub rfl)
    obtain ⟨g, h⟩ := h
    refine ⟨g, ?_⟩
    exact hq _ _ _ h hs
def W_X10_append : Nat → Nat → Prop := WL [(101, 1), (102, 1000)]
theorem W_X10_append_n {k : Nat} (h : wlk [(101, 1), (102, 1000)] k = false := by rfl) : ∀ i, ¬ W_X10_append k i := WL_n h
theorem ls_X10_append_3 {l1 : Int} {Q : Ii → Jj → Prop} {n : Nat} {l2 : Int} {I : Ii} {J : Jj} (h : Lb_X10_append_3 l1 Q (L_X10_append_3 l1 Q n) l2 I J) : L_X10_append_3 l1 Q (n + 1) l2 I J := h
set_option maxHeartbeats 4000000 in
set_option maxRecDepth 100000 in
theorem fl_X10_append_3 {l1 : Int} {P Q : Ii → Jj → Prop} {I0 : Ii} {J0 : Jj} (hq : ∀ (I' : Ii) (J' : Jj), P I' J' → Same (W_X10_append) I0 J0 I' J' → Q I' J') : ∀ (n : Nat) (l2 : Int) (I : Ii) (J : Jj), L_X10_append_3 l1 P n l2 I J → Same (W_X10_append) I0 J0 I J → L_X10_append_3 l1 Q n l2 I J := by
  intro n
  induction n with
  | zero => intro l2 I J h _; exact h
  | succ n ih =>
    intro l2 I J h hs
    have h : Lb_X10_append_3 l1 P (L_X10_append_3 l1 P n) l2 I J := h
    show Lb_X10_append_3 l1 Q (L_X10_append_3 l1 Q n) l2 I J
    have hr3 := ih
    clear ih
    unfold Lb_X10_append_3 at h ⊢
    obtain ⟨g, h⟩ := h
    refine ⟨g, ?_⟩
    refine ⟨fun c => ?_, fun c => ?_⟩
    · replace h := h.1 c
      exact hq _ _ h hs
    · replace h := h.2 c
      refine fr_X11_put h (fun I2 J2 h hs2 => ?_)
      replace hs := hs.trans hs2 (WL_sub rfl)
      intro I1 e1
      replace h := h I1 e1
      replace hs := hs.upI e1 rfl
      exact hr3 _ _ _ h hs
set_option maxHeartbeats 4000000 in
set_option maxRecDepth 100000 in
theorem fr_X10_append {l1 : Int} {P Q : Ii → Jj → Prop} {I0 : Ii} {J0 : Jj} (h : wp_X10_append l1 I0 J0 P) (hq : ∀ (I' : Ii) (J' : Jj), P I' J' → Same (W_X10_append) I0 J0 I' J' → Q I' J') : wp_X10_append l1 I0 J0 Q := by
  have hs := Same.rf (W := (W_X10_append)) I0 J0
  unfold wp_X10_append at h ⊢
  obtain ⟨n, h⟩ := h
  exact ⟨n, fl_X10_append_3 hq n _ _ _ h hs⟩
def W_X10_takeWord : Nat → Nat → Prop := WL [(101, 4), (101, 5), (101, 6)]
theorem W_X10_takeWord_n {k : Nat} (h : wlk [(101, 4), (101, 5), (101, 6)] k = false := by rfl) : ∀ i, ¬ W_X10_takeWord k i := WL_n h
set_option maxHeartbeats 4000000 in
set_option maxRecDepth 100000 in
theorem fb_X10_takeWord_68 {P Q : Ii → Jj → Prop} {I0 : Ii} {J0 : Jj} (hq : ∀ (I' : Ii) (J' : Jj), P I' J' → Same (W_X10_takeWord) I0 J0 I' J' → Q I' J') {I : Ii} {J : Jj} (h : B_X10_takeWord_68 P  I J) (hs : Same (W_X10_takeWord) I0 J0 I J) : B_X10_takeWord_68 Q  I J := by
  unfold B_X10_takeWord_68 at h ⊢
  obtain ⟨g, h⟩ := h
  refine ⟨g, ?_⟩
  refine ⟨fun c => ?_, fun c => ?_⟩
  · replace h := h.1 c
    intro I1 e1
    replace h := h I1 e1
    replace hs := hs.upI e1 rfl
    exact hq _ _ h hs
  · replace h := h.2 c
    intro I1 e1
    replace h := h I1 e1
    replace hs := hs.upI e1 rfl
    exact hq _ _ h hs
theorem ls_X10_takeWord_5 {Q : Ii → Jj → Prop} {n : Nat} {I : Ii} {J : Jj} (h : Lb_X10_takeWord_5 Q (L_X10_takeWord_5 Q n)  I J) : L_X10_takeWord_5 Q (n + 1)  I J := h
set_option maxHeartbeats 4000000 in
set_option maxRecDepth 100000 in
theorem fl_X10_takeWord_5 {P Q : Ii → Jj → Prop} {I0 : Ii} {J0 : Jj} (hq : ∀ (I' : Ii) (J' : Jj), P I' J' → Same (W_X10_takeWord) I0 J0 I' J' → Q I' J') : ∀ (n : Nat)  (I : Ii) (J : Jj), L_X10_takeWord_5 P n  I J → Same (W_X10_takeWord) I0 J0 I J → L_X10_takeWord_5 Q n  I J := by
  intro n
  induction n with
  | zero => intro  I J h _; exact h
  | succ n ih =>
    intro  I J h hs
    have h : Lb_X10_takeWord_5 P (L_X10_takeWord_5 P n)  I J := h
    show Lb_X10_takeWord_5 Q (L_X10_takeWord_5 Q n)  I J
    have hr5 := ih
    clear ih
    unfold Lb_X10_takeWord_5 at h ⊢
    obtain ⟨g, h⟩ := h
    refine ⟨g, ?_⟩
    obtain ⟨g, h⟩ := h
    refine ⟨g, ?_⟩
    refine ⟨fun c => ?_, fun c => ?_⟩
    · replace h := h.1 c
      exact fb_X10_takeWord_68 hq h hs
    · replace h := h.2 c
      refine fr_X11_at h (fun v h => ?_)
      refine fr_X10_isLetter h (fun v h => ?_)
      refine ⟨fun c => ?_, fun c => ?_⟩
      · replace h := h.1 c
        exact fb_X10_takeWord_68 hq h hs
      · replace h := h.2 c
        refine fr_X11_at h (fun v h => ?_)
        refine fr_X10_withLetter h (fun v h => ?_)
        intro I1 e1
        replace h := h I1 e1
        replace hs := hs.upJ e1 rfl
        intro I1 e1
        replace h := h I1 e1
        replace hs := hs.upI e1 rfl
        exact hr5 _ _ h hs
set_option maxHeartbeats 4000000 in
set_option maxRecDepth 100000 in
theorem fr_X10_takeWord {P Q : Ii → Jj → Prop} {I0 : Ii} {J0 : Jj} (h : wp_X10_takeWord I0 J0 P) (hq : ∀ (I' : Ii) (J' : Jj), P I' J' → Same (W_X10_takeWord) I0 J0 I' J' → Q I' J') : wp_X10_takeWord I0 J0 Q := by
  have hs := Same.rf (W := (W_X10_takeWord)) I0 J0
  unfold wp_X10_takeWord at h ⊢
  intro I1 e1
  replace h := h I1 e1
  replace hs := hs.upJ e1 rfl
  obtain ⟨n, h⟩ := h
  exact ⟨n, fl_X10_takeWord_5 hq n _ _ h hs⟩
def W_X10_takeNumber : Nat → Nat → Prop := WL [(101, 4), (101, 5), (101, 7)]
theorem W_X10_takeNumber_n {k : Nat} (h : wlk [(101, 4), (101, 5), (101, 7)] k = false := by rfl) : ∀ i, ¬ W_X10_takeNumber k i := WL_n h
set_option maxHeartbeats 4000000 in
set_option maxRecDepth 100000 in
theorem fb_X10_takeNumber_72 {P Q : Ii → Jj → Prop} {I0 : Ii} {J0 : Jj} (hq : ∀ (I' : Ii) (J' : Jj), P I' J' → Same (W_X10_takeNumber) I0 J0 I' J' → Q I' J') {I : Ii} {J : Jj} (h : B_X10_takeNumber_72 P  I J) (hs : Same (W_X10_takeNumber) I0 J0 I J) : B_X10_takeNumber_72 Q  I J := by
  unfold B_X10_takeNumber_72 at h ⊢
  obtain ⟨g, h⟩ := h
  refine ⟨g, ?_⟩
  refine ⟨fun c => ?_, fun c => ?_⟩
  · replace h := h.1 c
    intro I1 e1
    replace h := h I1 e1
    replace hs := hs.upI e1 rfl
    exact hq _ _ h hs
  · replace h := h.2 c
    intro I1 e1
    replace h := h I1 e1
    replace hs := hs.upI e1 rfl
    exact hq _ _ h hs
theorem ls_X10_takeNumber_5 {Q : Ii → Jj → Prop} {n : Nat} {I : Ii} {J : Jj} (h : Lb_X10_takeNumber_5 Q (L_X10_takeNumber_5 Q n)  I J) : L_X10_takeNumber_5 Q (n + 1)  I J := h
set_option maxHeartbeats 4000000 in
set_option maxRecDepth 100000 in
theorem fl_X10_takeNumber_5 {P Q : Ii → Jj → Prop} {I0 : Ii} {J0 : Jj} (hq : ∀ (I' : Ii) (J' : Jj), P I' J' → Same (W_X10_takeNumber) I0 J0 I' J' → Q I' J') : ∀ (n : Nat)  (I : Ii) (J : Jj), L_X10_takeNumber_5 P n  I J → Same (W_X10_takeNumber) I0 J0 I J → L_X10_takeNumber_5 Q n  I J := by
  intro n
  induction n with
  | zero => intro  I J h _; exact h
  | succ n ih =>
    intro  I J h hs
    have h : Lb_X10_takeNumber_5 P (L_X10_takeNumber_5 P n)  I J := h
    show Lb_X10_takeNumber_5 Q (L_X10_takeNumber_5 Q n)  I J
    have hr5 := ih
    clear ih
    unfold Lb_X10_takeNumber_5 at h ⊢
    obtain ⟨g, h⟩ := h
    refine ⟨g, ?_⟩
    obtain ⟨g, h⟩ := h
    refine ⟨g, ?_⟩
    refine ⟨fun c => ?_, fun c => ?_⟩
    · replace h := h.1 c
      exact fb_X10_takeNumber_72 hq h hs
    · replace h := h.2 c
      refine fr_X11_at h (fun v h => ?_)
      refine fr_X10_isDigit h (fun v h => ?_)
      refine ⟨fun c => ?_, fun c => ?_⟩
      · replace h := h.1 c
        exact fb_X10_takeNumber_72 hq h hs
      · replace h := h.2 c
        refine fr_X11_at h (fun v h => ?_)
        intro I1 e1
        replace h := h I1 e1
        replace hs := hs.upI e1 rfl
        intro I1 e1
        replace h := h I1 e1
        replace hs := hs.upI e1 rfl
        exact hr5 _ _ h hs
set_option maxHeartbeats 4000000 in
set_option maxRecDepth 100000 in
theorem fr_X10_takeNumber {P Q : Ii → Jj → Prop} {I0 : Ii} {J0 : Jj} (h : wp_X10_takeNumber I0 J0 P) (hq : ∀ (I' : Ii) (J' : Jj), P I' J' → Same (W_X10_takeNumber) I0 J0 I' J' → Q I' J') : wp_X10_takeNumber I0 J0 Q := by
  have hs := Same.rf (W := (W_X10_takeNumber)) I0 J0
  unfold wp_X10_takeNumber at h ⊢
  intro I1 e1
  replace h := h I1 e1
  replace hs := hs.upI e1 rfl
  obtain ⟨n, h⟩ := h
  exact ⟨n, fl_X10_takeNumber_5 hq n _ _ h hs⟩
def W_X11_feed : Nat → Nat → Prop := WL [(101, 1), (102, 1000)]
theorem W_X11_feed_n {k : Nat} (h : wlk [(101, 1), (102, 1000)] k = false := by rfl) : ∀ i, ¬ W_X11_feed k i := WL_n h
set_option maxHeartbeats 4000000 in
set_option maxRecDepth 100000 in
theorem fr_X11_feed {l1 : Int} {l2 : Int} {l3 : Int} {l4 : Int} {l5 : Int} {P Q : Int → Ii → Jj → Prop} {I0 : Ii} {J0 : Jj} (h : wp_X11_feed l1 l2 l3 l4 l5 I0 J0 P) (hq : ∀ (v : Int) (I' : Ii) (J' : Jj), P v I' J' → Same (W_X11_feed) I0 J0 I' J' → Q v I' J') : wp_X11_feed l1 l2 l3 l4 l5 I0 J0 Q := by
  have hs := Same.rf (W := (W_X11_feed)) I0 J0
  unfold wp_X11_feed at h ⊢
  obtain ⟨g, h⟩ := h
  refine ⟨g, ?_⟩
  refine ⟨fun c => ?_, fun c => ?_⟩
  · replace h := h.1 c
    refine fr_X10_append h (fun I2 J2 h hs2 => ?_)
    replace hs := hs.trans hs2 (WL_sub rfl)
    refine fr_X10_append h (fun I2 J2 h hs2 => ?_)
    replace hs := hs.trans hs2 (WL_sub rfl)
    refine fr_X10_append h (fun I2 J2 h hs2 => ?_)
    replace hs := hs.trans hs2 (WL_sub rfl)
    refine fr_X10_append h (fun I2 J2 h hs2 => ?_)
    replace hs := hs.trans hs2 (WL_sub rfl)
    refine fr_X10_append h (fun I2 J2 h hs2 => ?_)
    replace hs := hs.trans hs2 (WL_sub rfl)
    exact hq _ _ _ h hs
  · replace h := h.2 c
    exact False.elim h
set_option maxHeartbeats 4000000 in
set_option maxRecDepth 100000 in
theorem fr_X11_setting {l1 : Int} {P Q : Int → Ii → Jj → Prop} {I : Ii} {J : Jj} (h : wp_X11_setting l1 I J P) (hq : ∀ (v : Int), P v I J → Q v I J) : wp_X11_setting l1 I J Q := by
  unfold wp_X11_setting at h ⊢
  obtain ⟨g, h⟩ := h
  refine ⟨g, ?_⟩
  refine ⟨fun c => ?_, fun c => ?_, fun c => ?_, fun c => ?_, fun c => ?_, fun c => ?_, fun c => ?_, fun c => ?_, fun c => ?_, fun c => ?_, fun c => ?_, fun c => ?_, fun c => ?_⟩
  · replace h := h.1 c
    exact False.elim h
  · replace h := h.2.1 c
    exact hq _ h
  · replace h := h.2.2.1 c
    exact hq _ h
  · replace h := h.2.2.2.1 c
    exact hq _ h
  · replace h := h.2.2.2.2.1 c
    exact hq _ h
  · replace h := h.2.2.2.2.2.1 c
    exact hq _ h
  · replace h := h.2.2.2.2.2.2.1 c
    refine fr_X2_limit h (fun v h => ?_)
    exact hq _ h
  · replace h := h.2.2.2.2.2.2.2.1 c
    exact hq _ h
  · replace h := h.2.2.2.2.2.2.2.2.1 c
    exact hq _ h
  · replace h := h.2.2.2.2.2.2.2.2.2.1 c
    exact hq _ h
  · replace h := h.2.2.2.2.2.2.2.2.2.2.1 c
    refine fr_X8_groupCount h (fun v h => ?_)
    exact hq _ h
  · replace h := h.2.2.2.2.2.2.2.2.2.2.2.1 c
    exact hq _ h
  · replace h := h.2.2.2.2.2.2.2.2.2.2.2.2 c
    refine fr_X2_largestPiece h (fun v h => ?_)
    exact hq _ h
set_option maxHeartbeats 4000000 in
set_option maxRecDepth 100000 in
theorem fr_X11_hasGroup {l1 : Int} {P Q : Int → Ii → Jj → Prop} {I : Ii} {J : Jj} (h : wp_X11_hasGroup l1 I J P) (hq : ∀ (v : Int), P v I J → Q v I J) : wp_X11_hasGroup l1 I J Q := by
  unfold wp_X11_hasGroup at h ⊢
  obtain ⟨g, h⟩ := h
  refine ⟨g, ?_⟩
  refine ⟨fun c => ?_, fun c => ?_⟩
  · replace h := h.1 c
    exact hq _ h
  · replace h := h.2 c
    refine fr_X8_groupCount h (fun v h => ?_)
    obtain ⟨g, h⟩ := h
    refine ⟨g, ?_⟩
    obtain ⟨g, h⟩ := h
    refine ⟨g, ?_⟩
    refine ⟨fun c => ?_, fun c => ?_⟩
    · replace h := h.1 c
      exact hq _ h
    · replace h := h.2 c
      exact hq _ h
set_option maxHeartbeats 4000000 in
set_option maxRecDepth 100000 in
theorem fr_X11_requireGroup {l1 : Int} {P Q : Ii → Jj → Prop} {I : Ii} {J : Jj} (h : wp_X11_requireGroup l1 I J P) (hq : P I J → Q I J) : wp_X11_requireGroup l1 I J Q := by
  unfold wp_X11_requireGroup at h ⊢
  refine fr_X11_hasGroup h (fun v h => ?_)
  refine ⟨fun c => ?_, fun c => ?_⟩
  · replace h := h.1 c
    exact hq h
  · replace h := h.2 c
    exact False.elim h
set_option maxHeartbeats 4000000 in
set_option maxRecDepth 100000 in
theorem fr_X11_weight {l1 : Int} {P Q : Int → Ii → Jj → Prop} {I : Ii} {J : Jj} (h : wp_X11_weight l1 I J P) (hq : ∀ (v : Int), P v I J → Q v I J) : wp_X11_weight l1 I J Q := by
  unfold wp_X11_weight at h ⊢
  refine fr_X11_requireVertex h (fun h => ?_)
  refine fr_X11_at h (fun v h => ?_)
  exact hq _ h
set_option maxHeartbeats 4000000 in
set_option maxRecDepth 100000 in
theorem fr_X11_isCut {l1 : Int} {P Q : Int → Ii → Jj → Prop} {I : Ii} {J : Jj} (h : wp_X11_isCut l1 I J P) (hq : ∀ (v : Int), P v I J → Q v I J) : wp_X11_isCut l1 I J Q := by
  unfold wp_X11_isCut at h ⊢
  refine fr_X11_at h (fun v h => ?_)
  refine fr_X11_at h (fun v h => ?_)
  refine fr_X11_at h (fun v h => ?_)
  refine fr_X11_at h (fun v h => ?_)
  obtain ⟨g, h⟩ := h
  refine ⟨g, ?_⟩
  obtain ⟨g, h⟩ := h
  refine ⟨g, ?_⟩
  refine ⟨fun c => ?_, fun c => ?_⟩
  · replace h := h.1 c
    exact hq _ h
  · replace h := h.2 c
    exact hq _ h
set_option maxHeartbeats 4000000 in
set_option maxRecDepth 100000 in
theorem fr_X11_partOf {l1 : Int} {P Q : Int → Ii → Jj → Prop} {I : Ii} {J : Jj} (h : wp_X11_partOf l1 I J P) (hq : ∀ (v : Int), P v I J → Q v I J) : wp_X11_partOf l1 I J Q := by
  unfold wp_X11_partOf at h ⊢
  refine fr_X11_requireVertex h (fun h => ?_)
  refine fr_X11_at h (fun v h => ?_)
  exact hq _ h
theorem ls_X11_cutAround_17 {l1 : Int} {Q : Int → Ii → Jj → Prop} {n : Nat} {l2 : Int} {l3 : Int} {l4 : Int} {I : Ii} {J : Jj} (h : Lb_X11_cutAround_17 l1 Q (L_X11_cutAround_17 l1 Q n) l2 l3 l4 I J) : L_X11_cutAround_17 l1 Q (n + 1) l2 l3 l4 I J := h
set_option maxHeartbeats 4000000 in
set_option maxRecDepth 100000 in
theorem fl_X11_cutAround_17 {l1 : Int} {P Q : Int → Ii → Jj → Prop} {I : Ii} {J : Jj} (hq : ∀ (v : Int), P v I J → Q v I J) : ∀ (n : Nat) (l2 : Int) (l3 : Int) (l4 : Int), L_X11_cutAround_17 l1 P n l2 l3 l4 I J → L_X11_cutAround_17 l1 Q n l2 l3 l4 I J := by
  intro n
  induction n with
  | zero => intro l2 l3 l4 h; exact h
  | succ n ih =>
    intro l2 l3 l4 h
    have h : Lb_X11_cutAround_17 l1 P (L_X11_cutAround_17 l1 P n) l2 l3 l4 I J := h
    show Lb_X11_cutAround_17 l1 Q (L_X11_cutAround_17 l1 Q n) l2 l3 l4 I J
    have hr17 := ih
    clear ih
    unfold Lb_X11_cutAround_17 at h ⊢
    obtain ⟨g, h⟩ := h
    refine ⟨g, ?_⟩
    obtain ⟨g, h⟩ := h
    refine ⟨g, ?_⟩
    refine ⟨fun c => ?_, fun c => ?_⟩
    · replace h := h.1 c
      exact hq _ h
    · replace h := h.2 c
      refine fr_X11_isCut h (fun v h => ?_)
      refine ⟨fun c => ?_, fun c => ?_⟩
      · replace h := h.1 c
        exact hr17 _ _ _ h
      · replace h := h.2 c
        refine fr_X2_endsOf h (fun v h => ?_)
        refine ⟨fun c => ?_, fun c => ?_⟩
        · replace h := h.1 c
          exact hr17 _ _ _ h
        · replace h := h.2 c
          refine fr_X11_at h (fun v h => ?_)
          exact hr17 _ _ _ h
set_option maxHeartbeats 4000000 in
set_option maxRecDepth 100000 in
theorem fr_X11_cutAround {l1 : Int} {P Q : Int → Ii → Jj → Prop} {I : Ii} {J : Jj} (h : wp_X11_cutAround l1 I J P) (hq : ∀ (v : Int), P v I J → Q v I J) : wp_X11_cutAround l1 I J Q := by
  unfold wp_X11_cutAround at h ⊢
  refine fr_X11_at h (fun v h => ?_)
  obtain ⟨n, h⟩ := h
  exact ⟨n, fl_X11_cutAround_17 hq n _ _ _ h⟩
theorem ls_X11_border_4 {Q : Int → Ii → Jj → Prop} {n : Nat} {l1 : Int} {l2 : Int} {I : Ii} {J : Jj} (h : Lb_X11_border_4 Q (L_X11_border_4 Q n) l1 l2 I J) : L_X11_border_4 Q (n + 1) l1 l2 I J := h
set_option maxHeartbeats 4000000 in
set_option maxRecDepth 100000 in
theorem fl_X11_border_4 {P Q : Int → Ii → Jj → Prop} {I : Ii} {J : Jj} (hq : ∀ (v : Int), P v I J → Q v I J) : ∀ (n : Nat) (l1 : Int) (l2 : Int), L_X11_border_4 P n l1 l2 I J → L_X11_border_4 Q n l1 l2 I J := by
  intro n
  induction n with
  | zero => intro l1 l2 h; exact h
  | succ n ih =>
    intro l1 l2 h
    have h : Lb_X11_border_4 P (L_X11_border_4 P n) l1 l2 I J := h
    show Lb_X11_border_4 Q (L_X11_border_4 Q n) l1 l2 I J
    have hr4 := ih
    clear ih
    unfold Lb_X11_border_4 at h ⊢
    obtain ⟨g, h⟩ := h
    refine ⟨g, ?_⟩
    obtain ⟨g, h⟩ := h
    refine ⟨g, ?_⟩
    refine ⟨fun c => ?_, fun c => ?_⟩
    · replace h := h.1 c
      exact hq _ h
    · replace h := h.2 c
      refine fr_X11_isCut h (fun v h => ?_)
      refine ⟨fun c => ?_, fun c => ?_⟩
      · replace h := h.1 c
        exact hr4 _ _ h
      · replace h := h.2 c
        refine fr_X2_endsOf h (fun v h => ?_)
        exact hr4 _ _ h
set_option maxHeartbeats 4000000 in
set_option maxRecDepth 100000 in
theorem fr_X11_border {P Q : Int → Ii → Jj → Prop} {I : Ii} {J : Jj} (h : wp_X11_border I J P) (hq : ∀ (v : Int), P v I J → Q v I J) : wp_X11_border I J Q := by
  unfold wp_X11_border at h ⊢
  obtain ⟨n, h⟩ := h
  exact ⟨n, fl_X11_border_4 hq n _ _ h⟩
set_option maxHeartbeats 4000000 in
set_option maxRecDepth 100000 in
theorem fr_X11_groupOf {l1 : Int} {P Q : Int → Ii → Jj → Prop} {I : Ii} {J : Jj} (h : wp_X11_groupOf l1 I J P) (hq : ∀ (v : Int), P v I J → Q v I J) : wp_X11_groupOf l1 I J Q := by
  unfold wp_X11_groupOf at h ⊢
  refine fr_X11_requireVertex h (fun h => ?_)
  refine fr_X8_groupRow h (fun v h => ?_)
  refine fr_X11_at h (fun v h => ?_)
  exact hq _ h
set_option maxHeartbeats 4000000 in
set_option maxRecDepth 100000 in
theorem fr_X11_hasFewGroups {P Q : Int → Ii → Jj → Prop} {I : Ii} {J : Jj} (h : wp_X11_hasFewGroups I J P) (hq : ∀ (v : Int), P v I J → Q v I J) : wp_X11_hasFewGroups I J Q := by
  unfold wp_X11_hasFewGroups at h ⊢
  refine fr_X8_groupCount h (fun v h => ?_)
  obtain ⟨g, h⟩ := h
  refine ⟨g, ?_⟩
  refine ⟨fun c => ?_, fun c => ?_⟩
  · replace h := h.1 c
    exact hq _ h
  · replace h := h.2 c
    exact hq _ h
set_option maxHeartbeats 4000000 in
set_option maxRecDepth 100000 in
theorem fb_X11_event_15 {l1 : Int} {l2 : Int} {P Q : Int → Ii → Jj → Prop} {I : Ii} {J : Jj} (hq : ∀ (v : Int), P v I J → Q v I J) (h : B_X11_event_15 l1 l2 P  I J) : B_X11_event_15 l1 l2 Q  I J := by
  unfold B_X11_event_15 at h ⊢
  exact False.elim h
set_option maxHeartbeats 4000000 in
set_option maxRecDepth 100000 in
theorem fb_X11_event_35 {l1 : Int} {l2 : Int} {P Q : Int → Ii → Jj → Prop} {I : Ii} {J : Jj} (hq : ∀ (v : Int), P v I J → Q v I J) (h : B_X11_event_35 l1 l2 P  I J) : B_X11_event_35 l1 l2 Q  I J := by
  unfold B_X11_event_35 at h ⊢
  exact False.elim h
set_option maxHeartbeats 4000000 in
set_option maxRecDepth 100000 in
theorem fr_X11_event {l1 : Int} {l2 : Int} {P Q : Int → Ii → Jj → Prop} {I : Ii} {J : Jj} (h : wp_X11_event l1 l2 I J P) (hq : ∀ (v : Int), P v I J → Q v I J) : wp_X11_event l1 l2 I J Q := by
  unfold wp_X11_event at h ⊢
  obtain ⟨g, h⟩ := h
  refine ⟨g, ?_⟩
  refine ⟨fun c => ?_, fun c => ?_⟩
  · replace h := h.1 c
    exact fb_X11_event_15 hq h
  · replace h := h.2 c
    obtain ⟨g, h⟩ := h
    refine ⟨g, ?_⟩
    refine ⟨fun c => ?_, fun c => ?_⟩
    · replace h := h.1 c
      obtain ⟨g, h⟩ := h
      refine ⟨g, ?_⟩
      refine ⟨fun c => ?_, fun c => ?_⟩
      · replace h := h.1 c
        exact fb_X11_event_35 hq h
      · replace h := h.2 c
        refine ⟨fun c => ?_, fun c => ?_⟩
        · replace h := h.1 c
          refine fr_X11_at h (fun v h => ?_)
          exact hq _ h
        · replace h := h.2 c
          exact fb_X11_event_35 hq h
    · replace h := h.2 c
      exact fb_X11_event_15 hq h
def W_X11_transfer (k1 : Nat) : Nat → Nat → Prop := WL [(k1, 2), (k1 + 1, 1000), (k1 + 4, 1000)]
theorem W_X11_transfer_n {k1 : Nat} {k : Nat} (h : wlk [(k1, 2), (k1 + 1, 1000), (k1 + 4, 1000)] k = false := by rfl) : ∀ i, ¬ W_X11_transfer k1 k i := WL_n h
set_option maxHeartbeats 4000000 in
set_option maxRecDepth 100000 in
theorem fr_X11_transfer {k1 : Nat} {l2 : Int} {l3 : Int} {P Q : Ii → Jj → Prop} {I0 : Ii} {J0 : Jj} (h : wp_X11_transfer k1 l2 l3 I0 J0 P) (hq : ∀ (I' : Ii) (J' : Jj), P I' J' → Same (W_X11_transfer k1) I0 J0 I' J' → Q I' J') : wp_X11_transfer k1 l2 l3 I0 J0 Q := by
  have hs := Same.rf (W := (W_X11_transfer k1)) I0 J0
  unfold wp_X11_transfer at h ⊢
  obtain ⟨g, h⟩ := h
  refine ⟨g, ?_⟩
  refine fr_X11_at h (fun v h => ?_)
  refine fr_X4_gainOf h (fun v h => ?_)
  refine fr_X8_note h (fun I2 J2 h hs2 => ?_)
  replace hs := hs.trans hs2 (by first | exact WL_sub rfl | exact WL_any (by simp [wls, wl, WL]))
  refine fr_X11_at h (fun v h => ?_)
  refine fr_X8_place h (fun I2 J2 h hs2 => ?_)
  replace hs := hs.trans hs2 (by first | exact WL_sub rfl | exact WL_any (by simp [wls, wl, WL]))
  exact hq _ _ h hs
def W_X11_write : Nat → Nat → Prop := WL [(100, 17), (132, 1000)]
theorem W_X11_write_n {k : Nat} (h : wlk [(100, 17), (132, 1000)] k = false := by rfl) : ∀ i, ¬ W_X11_write k i := WL_n h
set_option maxHeartbeats 4000000 in
set_option maxRecDepth 100000 in
theorem fr_X11_write {l1 : Int} {P Q : Ii → Jj → Prop} {I0 : Ii} {J0 : Jj} (h : wp_X11_write l1 I0 J0 P) (hq : ∀ (I' : Ii) (J' : Jj), P I' J' → Same (W_X11_write) I0 J0 I' J' → Q I' J') : wp_X11_write l1 I0 J0 Q := by
  have hs := Same.rf (W := (W_X11_write)) I0 J0
  unfold wp_X11_write at h ⊢
  refine fr_X11_put h (fun I2 J2 h hs2 => ?_)
  replace hs := hs.trans hs2 (WL_sub rfl)
  intro I1 e1
  replace h := h I1 e1
  replace hs := hs.upI e1 rfl
  exact hq _ _ h hs
set_option maxHeartbeats 4000000 in
set_option maxRecDepth 100000 in
theorem fb_X11_reportByte_12 {l1 : Int} {P Q : Int → Ii → Jj → Prop} {I : Ii} {J : Jj} (hq : ∀ (v : Int), P v I J → Q v I J) (h : B_X11_reportByte_12 l1 P  I J) : B_X11_reportByte_12 l1 Q  I J := by
  unfold B_X11_reportByte_12 at h ⊢
  exact False.elim h
set_option maxHeartbeats 4000000 in
set_option maxRecDepth 100000 in
theorem fr_X11_reportByte {l1 : Int} {P Q : Int → Ii → Jj → Prop} {I : Ii} {J : Jj} (h : wp_X11_reportByte l1 I J P) (hq : ∀ (v : Int), P v I J → Q v I J) : wp_X11_reportByte l1 I J Q := by
  unfold wp_X11_reportByte at h ⊢
  obtain ⟨g, h⟩ := h
  refine ⟨g, ?_⟩
  refine ⟨fun c => ?_, fun c => ?_⟩
  · replace h := h.1 c
    exact fb_X11_reportByte_12 hq h
  · replace h := h.2 c
    obtain ⟨g, h⟩ := h
    refine ⟨g, ?_⟩
    refine ⟨fun c => ?_, fun c => ?_⟩
    · replace h := h.1 c
      refine fr_X11_at h (fun v h => ?_)
      exact hq _ h
    · replace h := h.2 c
      exact fb_X11_reportByte_12 hq h
def W_X11_copy (k0 : Nat) (k1 : Nat) : Nat → Nat → Prop := WL [(k1, 1000)]
theorem W_X11_copy_n {k0 : Nat} {k1 : Nat} {k : Nat} (h : wlk [(k1, 1000)] k = false := by rfl) : ∀ i, ¬ W_X11_copy k0 k1 k i := WL_n h
set_option maxHeartbeats 4000000 in
set_option maxRecDepth 100000 in
theorem fr_X11_copy {k0 : Nat} {k1 : Nat} {P Q : Ii → Jj → Prop} {I0 : Ii} {J0 : Jj} (h : wp_X11_copy k0 k1 I0 J0 P) (hq : ∀ (I' : Ii) (J' : Jj), P I' J' → Same (W_X11_copy k0 k1) I0 J0 I' J' → Q I' J') : wp_X11_copy k0 k1 I0 J0 Q := by
  have hs := Same.rf (W := (W_X11_copy k0 k1)) I0 J0
  unfold wp_X11_copy at h ⊢
  obtain ⟨g, h⟩ := h
  refine ⟨g, ?_⟩
  obtain ⟨g, h⟩ := h
  refine ⟨g, ?_⟩
  refine fr_J9_min_7cf53 h (fun v h => ?_)
  obtain ⟨g, h⟩ := h
  refine ⟨g, ?_⟩
  intro I1 e1
  replace h := h I1 e1
  replace hs := hs.uprI e1 (fun i => (by first | rfl | simp [W_X11_copy, WL, wl]))
  exact hq _ _ h hs
def W_X0_advance : Nat → Nat → Prop := WL [(125, 1000)]
theorem W_X0_advance_n {k : Nat} (h : wlk [(125, 1000)] k = false := by rfl) : ∀ i, ¬ W_X0_advance k i := WL_n h
theorem ls_X0_advance_7 {Q : Int → Ii → Jj → Prop} {n : Nat} {l2 : Int} {I : Ii} {J : Jj} (h : Lb_X0_advance_7 Q (L_X0_advance_7 Q n) l2 I J) : L_X0_advance_7 Q (n + 1) l2 I J := h
set_option maxHeartbeats 4000000 in
set_option maxRecDepth 100000 in
theorem fl_X0_advance_7 {P Q : Int → Ii → Jj → Prop} {I0 : Ii} {J0 : Jj} (hq : ∀ (v : Int) (I' : Ii) (J' : Jj), P v I' J' → Same (W_X0_advance) I0 J0 I' J' → Q v I' J') : ∀ (n : Nat) (l2 : Int) (I : Ii) (J : Jj), L_X0_advance_7 P n l2 I J → Same (W_X0_advance) I0 J0 I J → L_X0_advance_7 Q n l2 I J := by
  intro n
  induction n with
  | zero => intro l2 I J h _; exact h
  | succ n ih =>
    intro l2 I J h hs
    have h : Lb_X0_advance_7 P (L_X0_advance_7 P n) l2 I J := h
    show Lb_X0_advance_7 Q (L_X0_advance_7 Q n) l2 I J
    have hr7 := ih
    clear ih
    unfold Lb_X0_advance_7 at h ⊢
    obtain ⟨g, h⟩ := h
    refine ⟨g, ?_⟩
    refine ⟨fun c => ?_, fun c => ?_⟩
    · replace h := h.1 c
      exact hq _ _ _ h hs
    · replace h := h.2 c
      refine fr_X0_highestBefore h (fun v h => ?_)
      refine fr_J9_min_7cf53 h (fun v h => ?_)
      refine fr_X11_at h (fun v h => ?_)
      obtain ⟨g, h⟩ := h
      refine ⟨g, ?_⟩
      obtain ⟨g, h⟩ := h
      refine ⟨g, ?_⟩
      refine ⟨fun c => ?_, fun c => ?_⟩
      · replace h := h.1 c
        refine fr_X11_put h (fun I2 J2 h hs2 => ?_)
        replace hs := hs.trans hs2 (WL_sub rfl)
        exact hr7 _ _ _ h hs
      · replace h := h.2 c
        refine fr_X11_add h (fun I2 J2 h hs2 => ?_)
        replace hs := hs.trans hs2 (WL_sub rfl)
        exact hq _ _ _ h hs
set_option maxHeartbeats 4000000 in
set_option maxRecDepth 100000 in
theorem fr_X0_advance {P Q : Int → Ii → Jj → Prop} {I0 : Ii} {J0 : Jj} (h : wp_X0_advance I0 J0 P) (hq : ∀ (v : Int) (I' : Ii) (J' : Jj), P v I' J' → Same (W_X0_advance) I0 J0 I' J' → Q v I' J') : wp_X0_advance I0 J0 Q := by
  have hs := Same.rf (W := (W_X0_advance)) I0 J0
  unfold wp_X0_advance at h ⊢
  obtain ⟨n, h⟩ := h
  exact ⟨n, fl_X0_advance_7 hq n _ _ _ h hs⟩
def W_X1_run (k1 : Nat) : Nat → Nat → Prop := WL [(128, 3), (128, 4), (128, 5), (129, 1000), (130, 1000), (131, 1000)]
theorem W_X1_run_n {k1 : Nat} {k : Nat} (h : wlk [(128, 3), (128, 4), (128, 5), (129, 1000), (130, 1000), (131, 1000)] k = false := by rfl) : ∀ i, ¬ W_X1_run k1 k i := WL_n h
theorem ls_X1_run_13 {k1 : Nat} {l2 : Int} {l3 : Int} {Q : Ii → Jj → Prop} {n : Nat} {l4 : Int} {I : Ii} {J : Jj} (h : Lb_X1_run_13 k1 l2 l3 Q (L_X1_run_13 k1 l2 l3 Q n) l4 I J) : L_X1_run_13 k1 l2 l3 Q (n + 1) l4 I J := h
set_option maxHeartbeats 4000000 in
set_option maxRecDepth 100000 in
theorem fl_X1_run_13 {k1 : Nat} {l2 : Int} {l3 : Int} {P Q : Ii → Jj → Prop} {I0 : Ii} {J0 : Jj} (hq : ∀ (I' : Ii) (J' : Jj), P I' J' → Same (W_X1_run k1) I0 J0 I' J' → Q I' J') : ∀ (n : Nat) (l4 : Int) (I : Ii) (J : Jj), L_X1_run_13 k1 l2 l3 P n l4 I J → Same (W_X1_run k1) I0 J0 I J → L_X1_run_13 k1 l2 l3 Q n l4 I J := by
  intro n
  induction n with
  | zero => intro l4 I J h _; exact h
  | succ n ih =>
    intro l4 I J h hs
    have h : Lb_X1_run_13 k1 l2 l3 P (L_X1_run_13 k1 l2 l3 P n) l4 I J := h
    show Lb_X1_run_13 k1 l2 l3 Q (L_X1_run_13 k1 l2 l3 Q n) l4 I J
    have hr13 := ih
    clear ih
    unfold Lb_X1_run_13 at h ⊢
    obtain ⟨g, h⟩ := h
    refine ⟨g, ?_⟩
    refine ⟨fun c => ?_, fun c => ?_⟩
    · replace h := h.1 c
      exact hq _ _ h hs
    · replace h := h.2 c
      refine fr_X1_findWay h (fun v I2 J2 h hs2 => ?_)
      replace hs := hs.trans hs2 (by first | exact WL_sub rfl | exact WL_any (by simp [wls, wl, WL]))
      refine ⟨fun c => ?_, fun c => ?_⟩
      · replace h := h.1 c
        exact hq _ _ h hs
      · replace h := h.2 c
        refine fr_X1_useWay h (fun v I2 J2 h hs2 => ?_)
        replace hs := hs.trans hs2 (by first | exact WL_sub rfl | exact WL_any (by simp [wls, wl, WL]))
        intro I1 e1
        replace h := h I1 e1
        replace hs := hs.upI e1 (by first | rfl | simp [W_X1_run, WL, wl])
        exact hr13 _ _ _ h hs
set_option maxHeartbeats 4000000 in
set_option maxRecDepth 100000 in
theorem fr_X1_run {k1 : Nat} {l2 : Int} {l3 : Int} {P Q : Ii → Jj → Prop} {I0 : Ii} {J0 : Jj} (h : wp_X1_run k1 l2 l3 I0 J0 P) (hq : ∀ (I' : Ii) (J' : Jj), P I' J' → Same (W_X1_run k1) I0 J0 I' J' → Q I' J') : wp_X1_run k1 l2 l3 I0 J0 Q := by
  have hs := Same.rf (W := (W_X1_run k1)) I0 J0
  unfold wp_X1_run at h ⊢
  obtain ⟨g, h⟩ := h
  refine ⟨g, ?_⟩
  refine fr_X1_fillRooms h (fun I2 J2 h hs2 => ?_)
  replace hs := hs.trans hs2 (by first | exact WL_sub rfl | exact WL_any (by simp [wls, wl, WL]))
  intro I1 e1
  replace h := h I1 e1
  replace hs := hs.upI e1 (by first | rfl | simp [W_X1_run, WL, wl])
  obtain ⟨n, h⟩ := h
  exact ⟨n, fl_X1_run_13 hq n _ _ _ h hs⟩
def W_X2_copyFrom (k0 : Nat) (k1 : Nat) : Nat → Nat → Prop := WL [(k0, 0), (k0, 1), (k0, 2), (k0, 3), (k0, 4), (k0, 5), (k0, 6), (k0 + 1, 1000), (k0 + 2, 1000), (k0 + 3, 1000), (k0 + 4, 1000), (k0 + 5, 1000)]
theorem W_X2_copyFrom_n {k0 : Nat} {k1 : Nat} {k : Nat} (h : wlk [(k0, 0), (k0, 1), (k0, 2), (k0, 3), (k0, 4), (k0, 5), (k0, 6), (k0 + 1, 1000), (k0 + 2, 1000), (k0 + 3, 1000), (k0 + 4, 1000), (k0 + 5, 1000)] k = false := by rfl) : ∀ i, ¬ W_X2_copyFrom k0 k1 k i := WL_n h
set_option maxHeartbeats 4000000 in
set_option maxRecDepth 100000 in
theorem fr_X2_copyFrom {k0 : Nat} {k1 : Nat} {P Q : Ii → Jj → Prop} {I0 : Ii} {J0 : Jj} (h : wp_X2_copyFrom k0 k1 I0 J0 P) (hq : ∀ (I' : Ii) (J' : Jj), P I' J' → Same (W_X2_copyFrom k0 k1) I0 J0 I' J' → Q I' J') : wp_X2_copyFrom k0 k1 I0 J0 Q := by
  have hs := Same.rf (W := (W_X2_copyFrom k0 k1)) I0 J0
  unfold wp_X2_copyFrom at h ⊢
  obtain ⟨g, h⟩ := h
  refine ⟨g, ?_⟩
  obtain ⟨g, h⟩ := h
  refine ⟨g, ?_⟩
  intro I1 e1
  replace h := h I1 e1
  replace hs := hs.upI e1 (by first | rfl | simp [W_X2_copyFrom, WL, wl])
  intro I1 e1
  replace h := h I1 e1
  replace hs := hs.upI e1 (by first | rfl | simp [W_X2_copyFrom, WL, wl])
  intro I1 e1
  replace h := h I1 e1
  replace hs := hs.upI e1 (by first | rfl | simp [W_X2_copyFrom, WL, wl])
  intro I1 e1
  replace h := h I1 e1
  replace hs := hs.upI e1 (by first | rfl | simp [W_X2_copyFrom, WL, wl])
  intro I1 e1
  replace h := h I1 e1
  replace hs := hs.upI e1 (by first | rfl | simp [W_X2_copyFrom, WL, wl])
  intro I1 e1
  replace h := h I1 e1
  replace hs := hs.upI e1 (by first | rfl | simp [W_X2_copyFrom, WL, wl])
  intro I1 e1
  replace h := h I1 e1
  replace hs := hs.upI e1 (by first | rfl | simp [W_X2_copyFrom, WL, wl])
  obtain ⟨g, h⟩ := h
  refine ⟨g, ?_⟩
  intro I1 e1
  replace h := h I1 e1
  replace hs := hs.uprJ e1 (fun i => (by first | rfl | simp [W_X2_copyFrom, WL, wl]))
  refine fr_X11_copy h (fun I2 J2 h hs2 => ?_)
  replace hs := hs.trans hs2 (by first | exact WL_sub rfl | exact WL_any (by simp [wls, wl, WL]))
  refine fr_X11_copy h (fun I2 J2 h hs2 => ?_)
  replace hs := hs.trans hs2 (by first | exact WL_sub rfl | exact WL_any (by simp [wls, wl, WL]))
  refine fr_X11_copy h (fun I2 J2 h hs2 => ?_)
  replace hs := hs.trans hs2 (by first | exact WL_sub rfl | exact WL_any (by simp [wls, wl, WL]))
  refine fr_X11_copy h (fun I2 J2 h hs2 => ?_)
  replace hs := hs.trans hs2 (by first | exact WL_sub rfl | exact WL_any (by simp [wls, wl, WL]))
  exact hq _ _ h hs
theorem ls_X2_edgeOf_18 {k0 : Nat} {l1 : Int} {l2 : Int} {Q : Int → Ii → Jj → Prop} {n : Nat} {l3 : Int} {l4 : Int} {I : Ii} {J : Jj} (h : Lb_X2_edgeOf_18 k0 l1 l2 Q (L_X2_edgeOf_18 k0 l1 l2 Q n) l3 l4 I J) : L_X2_edgeOf_18 k0 l1 l2 Q (n + 1) l3 l4 I J := h
set_option maxHeartbeats 4000000 in
set_option maxRecDepth 100000 in
theorem fl_X2_edgeOf_18 {k0 : Nat} {l1 : Int} {l2 : Int} {P Q : Int → Ii → Jj → Prop} {I : Ii} {J : Jj} (hq : ∀ (v : Int), P v I J → Q v I J) : ∀ (n : Nat) (l3 : Int) (l4 : Int), L_X2_edgeOf_18 k0 l1 l2 P n l3 l4 I J → L_X2_edgeOf_18 k0 l1 l2 Q n l3 l4 I J := by
  intro n
  induction n with
  | zero => intro l3 l4 h; exact h
  | succ n ih =>
    intro l3 l4 h
    have h : Lb_X2_edgeOf_18 k0 l1 l2 P (L_X2_edgeOf_18 k0 l1 l2 P n) l3 l4 I J := h
    show Lb_X2_edgeOf_18 k0 l1 l2 Q (L_X2_edgeOf_18 k0 l1 l2 Q n) l3 l4 I J
    have hr18 := ih
    clear ih
    unfold Lb_X2_edgeOf_18 at h ⊢
    obtain ⟨g, h⟩ := h
    refine ⟨g, ?_⟩
    obtain ⟨g, h⟩ := h
    refine ⟨g, ?_⟩
    refine ⟨fun c => ?_, fun c => ?_⟩
    · replace h := h.1 c
      exact hq _ h
    · replace h := h.2 c
      refine fr_X2_endsOf h (fun v h => ?_)
      obtain ⟨g, h⟩ := h
      refine ⟨g, ?_⟩
      obtain ⟨g, h⟩ := h
      refine ⟨g, ?_⟩
      refine ⟨fun c => ?_, fun c => ?_⟩
      · replace h := h.1 c
        exact hr18 _ _ h
      · replace h := h.2 c
        exact hq _ h
set_option maxHeartbeats 4000000 in
set_option maxRecDepth 100000 in
theorem fr_X2_edgeOf {k0 : Nat} {l1 : Int} {l2 : Int} {P Q : Int → Ii → Jj → Prop} {I : Ii} {J : Jj} (h : wp_X2_edgeOf k0 l1 l2 I J P) (hq : ∀ (v : Int), P v I J → Q v I J) : wp_X2_edgeOf k0 l1 l2 I J Q := by
  unfold wp_X2_edgeOf at h ⊢
  obtain ⟨g, h⟩ := h
  refine ⟨g, ?_⟩
  obtain ⟨g, h⟩ := h
  refine ⟨g, ?_⟩
  obtain ⟨g, h⟩ := h
  refine ⟨g, ?_⟩
  refine ⟨fun c => ?_, fun c => ?_⟩
  · replace h := h.1 c
    obtain ⟨n, h⟩ := h
    exact ⟨n, fl_X2_edgeOf_18 hq n _ _ h⟩
  · replace h := h.2 c
    exact hq _ h
def W_X4_take (k1 : Nat) (k2 : Nat) : Nat → Nat → Prop := WL [(113, 0), (113, 1), (113, 2), (113, 3), (113, 4), (113, 5), (114, 1000), (115, 1000), (116, 1000), (117, 1000), (118, 1000), (119, 1000)]
theorem W_X4_take_n {k1 : Nat} {k2 : Nat} {k : Nat} (h : wlk [(113, 0), (113, 1), (113, 2), (113, 3), (113, 4), (113, 5), (114, 1000), (115, 1000), (116, 1000), (117, 1000), (118, 1000), (119, 1000)] k = false := by rfl) : ∀ i, ¬ W_X4_take k1 k2 k i := WL_n h
theorem ls_X4_take_51 {k1 : Nat} {k2 : Nat} {Q : Ii → Jj → Prop} {n : Nat} {l3 : Int} {I : Ii} {J : Jj} (h : Lb_X4_take_51 k1 k2 Q (L_X4_take_51 k1 k2 Q n) l3 I J) : L_X4_take_51 k1 k2 Q (n + 1) l3 I J := h
set_option maxHeartbeats 4000000 in
set_option maxRecDepth 100000 in
theorem fl_X4_take_51 {k1 : Nat} {k2 : Nat} {P Q : Ii → Jj → Prop} {I0 : Ii} {J0 : Jj} (hq : ∀ (I' : Ii) (J' : Jj), P I' J' → Same (W_X4_take k1 k2) I0 J0 I' J' → Q I' J') : ∀ (n : Nat) (l3 : Int) (I : Ii) (J : Jj), L_X4_take_51 k1 k2 P n l3 I J → Same (W_X4_take k1 k2) I0 J0 I J → L_X4_take_51 k1 k2 Q n l3 I J := by
  intro n
  induction n with
  | zero => intro l3 I J h _; exact h
  | succ n ih =>
    intro l3 I J h hs
    have h : Lb_X4_take_51 k1 k2 P (L_X4_take_51 k1 k2 P n) l3 I J := h
    show Lb_X4_take_51 k1 k2 Q (L_X4_take_51 k1 k2 Q n) l3 I J
    have hr51 := ih
    clear ih
    unfold Lb_X4_take_51 at h ⊢
    obtain ⟨g, h⟩ := h
    refine ⟨g, ?_⟩
    obtain ⟨g, h⟩ := h
    refine ⟨g, ?_⟩
    refine ⟨fun c => ?_, fun c => ?_⟩
    · replace h := h.1 c
      exact hq _ _ h hs
    · replace h := h.2 c
      refine fr_X11_at h (fun v h => ?_)
      refine fr_X4_debtAt h (fun v h => ?_)
      intro I1 e1
      replace h := h I1 e1
      replace hs := hs.upI e1 (by first | rfl | simp [W_X4_take, WL, wl])
      exact hr51 _ _ _ h hs
set_option maxHeartbeats 4000000 in
set_option maxRecDepth 100000 in
theorem fr_X4_take {k1 : Nat} {k2 : Nat} {P Q : Ii → Jj → Prop} {I0 : Ii} {J0 : Jj} (h : wp_X4_take k1 k2 I0 J0 P) (hq : ∀ (I' : Ii) (J' : Jj), P I' J' → Same (W_X4_take k1 k2) I0 J0 I' J' → Q I' J') : wp_X4_take k1 k2 I0 J0 Q := by
  have hs := Same.rf (W := (W_X4_take k1 k2)) I0 J0
  unfold wp_X4_take at h ⊢
  obtain ⟨g, h⟩ := h
  refine ⟨g, ?_⟩
  obtain ⟨g, h⟩ := h
  refine ⟨g, ?_⟩
  refine fr_X8_groupCount h (fun v h => ?_)
  intro I1 e1
  replace h := h I1 e1
  replace hs := hs.upI e1 (by first | rfl | simp [W_X4_take, WL, wl])
  intro I1 e1
  replace h := h I1 e1
  replace hs := hs.upI e1 (by first | rfl | simp [W_X4_take, WL, wl])
  refine fr_X2_limit h (fun v h => ?_)
  intro I1 e1
  replace h := h I1 e1
  replace hs := hs.upI e1 (by first | rfl | simp [W_X4_take, WL, wl])
  intro I1 e1
  replace h := h I1 e1
  replace hs := hs.upI e1 (by first | rfl | simp [W_X4_take, WL, wl])
  refine fr_X4_takeVertices h (fun I2 J2 h hs2 => ?_)
  replace hs := hs.trans hs2 (by first | exact WL_sub rfl | exact WL_any (by simp [wls, wl, WL]))
  refine fr_X4_takeEdges h (fun I2 J2 h hs2 => ?_)
  replace hs := hs.trans hs2 (by first | exact WL_sub rfl | exact WL_any (by simp [wls, wl, WL]))
  intro I1 e1
  replace h := h I1 e1
  replace hs := hs.upI e1 (by first | rfl | simp [W_X4_take, WL, wl])
  obtain ⟨n, h⟩ := h
  exact ⟨n, fl_X4_take_51 hq n _ _ _ h hs⟩
set_option maxHeartbeats 4000000 in
set_option maxRecDepth 100000 in
theorem fb_X4_chosenStep_16 {P Q : Int → Ii → Jj → Prop} {I : Ii} {J : Jj} (hq : ∀ (v : Int), P v I J → Q v I J) {t0 : Int} (h : B_X4_chosenStep_16 P t0 I J) : B_X4_chosenStep_16 Q t0 I J := by
  unfold B_X4_chosenStep_16 at h ⊢
  obtain ⟨g, h⟩ := h
  refine ⟨g, ?_⟩
  refine ⟨fun c => ?_, fun c => ?_⟩
  · replace h := h.1 c
    refine fr_X4_greatestGain h (fun v h => ?_)
    exact hq _ h
  · replace h := h.2 c
    exact hq _ h
set_option maxHeartbeats 4000000 in
set_option maxRecDepth 100000 in
theorem fr_X4_chosenStep {P Q : Int → Ii → Jj → Prop} {I : Ii} {J : Jj} (h : wp_X4_chosenStep I J P) (hq : ∀ (v : Int), P v I J → Q v I J) : wp_X4_chosenStep I J Q := by
  unfold wp_X4_chosenStep at h ⊢
  obtain ⟨g, h⟩ := h
  refine ⟨g, ?_⟩
  refine ⟨fun c => ?_, fun c => ?_⟩
  · replace h := h.1 c
    exact fb_X4_chosenStep_16 hq h
  · replace h := h.2 c
    refine fr_X4_greatestGain h (fun v h => ?_)
    exact fb_X4_chosenStep_16 hq h
def W_X5_findMates : Nat → Nat → Prop := WL [(120, 4), (122, 1000)]
theorem W_X5_findMates_n {k : Nat} (h : wlk [(120, 4), (122, 1000)] k = false := by rfl) : ∀ i, ¬ W_X5_findMates k i := WL_n h
set_option maxHeartbeats 4000000 in
set_option maxRecDepth 100000 in
theorem fb_X5_findMates_45 {P Q : Ii → Jj → Prop} {I0 : Ii} {J0 : Jj} (hq : ∀ (I' : Ii) (J' : Jj), P I' J' → Same (W_X5_findMates) I0 J0 I' J' → Q I' J') {r15 q15 : Int → Ii → Jj → Prop} (hr15 : ∀ (l2 : Int) (I' : Ii) (J' : Jj), r15 l2 I' J' → Same (W_X5_findMates) I0 J0 I' J' → q15 l2 I' J') {l2 : Int} {t0 : Int} {I : Ii} {J : Jj} (h : B_X5_findMates_45 P r15 l2 t0 I J) (hs : Same (W_X5_findMates) I0 J0 I J) : B_X5_findMates_45 Q q15 l2 t0 I J := by
  unfold B_X5_findMates_45 at h ⊢
  obtain ⟨g, h⟩ := h
  refine ⟨g, ?_⟩
  refine ⟨fun c => ?_, fun c => ?_⟩
  · replace h := h.1 c
    exact hr15 _ _ _ h hs
  · replace h := h.2 c
    refine fr_X11_put h (fun I2 J2 h hs2 => ?_)
    replace hs := hs.trans hs2 (WL_sub rfl)
    refine fr_X11_put h (fun I2 J2 h hs2 => ?_)
    replace hs := hs.trans hs2 (WL_sub rfl)
    intro I1 e1
    replace h := h I1 e1
    replace hs := hs.upI e1 rfl
    exact hr15 _ _ _ h hs
theorem ls_X5_findMates_15 {Q : Ii → Jj → Prop} {n : Nat} {l2 : Int} {I : Ii} {J : Jj} (h : Lb_X5_findMates_15 Q (L_X5_findMates_15 Q n) l2 I J) : L_X5_findMates_15 Q (n + 1) l2 I J := h
set_option maxHeartbeats 4000000 in
set_option maxRecDepth 100000 in
theorem fl_X5_findMates_15 {P Q : Ii → Jj → Prop} {I0 : Ii} {J0 : Jj} (hq : ∀ (I' : Ii) (J' : Jj), P I' J' → Same (W_X5_findMates) I0 J0 I' J' → Q I' J') : ∀ (n : Nat) (l2 : Int) (I : Ii) (J : Jj), L_X5_findMates_15 P n l2 I J → Same (W_X5_findMates) I0 J0 I J → L_X5_findMates_15 Q n l2 I J := by
  intro n
  induction n with
  | zero => intro l2 I J h _; exact h
  | succ n ih =>
    intro l2 I J h hs
    have h : Lb_X5_findMates_15 P (L_X5_findMates_15 P n) l2 I J := h
    show Lb_X5_findMates_15 Q (L_X5_findMates_15 Q n) l2 I J
    have hr15 := ih
    clear ih
    unfold Lb_X5_findMates_15 at h ⊢
    obtain ⟨g, h⟩ := h
    refine ⟨g, ?_⟩
    obtain ⟨g, h⟩ := h
    refine ⟨g, ?_⟩
    refine ⟨fun c => ?_, fun c => ?_⟩
    · replace h := h.1 c
      exact hq _ _ h hs
    · replace h := h.2 c
      refine fr_X11_at h (fun v h => ?_)
      obtain ⟨g, h⟩ := h
      refine ⟨g, ?_⟩
      refine ⟨fun c => ?_, fun c => ?_⟩
      · replace h := h.1 c
        exact fb_X5_findMates_45 hq hr15 h hs
      · replace h := h.2 c
        refine fr_X5_mateBehind h (fun v h => ?_)
        exact fb_X5_findMates_45 hq hr15 h hs
set_option maxHeartbeats 4000000 in
set_option maxRecDepth 100000 in
theorem fr_X5_findMates {P Q : Ii → Jj → Prop} {I0 : Ii} {J0 : Jj} (h : wp_X5_findMates I0 J0 P) (hq : ∀ (I' : Ii) (J' : Jj), P I' J' → Same (W_X5_findMates) I0 J0 I' J' → Q I' J') : wp_X5_findMates I0 J0 Q := by
  have hs := Same.rf (W := (W_X5_findMates)) I0 J0
  unfold wp_X5_findMates at h ⊢
  refine fr_J7_fill_53178 h (fun I2 J2 h hs2 => ?_)
  replace hs := hs.trans hs2 (WL_sub rfl)
  intro I1 e1
  replace h := h I1 e1
  replace hs := hs.upI e1 rfl
  obtain ⟨n, h⟩ := h
  exact ⟨n, fl_X5_findMates_15 hq n _ _ _ h hs⟩
def W_X6_addCommand : Nat → Nat → Prop := WL [(106, 4), (106, 5), (107, 1000), (108, 1000), (109, 1000)]
theorem W_X6_addCommand_n {k : Nat} (h : wlk [(106, 4), (106, 5), (107, 1000), (108, 1000), (109, 1000)] k = false := by rfl) : ∀ i, ¬ W_X6_addCommand k i := WL_n h
set_option maxHeartbeats 4000000 in
set_option maxRecDepth 100000 in
theorem fr_X6_addCommand {l1 : Int} {l2 : Int} {l3 : Int} {P Q : Ii → Jj → Prop} {I0 : Ii} {J0 : Jj} (h : wp_X6_addCommand l1 l2 l3 I0 J0 P) (hq : ∀ (I' : Ii) (J' : Jj), P I' J' → Same (W_X6_addCommand) I0 J0 I' J' → Q I' J') : wp_X6_addCommand l1 l2 l3 I0 J0 Q := by
  have hs := Same.rf (W := (W_X6_addCommand)) I0 J0
  unfold wp_X6_addCommand at h ⊢
  intro I1 e1
  replace h := h I1 e1
  replace hs := hs.upI e1 rfl
  refine fr_X6_append h (fun I2 J2 h hs2 => ?_)
  replace hs := hs.trans hs2 (WL_sub rfl)
  exact hq _ _ h hs
def W_X6_addClose : Nat → Nat → Prop := WL [(106, 4), (107, 1000), (108, 1000), (109, 1000)]
theorem W_X6_addClose_n {k : Nat} (h : wlk [(106, 4), (107, 1000), (108, 1000), (109, 1000)] k = false := by rfl) : ∀ i, ¬ W_X6_addClose k i := WL_n h
set_option maxHeartbeats 4000000 in
set_option maxRecDepth 100000 in
theorem fr_X6_addClose {l1 : Int} {P Q : Ii → Jj → Prop} {I0 : Ii} {J0 : Jj} (h : wp_X6_addClose l1 I0 J0 P) (hq : ∀ (I' : Ii) (J' : Jj), P I' J' → Same (W_X6_addClose) I0 J0 I' J' → Q I' J') : wp_X6_addClose l1 I0 J0 Q := by
  have hs := Same.rf (W := (W_X6_addClose)) I0 J0
  unfold wp_X6_addClose at h ⊢
  refine fr_X6_append h (fun I2 J2 h hs2 => ?_)
  replace hs := hs.trans hs2 (WL_sub rfl)
  exact hq _ _ h hs
def W_X8_copyFrom (k0 : Nat) (k1 : Nat) : Nat → Nat → Prop := WL [(k0, 0), (k0, 1), (k0, 2), (k0 + 1, 1000), (k0 + 2, 1000), (k0 + 3, 1000), (k0 + 4, 1000)]
theorem W_X8_copyFrom_n {k0 : Nat} {k1 : Nat} {k : Nat} (h : wlk [(k0, 0), (k0, 1), (k0, 2), (k0 + 1, 1000), (k0 + 2, 1000), (k0 + 3, 1000), (k0 + 4, 1000)] k = false := by rfl) : ∀ i, ¬ W_X8_copyFrom k0 k1 k i := WL_n h
set_option maxHeartbeats 4000000 in
set_option maxRecDepth 100000 in
theorem fr_X8_copyFrom {k0 : Nat} {k1 : Nat} {P Q : Ii → Jj → Prop} {I0 : Ii} {J0 : Jj} (h : wp_X8_copyFrom k0 k1 I0 J0 P) (hq : ∀ (I' : Ii) (J' : Jj), P I' J' → Same (W_X8_copyFrom k0 k1) I0 J0 I' J' → Q I' J') : wp_X8_copyFrom k0 k1 I0 J0 Q := by
  have hs := Same.rf (W := (W_X8_copyFrom k0 k1)) I0 J0
  unfold wp_X8_copyFrom at h ⊢
  obtain ⟨g, h⟩ := h
  refine ⟨g, ?_⟩
  obtain ⟨g, h⟩ := h
  refine ⟨g, ?_⟩
  intro I1 e1
  replace h := h I1 e1
  replace hs := hs.upI e1 (by first | rfl | simp [W_X8_copyFrom, WL, wl])
  intro I1 e1
  replace h := h I1 e1
  replace hs := hs.upI e1 (by first | rfl | simp [W_X8_copyFrom, WL, wl])
  intro I1 e1
  replace h := h I1 e1
  replace hs := hs.upI e1 (by first | rfl | simp [W_X8_copyFrom, WL, wl])
  refine fr_X11_copy h (fun I2 J2 h hs2 => ?_)
  replace hs := hs.trans hs2 (by first | exact WL_sub rfl | exact WL_any (by simp [wls, wl, WL]))
  refine fr_X11_copy h (fun I2 J2 h hs2 => ?_)
  replace hs := hs.trans hs2 (by first | exact WL_sub rfl | exact WL_any (by simp [wls, wl, WL]))
  refine fr_X11_copy h (fun I2 J2 h hs2 => ?_)
  replace hs := hs.trans hs2 (by first | exact WL_sub rfl | exact WL_any (by simp [wls, wl, WL]))
  refine fr_X11_copy h (fun I2 J2 h hs2 => ?_)
  replace hs := hs.trans hs2 (by first | exact WL_sub rfl | exact WL_any (by simp [wls, wl, WL]))
  exact hq _ _ h hs
def W_X10_advance : Nat → Nat → Prop := WL [(101, 3), (101, 4), (101, 5), (101, 6), (101, 7)]
theorem W_X10_advance_n {k : Nat} (h : wlk [(101, 3), (101, 4), (101, 5), (101, 6), (101, 7)] k = false := by rfl) : ∀ i, ¬ W_X10_advance k i := WL_n h
set_option maxHeartbeats 4000000 in
set_option maxRecDepth 100000 in
theorem fb_X10_advance_41 {P Q : Ii → Jj → Prop} {I0 : Ii} {J0 : Jj} (hq : ∀ (I' : Ii) (J' : Jj), P I' J' → Same (W_X10_advance) I0 J0 I' J' → Q I' J') {I : Ii} {J : Jj} (h : B_X10_advance_41 P  I J) (hs : Same (W_X10_advance) I0 J0 I J) : B_X10_advance_41 Q  I J := by
  unfold B_X10_advance_41 at h ⊢
  intro I1 e1
  replace h := h I1 e1
  replace hs := hs.upI e1 rfl
  obtain ⟨g, h⟩ := h
  refine ⟨g, ?_⟩
  obtain ⟨g, h⟩ := h
  refine ⟨g, ?_⟩
  refine ⟨fun c => ?_, fun c => ?_⟩
  · replace h := h.1 c
    refine fr_X11_at h (fun v h => ?_)
    refine fr_X10_isLetter h (fun v h => ?_)
    refine ⟨fun c => ?_, fun c => ?_⟩
    · replace h := h.1 c
      refine fr_X10_isDigit h (fun v h => ?_)
      refine ⟨fun c => ?_, fun c => ?_⟩
      · replace h := h.1 c
        refine fr_X10_signKind h (fun v h => ?_)
        intro I1 e1
        replace h := h I1 e1
        replace hs := hs.upI e1 rfl
        intro I1 e1
        replace h := h I1 e1
        replace hs := hs.upI e1 rfl
        exact hq _ _ h hs
      · replace h := h.2 c
        refine fr_X10_takeNumber h (fun I2 J2 h hs2 => ?_)
        replace hs := hs.trans hs2 (WL_sub rfl)
        exact hq _ _ h hs
    · replace h := h.2 c
      refine fr_X10_takeWord h (fun I2 J2 h hs2 => ?_)
      replace hs := hs.trans hs2 (WL_sub rfl)
      exact hq _ _ h hs
  · replace h := h.2 c
    intro I1 e1
    replace h := h I1 e1
    replace hs := hs.upI e1 rfl
    exact hq _ _ h hs
theorem ls_X10_advance_0 {Q : Ii → Jj → Prop} {n : Nat} {I : Ii} {J : Jj} (h : Lb_X10_advance_0 Q (L_X10_advance_0 Q n)  I J) : L_X10_advance_0 Q (n + 1)  I J := h
set_option maxHeartbeats 4000000 in
set_option maxRecDepth 100000 in
theorem fl_X10_advance_0 {P Q : Ii → Jj → Prop} {I0 : Ii} {J0 : Jj} (hq : ∀ (I' : Ii) (J' : Jj), P I' J' → Same (W_X10_advance) I0 J0 I' J' → Q I' J') : ∀ (n : Nat)  (I : Ii) (J : Jj), L_X10_advance_0 P n  I J → Same (W_X10_advance) I0 J0 I J → L_X10_advance_0 Q n  I J := by
  intro n
  induction n with
  | zero => intro  I J h _; exact h
  | succ n ih =>
    intro  I J h hs
    have h : Lb_X10_advance_0 P (L_X10_advance_0 P n)  I J := h
    show Lb_X10_advance_0 Q (L_X10_advance_0 Q n)  I J
    have hr0 := ih
    clear ih
    unfold Lb_X10_advance_0 at h ⊢
    obtain ⟨g, h⟩ := h
    refine ⟨g, ?_⟩
    obtain ⟨g, h⟩ := h
    refine ⟨g, ?_⟩
    refine ⟨fun c => ?_, fun c => ?_⟩
    · replace h := h.1 c
      exact fb_X10_advance_41 hq h hs
    · replace h := h.2 c
      refine fr_X11_at h (fun v h => ?_)
      refine fr_X10_isBlank h (fun v h => ?_)
      refine ⟨fun c => ?_, fun c => ?_⟩
      · replace h := h.1 c
        exact fb_X10_advance_41 hq h hs
      · replace h := h.2 c
        intro I1 e1
        replace h := h I1 e1
        replace hs := hs.upI e1 rfl
        exact hr0 _ _ h hs
set_option maxHeartbeats 4000000 in
set_option maxRecDepth 100000 in
theorem fr_X10_advance {P Q : Ii → Jj → Prop} {I0 : Ii} {J0 : Jj} (h : wp_X10_advance I0 J0 P) (hq : ∀ (I' : Ii) (J' : Jj), P I' J' → Same (W_X10_advance) I0 J0 I' J' → Q I' J') : wp_X10_advance I0 J0 Q := by
  have hs := Same.rf (W := (W_X10_advance)) I0 J0
  unfold wp_X10_advance at h ⊢
  obtain ⟨n, h⟩ := h
  exact ⟨n, fl_X10_advance_0 hq n _ _ h hs⟩

