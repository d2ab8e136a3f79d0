def W_X12_laysMates : Nat → Nat → Prop := WL [(10, 1000)]
theorem W_X12_laysMates_n {k : Nat} (h : wlk [(10, 1000)] k = false := by rfl) : ∀ i, ¬ W_X12_laysMates k i := WL_n h
set_option maxHeartbeats 4000000 in
set_option maxRecDepth 100000 in
theorem fb_X12_laysMates_52 {P Q : Int → Ii → Jj → Prop} {I0 : Ii} {J0 : Jj} (hq : ∀ (v : Int) (I' : Ii) (J' : Jj), P v I' J' → Same (W_X12_laysMates) I0 J0 I' J' → Q v I' J') {r25 q25 : Int → Int → Ii → Jj → Prop} (hr25 : ∀ (l1 : Int) (l2 : Int) (I' : Ii) (J' : Jj), r25 l1 l2 I' J' → Same (W_X12_laysMates) I0 J0 I' J' → q25 l1 l2 I' J') {l1 : Int} {l2 : Int} {t0 : Int} {I : Ii} {J : Jj} (h : B_X12_laysMates_52 P r25 l1 l2 t0 I J) (hs : Same (W_X12_laysMates) I0 J0 I J) : B_X12_laysMates_52 Q q25 l1 l2 t0 I J := by
  unfold B_X12_laysMates_52 at h ⊢
  obtain ⟨g, h⟩ := h
  refine ⟨g, ?_⟩
  refine ⟨fun c => ?_, fun c => ?_⟩
  · replace h := h.1 c
    obtain ⟨g, h⟩ := h
    refine ⟨g, ?_⟩
    intro I1 e1
    replace h := h I1 e1
    replace hs := hs.upI e1 rfl
    obtain ⟨g, h⟩ := h
    refine ⟨g, ?_⟩
    intro I1 e1
    replace h := h I1 e1
    replace hs := hs.upI e1 rfl
    exact hr25 _ _ _ _ h hs
  · replace h := h.2 c
    exact hr25 _ _ _ _ h hs
theorem ls_X12_laysMates_25 {Q : Int → Ii → Jj → Prop} {n : Nat} {l1 : Int} {l2 : Int} {I : Ii} {J : Jj} (h : Lb_X12_laysMates_25 Q (L_X12_laysMates_25 Q n) l1 l2 I J) : L_X12_laysMates_25 Q (n + 1) l1 l2 I J := h
set_option maxHeartbeats 4000000 in
set_option maxRecDepth 100000 in
theorem fl_X12_laysMates_25 {P Q : Int → Ii → Jj → Prop} {I0 : Ii} {J0 : Jj} (hq : ∀ (v : Int) (I' : Ii) (J' : Jj), P v I' J' → Same (W_X12_laysMates) I0 J0 I' J' → Q v I' J') : ∀ (n : Nat) (l1 : Int) (l2 : Int) (I : Ii) (J : Jj), L_X12_laysMates_25 P n l1 l2 I J → Same (W_X12_laysMates) I0 J0 I J → L_X12_laysMates_25 Q n l1 l2 I J := by
  intro n
  induction n with
  | zero => intro l1 l2 I J h _; exact h
  | succ n ih =>
    intro l1 l2 I J h hs
    have h : Lb_X12_laysMates_25 P (L_X12_laysMates_25 P n) l1 l2 I J := h
    show Lb_X12_laysMates_25 Q (L_X12_laysMates_25 Q n) l1 l2 I J
    have hr25 := ih
    clear ih
    unfold Lb_X12_laysMates_25 at h ⊢
    refine fr_X12_groups h (fun v h => ?_)
    obtain ⟨g, h⟩ := h
    refine ⟨g, ?_⟩
    obtain ⟨g, h⟩ := h
    refine ⟨g, ?_⟩
    refine ⟨fun c => ?_, fun c => ?_⟩
    · replace h := h.1 c
      exact hq _ _ _ h hs
    · replace h := h.2 c
      obtain ⟨g, h⟩ := h
      refine ⟨g, ?_⟩
      obtain ⟨g, h⟩ := h
      refine ⟨g, ?_⟩
      refine ⟨fun c => ?_, fun c => ?_⟩
      · replace h := h.1 c
        exact fb_X12_laysMates_52 hq hr25 h hs
      · replace h := h.2 c
        refine fr_X12_mateBehind h (fun v h => ?_)
        exact fb_X12_laysMates_52 hq hr25 h hs
theorem ls_X12_laysMates_4 {Q : Int → Ii → Jj → Prop} {n : Nat} {l1 : Int} {l2 : Int} {I : Ii} {J : Jj} (h : Lb_X12_laysMates_4 Q (L_X12_laysMates_4 Q n) l1 l2 I J) : L_X12_laysMates_4 Q (n + 1) l1 l2 I J := h
set_option maxHeartbeats 4000000 in
set_option maxRecDepth 100000 in
theorem fl_X12_laysMates_4 {P Q : Int → Ii → Jj → Prop} {I0 : Ii} {J0 : Jj} (hq : ∀ (v : Int) (I' : Ii) (J' : Jj), P v I' J' → Same (W_X12_laysMates) I0 J0 I' J' → Q v I' J') : ∀ (n : Nat) (l1 : Int) (l2 : Int) (I : Ii) (J : Jj), L_X12_laysMates_4 P n l1 l2 I J → Same (W_X12_laysMates) I0 J0 I J → L_X12_laysMates_4 Q n l1 l2 I J := by
  intro n
  induction n with
  | zero => intro l1 l2 I J h _; exact h
  | succ n ih =>
    intro l1 l2 I J h hs
    have h : Lb_X12_laysMates_4 P (L_X12_laysMates_4 P n) l1 l2 I J := h
    show Lb_X12_laysMates_4 Q (L_X12_laysMates_4 Q n) l1 l2 I J
    have hr4 := ih
    clear ih
    unfold Lb_X12_laysMates_4 at h ⊢
    obtain ⟨g, h⟩ := h
    refine ⟨g, ?_⟩
    refine ⟨fun c => ?_, fun c => ?_⟩
    · replace h := h.1 c
      obtain ⟨n, h⟩ := h
      exact ⟨n, fl_X12_laysMates_25 hq n _ _ _ _ h hs⟩
    · replace h := h.2 c
      obtain ⟨g, h⟩ := h
      refine ⟨g, ?_⟩
      intro I1 e1
      replace h := h I1 e1
      replace hs := hs.upI e1 rfl
      exact hr4 _ _ _ _ h hs
set_option maxHeartbeats 4000000 in
set_option maxRecDepth 100000 in
theorem fr_X12_laysMates {P Q : Int → Ii → Jj → Prop} {I0 : Ii} {J0 : Jj} (h : wp_X12_laysMates I0 J0 P) (hq : ∀ (v : Int) (I' : Ii) (J' : Jj), P v I' J' → Same (W_X12_laysMates) I0 J0 I' J' → Q v I' J') : wp_X12_laysMates I0 J0 Q := by
  have hs := Same.rf (W := (W_X12_laysMates)) I0 J0
  unfold wp_X12_laysMates at h ⊢
  obtain ⟨n, h⟩ := h
  exact ⟨n, fl_X12_laysMates_4 hq n _ _ _ _ h hs⟩
def W_X12_whyShrink : Nat → Nat → Prop := WL [(10, 1000)]
theorem W_X12_whyShrink_n {k : Nat} (h : wlk [(10, 1000)] k = false := by rfl) : ∀ i, ¬ W_X12_whyShrink k i := WL_n h
set_option maxHeartbeats 4000000 in
set_option maxRecDepth 100000 in
theorem fr_X12_whyShrink {P Q : Int → Ii → Jj → Prop} {I0 : Ii} {J0 : Jj} (h : wp_X12_whyShrink I0 J0 P) (hq : ∀ (v : Int) (I' : Ii) (J' : Jj), P v I' J' → Same (W_X12_whyShrink) I0 J0 I' J' → Q v I' J') : wp_X12_whyShrink I0 J0 Q := by
  have hs := Same.rf (W := (W_X12_whyShrink)) I0 J0
  unfold wp_X12_whyShrink at h ⊢
  obtain ⟨g, h⟩ := h
  refine ⟨g, ?_⟩
  refine ⟨fun c => ?_, fun c => ?_⟩
  · replace h := h.1 c
    refine fr_X12_laysMates h (fun v I2 J2 h hs2 => ?_)
    replace hs := hs.trans hs2 (WL_sub rfl)
    obtain ⟨g, h⟩ := h
    refine ⟨g, ?_⟩
    refine ⟨fun c => ?_, fun c => ?_⟩
    · replace h := h.1 c
      exact hq _ _ _ h hs
    · replace h := h.2 c
      exact hq _ _ _ h hs
  · replace h := h.2 c
    exact hq _ _ _ h hs
def W_X12_whyNotShrink : Nat → Nat → Prop := WL [(0, 0), (10, 1000)]
theorem W_X12_whyNotShrink_n {k : Nat} (h : wlk [(0, 0), (10, 1000)] k = false := by rfl) : ∀ i, ¬ W_X12_whyNotShrink k i := WL_n h
set_option maxHeartbeats 4000000 in
set_option maxRecDepth 100000 in
theorem fr_X12_whyNotShrink {P Q : Int → Ii → Jj → Prop} {I0 : Ii} {J0 : Jj} (h : wp_X12_whyNotShrink I0 J0 P) (hq : ∀ (v : Int) (I' : Ii) (J' : Jj), P v I' J' → Same (W_X12_whyNotShrink) I0 J0 I' J' → Q v I' J') : wp_X12_whyNotShrink I0 J0 Q := by
  have hs := Same.rf (W := (W_X12_whyNotShrink)) I0 J0
  unfold wp_X12_whyNotShrink at h ⊢
  intro I1 e1
  replace h := h I1 e1
  replace hs := hs.upI e1 rfl
  refine fr_X12_whyShrink h (fun v I2 J2 h hs2 => ?_)
  replace hs := hs.trans hs2 (WL_sub rfl)
  exact hq _ _ _ h hs
def W_X12_mate : Nat → Nat → Prop := WL [(0, 0), (10, 1000)]
theorem W_X12_mate_n {k : Nat} (h : wlk [(0, 0), (10, 1000)] k = false := by rfl) : ∀ i, ¬ W_X12_mate k i := WL_n h
set_option maxHeartbeats 4000000 in
set_option maxRecDepth 100000 in
theorem fr_X12_mate {l1 : Int} {P Q : Int → Ii → Jj → Prop} {I0 : Ii} {J0 : Jj} (h : wp_X12_mate l1 I0 J0 P) (hq : ∀ (v : Int) (I' : Ii) (J' : Jj), P v I' J' → Same (W_X12_mate) I0 J0 I' J' → Q v I' J') : wp_X12_mate l1 I0 J0 Q := by
  have hs := Same.rf (W := (W_X12_mate)) I0 J0
  unfold wp_X12_mate at h ⊢
  refine fr_X12_isGroup h (fun v h => ?_)
  refine fr_X12_goes h (fun v I2 J2 h hs2 => ?_)
  replace hs := hs.trans hs2 (WL_sub rfl)
  refine ⟨fun c => ?_, fun c => ?_⟩
  · replace h := h.1 c
    refine fr_X12_laysMates h (fun v I2 J2 h hs2 => ?_)
    replace hs := hs.trans hs2 (WL_sub rfl)
    obtain ⟨g, h⟩ := h
    refine ⟨g, ?_⟩
    exact hq _ _ _ h hs
  · replace h := h.2 c
    exact hq _ _ _ h hs
set_option maxHeartbeats 4000000 in
set_option maxRecDepth 100000 in
theorem fb_X12_gainOf_122 {l1 : Int} {l2 : Int} {P Q : Int → Ii → Jj → Prop} {I : Ii} {J : Jj} (hq : ∀ (v : Int), P v I J → Q v I J) {r12 q12 : Int → Int → Int → Ii → Jj → Prop} (hr12 : ∀ (l3 : Int) (l4 : Int) (l5 : Int), r12 l3 l4 l5 I J → q12 l3 l4 l5 I J) {l3 : Int} {l4 : Int} {l5 : Int} {t0 : Int} (h : B_X12_gainOf_122 l1 l2 P r12 l3 l4 l5 t0 I J) : B_X12_gainOf_122 l1 l2 Q q12 l3 l4 l5 t0 I J := by
  unfold B_X12_gainOf_122 at h ⊢
  obtain ⟨g, h⟩ := h
  refine ⟨g, ?_⟩
  obtain ⟨g, h⟩ := h
  refine ⟨g, ?_⟩
  refine ⟨fun c => ?_, fun c => ?_⟩
  · replace h := h.1 c
    obtain ⟨g, h⟩ := h
    refine ⟨g, ?_⟩
    refine ⟨fun c => ?_, fun c => ?_⟩
    · replace h := h.1 c
      exact hr12 _ _ _ h
    · replace h := h.2 c
      obtain ⟨g, h⟩ := h
      refine ⟨g, ?_⟩
      exact hr12 _ _ _ h
  · replace h := h.2 c
    obtain ⟨g, h⟩ := h
    refine ⟨g, ?_⟩
    exact hr12 _ _ _ h
set_option maxHeartbeats 4000000 in
set_option maxRecDepth 100000 in
theorem fb_X12_gainOf_83 {l1 : Int} {l2 : Int} {P Q : Int → Ii → Jj → Prop} {I : Ii} {J : Jj} (hq : ∀ (v : Int), P v I J → Q v I J) {r12 q12 : Int → Int → Int → Ii → Jj → Prop} (hr12 : ∀ (l3 : Int) (l4 : Int) (l5 : Int), r12 l3 l4 l5 I J → q12 l3 l4 l5 I J) {l3 : Int} {l4 : Int} {l5 : Int} {l6 : Int} {l7 : Int} {t0 : Int} {t1 : Int} (h : B_X12_gainOf_83 l1 l2 P r12 l3 l4 l5 l6 l7 t0 t1 I J) : B_X12_gainOf_83 l1 l2 Q q12 l3 l4 l5 l6 l7 t0 t1 I J := by
  unfold B_X12_gainOf_83 at h ⊢
  obtain ⟨g, h⟩ := h
  refine ⟨g, ?_⟩
  obtain ⟨g, h⟩ := h
  refine ⟨g, ?_⟩
  refine ⟨fun c => ?_, fun c => ?_⟩
  · replace h := h.1 c
    refine fr_X12_groupAt h (fun v h => ?_)
    obtain ⟨g, h⟩ := h
    refine ⟨g, ?_⟩
    obtain ⟨g, h⟩ := h
    refine ⟨g, ?_⟩
    refine ⟨fun c => ?_, fun c => ?_⟩
    · replace h := h.1 c
      obtain ⟨g, h⟩ := h
      refine ⟨g, ?_⟩
      exact fb_X12_gainOf_122 hq hr12 h
    · replace h := h.2 c
      obtain ⟨g, h⟩ := h
      refine ⟨g, ?_⟩
      exact fb_X12_gainOf_122 hq hr12 h
  · replace h := h.2 c
    exact hr12 _ _ _ h
set_option maxHeartbeats 4000000 in
set_option maxRecDepth 100000 in
theorem fb_X12_gainOf_68 {l1 : Int} {l2 : Int} {P Q : Int → Ii → Jj → Prop} {I : Ii} {J : Jj} (hq : ∀ (v : Int), P v I J → Q v I J) {r12 q12 : Int → Int → Int → Ii → Jj → Prop} (hr12 : ∀ (l3 : Int) (l4 : Int) (l5 : Int), r12 l3 l4 l5 I J → q12 l3 l4 l5 I J) {l3 : Int} {l4 : Int} {l5 : Int} {l6 : Int} {l7 : Int} {t0 : Int} (h : B_X12_gainOf_68 l1 l2 P r12 l3 l4 l5 l6 l7 t0 I J) : B_X12_gainOf_68 l1 l2 Q q12 l3 l4 l5 l6 l7 t0 I J := by
  unfold B_X12_gainOf_68 at h ⊢
  refine fr_X12_groupAt h (fun v h => ?_)
  obtain ⟨g, h⟩ := h
  refine ⟨g, ?_⟩
  obtain ⟨g, h⟩ := h
  refine ⟨g, ?_⟩
  refine ⟨fun c => ?_, fun c => ?_⟩
  · replace h := h.1 c
    exact fb_X12_gainOf_83 hq hr12 h
  · replace h := h.2 c
    exact fb_X12_gainOf_83 hq hr12 h
theorem ls_X12_gainOf_12 {l1 : Int} {l2 : Int} {Q : Int → Ii → Jj → Prop} {n : Nat} {l3 : Int} {l4 : Int} {l5 : Int} {I : Ii} {J : Jj} (h : Lb_X12_gainOf_12 l1 l2 Q (L_X12_gainOf_12 l1 l2 Q n) l3 l4 l5 I J) : L_X12_gainOf_12 l1 l2 Q (n + 1) l3 l4 l5 I J := h
set_option maxHeartbeats 4000000 in
set_option maxRecDepth 100000 in
theorem fl_X12_gainOf_12 {l1 : Int} {l2 : Int} {P Q : Int → Ii → Jj → Prop} {I : Ii} {J : Jj} (hq : ∀ (v : Int), P v I J → Q v I J) : ∀ (n : Nat) (l3 : Int) (l4 : Int) (l5 : Int), L_X12_gainOf_12 l1 l2 P n l3 l4 l5 I J → L_X12_gainOf_12 l1 l2 Q n l3 l4 l5 I J := by
  intro n
  induction n with
  | zero => intro l3 l4 l5 h; exact h
  | succ n ih =>
    intro l3 l4 l5 h
    have h : Lb_X12_gainOf_12 l1 l2 P (L_X12_gainOf_12 l1 l2 P n) l3 l4 l5 I J := h
    show Lb_X12_gainOf_12 l1 l2 Q (L_X12_gainOf_12 l1 l2 Q n) l3 l4 l5 I J
    have hr12 := ih
    clear ih
    unfold Lb_X12_gainOf_12 at h ⊢
    obtain ⟨g, h⟩ := h
    refine ⟨g, ?_⟩
    obtain ⟨g, h⟩ := h
    refine ⟨g, ?_⟩
    refine ⟨fun c => ?_, fun c => ?_⟩
    · replace h := h.1 c
      exact hq _ h
    · replace h := h.2 c
      obtain ⟨g, h⟩ := h
      refine ⟨g, ?_⟩
      obtain ⟨g, h⟩ := h
      refine ⟨g, ?_⟩
      refine ⟨fun c => ?_, fun c => ?_⟩
      · replace h := h.1 c
        exact hq _ h
      · replace h := h.2 c
        obtain ⟨g, h⟩ := h
        refine ⟨g, ?_⟩
        obtain ⟨g, h⟩ := h
        refine ⟨g, ?_⟩
        refine fr_X12_groupAt h (fun v h => ?_)
        obtain ⟨g, h⟩ := h
        refine ⟨g, ?_⟩
        obtain ⟨g, h⟩ := h
        refine ⟨g, ?_⟩
        refine ⟨fun c => ?_, fun c => ?_⟩
        · replace h := h.1 c
          exact fb_X12_gainOf_68 hq hr12 h
        · replace h := h.2 c
          exact fb_X12_gainOf_68 hq hr12 h
set_option maxHeartbeats 4000000 in
set_option maxRecDepth 100000 in
theorem fr_X12_gainOf {l1 : Int} {l2 : Int} {P Q : Int → Ii → Jj → Prop} {I : Ii} {J : Jj} (h : wp_X12_gainOf l1 l2 I J P) (hq : ∀ (v : Int), P v I J → Q v I J) : wp_X12_gainOf l1 l2 I J Q := by
  unfold wp_X12_gainOf at h ⊢
  refine fr_X12_groupPart h (fun v h => ?_)
  obtain ⟨n, h⟩ := h
  exact ⟨n, fl_X12_gainOf_12 hq n _ _ _ h⟩
set_option maxHeartbeats 4000000 in
set_option maxRecDepth 100000 in
theorem fb_X12_debtsWith_65 {l1 : Int} {l2 : Int} {P Q : Int → Ii → Jj → Prop} {I : Ii} {J : Jj} (hq : ∀ (v : Int), P v I J → Q v I J) {r19 q19 : Int → Int → Int → Int → Ii → Jj → Prop} (hr19 : ∀ (l3 : Int) (l4 : Int) (l5 : Int) (l6 : Int), r19 l3 l4 l5 l6 I J → q19 l3 l4 l5 l6 I J) {l3 : Int} {l4 : Int} {l5 : Int} {l6 : Int} {t0 : Int} {t1 : Int} (h : B_X12_debtsWith_65 l1 l2 P r19 l3 l4 l5 l6 t0 t1 I J) : B_X12_debtsWith_65 l1 l2 Q q19 l3 l4 l5 l6 t0 t1 I J := by
  unfold B_X12_debtsWith_65 at h ⊢
  refine fr_X12_truth h (fun v h => ?_)
  refine fr_X12_limit h (fun v h => ?_)
  obtain ⟨g, h⟩ := h
  refine ⟨g, ?_⟩
  refine ⟨fun c => ?_, fun c => ?_⟩
  · replace h := h.1 c
    exact hr19 _ _ _ _ h
  · replace h := h.2 c
    exact hr19 _ _ _ _ h
set_option maxHeartbeats 4000000 in
set_option maxRecDepth 100000 in
theorem fb_X12_debtsWith_47 {l1 : Int} {l2 : Int} {P Q : Int → Ii → Jj → Prop} {I : Ii} {J : Jj} (hq : ∀ (v : Int), P v I J → Q v I J) {r19 q19 : Int → Int → Int → Int → Ii → Jj → Prop} (hr19 : ∀ (l3 : Int) (l4 : Int) (l5 : Int) (l6 : Int), r19 l3 l4 l5 l6 I J → q19 l3 l4 l5 l6 I J) {l3 : Int} {l4 : Int} {l5 : Int} {l6 : Int} {t0 : Int} {t1 : Int} (h : B_X12_debtsWith_47 l1 l2 P r19 l3 l4 l5 l6 t0 t1 I J) : B_X12_debtsWith_47 l1 l2 Q q19 l3 l4 l5 l6 t0 t1 I J := by
  unfold B_X12_debtsWith_47 at h ⊢
  refine fr_X12_truth h (fun v h => ?_)
  obtain ⟨g, h⟩ := h
  refine ⟨g, ?_⟩
  obtain ⟨g, h⟩ := h
  refine ⟨g, ?_⟩
  refine ⟨fun c => ?_, fun c => ?_⟩
  · replace h := h.1 c
    exact fb_X12_debtsWith_65 hq hr19 h
  · replace h := h.2 c
    exact fb_X12_debtsWith_65 hq hr19 h
theorem ls_X12_debtsWith_19 {l1 : Int} {l2 : Int} {Q : Int → Ii → Jj → Prop} {n : Nat} {l3 : Int} {l4 : Int} {l5 : Int} {l6 : Int} {I : Ii} {J : Jj} (h : Lb_X12_debtsWith_19 l1 l2 Q (L_X12_debtsWith_19 l1 l2 Q n) l3 l4 l5 l6 I J) : L_X12_debtsWith_19 l1 l2 Q (n + 1) l3 l4 l5 l6 I J := h
set_option maxHeartbeats 4000000 in
set_option maxRecDepth 100000 in
theorem fl_X12_debtsWith_19 {l1 : Int} {l2 : Int} {P Q : Int → Ii → Jj → Prop} {I : Ii} {J : Jj} (hq : ∀ (v : Int), P v I J → Q v I J) : ∀ (n : Nat) (l3 : Int) (l4 : Int) (l5 : Int) (l6 : Int), L_X12_debtsWith_19 l1 l2 P n l3 l4 l5 l6 I J → L_X12_debtsWith_19 l1 l2 Q n l3 l4 l5 l6 I J := by
  intro n
  induction n with
  | zero => intro l3 l4 l5 l6 h; exact h
  | succ n ih =>
    intro l3 l4 l5 l6 h
    have h : Lb_X12_debtsWith_19 l1 l2 P (L_X12_debtsWith_19 l1 l2 P n) l3 l4 l5 l6 I J := h
    show Lb_X12_debtsWith_19 l1 l2 Q (L_X12_debtsWith_19 l1 l2 Q n) l3 l4 l5 l6 I J
    have hr19 := ih
    clear ih
    unfold Lb_X12_debtsWith_19 at h ⊢
    obtain ⟨g, h⟩ := h
    refine ⟨g, ?_⟩
    obtain ⟨g, h⟩ := h
    refine ⟨g, ?_⟩
    refine ⟨fun c => ?_, fun c => ?_⟩
    · replace h := h.1 c
      exact hq _ h
    · replace h := h.2 c
      refine fr_X12_weightOf h (fun v h => ?_)
      obtain ⟨g, h⟩ := h
      refine ⟨g, ?_⟩
      obtain ⟨g, h⟩ := h
      refine ⟨g, ?_⟩
      refine ⟨fun c => ?_, fun c => ?_⟩
      · replace h := h.1 c
        exact fb_X12_debtsWith_47 hq hr19 h
      · replace h := h.2 c
        exact fb_X12_debtsWith_47 hq hr19 h
set_option maxHeartbeats 4000000 in
set_option maxRecDepth 100000 in
theorem fr_X12_debtsWith {l1 : Int} {l2 : Int} {P Q : Int → Ii → Jj → Prop} {I : Ii} {J : Jj} (h : wp_X12_debtsWith l1 l2 I J P) (hq : ∀ (v : Int), P v I J → Q v I J) : wp_X12_debtsWith l1 l2 I J Q := by
  unfold wp_X12_debtsWith at h ⊢
  refine fr_X12_groupPart h (fun v h => ?_)
  refine fr_X12_groupWeight h (fun v h => ?_)
  obtain ⟨n, h⟩ := h
  exact ⟨n, fl_X12_debtsWith_19 hq n _ _ _ _ h⟩
set_option maxHeartbeats 4000000 in
set_option maxRecDepth 100000 in
theorem fr_X12_whyMove {l1 : Int} {l2 : Int} {P Q : Int → Ii → Jj → Prop} {I : Ii} {J : Jj} (h : wp_X12_whyMove l1 l2 I J P) (hq : ∀ (v : Int), P v I J → Q v I J) : wp_X12_whyMove l1 l2 I J Q := by
  unfold wp_X12_whyMove at h ⊢
  refine fr_X12_groupPart h (fun v h => ?_)
  obtain ⟨g, h⟩ := h
  refine ⟨g, ?_⟩
  obtain ⟨g, h⟩ := h
  refine ⟨g, ?_⟩
  refine ⟨fun c => ?_, fun c => ?_⟩
  · replace h := h.1 c
    refine fr_X12_debtsWith h (fun v h => ?_)
    obtain ⟨g, h⟩ := h
    refine ⟨g, ?_⟩
    obtain ⟨g, h⟩ := h
    refine ⟨g, ?_⟩
    refine ⟨fun c => ?_, fun c => ?_⟩
    · replace h := h.1 c
      exact hq _ h
    · replace h := h.2 c
      refine fr_X12_debtsNow h (fun v h => ?_)
      obtain ⟨g, h⟩ := h
      refine ⟨g, ?_⟩
      obtain ⟨g, h⟩ := h
      refine ⟨g, ?_⟩
      refine ⟨fun c => ?_, fun c => ?_⟩
      · replace h := h.1 c
        exact hq _ h
      · replace h := h.2 c
        exact hq _ h
  · replace h := h.2 c
    exact hq _ h
set_option maxHeartbeats 4000000 in
set_option maxRecDepth 100000 in
theorem fr_X12_areThere {l1 : Int} {l2 : Int} {P Q : Int → Ii → Jj → Prop} {I : Ii} {J : Jj} (h : wp_X12_areThere l1 l2 I J P) (hq : ∀ (v : Int), P v I J → Q v I J) : wp_X12_areThere l1 l2 I J Q := by
  unfold wp_X12_areThere at h ⊢
  refine fr_X12_isGroup h (fun v h => ?_)
  refine ⟨fun c => ?_, fun c => ?_⟩
  · replace h := h.1 c
    exact hq _ h
  · replace h := h.2 c
    refine fr_X12_isPart h (fun v h => ?_)
    refine ⟨fun c => ?_, fun c => ?_⟩
    · replace h := h.1 c
      exact hq _ h
    · replace h := h.2 c
      exact hq _ h
def W_X12_gain : Nat → Nat → Prop := WL [(0, 0)]
theorem W_X12_gain_n {k : Nat} (h : wlk [(0, 0)] k = false := by rfl) : ∀ i, ¬ W_X12_gain k i := WL_n h
set_option maxHeartbeats 4000000 in
set_option maxRecDepth 100000 in
theorem fr_X12_gain {l1 : Int} {l2 : Int} {P Q : Int → Ii → Jj → Prop} {I0 : Ii} {J0 : Jj} (h : wp_X12_gain l1 l2 I0 J0 P) (hq : ∀ (v : Int) (I' : Ii) (J' : Jj), P v I' J' → Same (W_X12_gain) I0 J0 I' J' → Q v I' J') : wp_X12_gain l1 l2 I0 J0 Q := by
  have hs := Same.rf (W := (W_X12_gain)) I0 J0
  unfold wp_X12_gain at h ⊢
  refine fr_X12_areThere h (fun v h => ?_)
  refine fr_X12_goes h (fun v I2 J2 h hs2 => ?_)
  replace hs := hs.trans hs2 (WL_sub rfl)
  refine ⟨fun c => ?_, fun c => ?_⟩
  · replace h := h.1 c
    exact hq _ _ _ h hs
  · replace h := h.2 c
    refine fr_X12_gainOf h (fun v h => ?_)
    exact hq _ _ _ h hs
def W_X12_whyNotMove : Nat → Nat → Prop := WL [(0, 0)]
theorem W_X12_whyNotMove_n {k : Nat} (h : wlk [(0, 0)] k = false := by rfl) : ∀ i, ¬ W_X12_whyNotMove k i := WL_n h
set_option maxHeartbeats 4000000 in
set_option maxRecDepth 100000 in
theorem fr_X12_whyNotMove {l1 : Int} {l2 : Int} {P Q : Int → Ii → Jj → Prop} {I0 : Ii} {J0 : Jj} (h : wp_X12_whyNotMove l1 l2 I0 J0 P) (hq : ∀ (v : Int) (I' : Ii) (J' : Jj), P v I' J' → Same (W_X12_whyNotMove) I0 J0 I' J' → Q v I' J') : wp_X12_whyNotMove l1 l2 I0 J0 Q := by
  have hs := Same.rf (W := (W_X12_whyNotMove)) I0 J0
  unfold wp_X12_whyNotMove at h ⊢
  refine fr_X12_areThere h (fun v h => ?_)
  refine fr_X12_goes h (fun v I2 J2 h hs2 => ?_)
  replace hs := hs.trans hs2 (WL_sub rfl)
  refine ⟨fun c => ?_, fun c => ?_⟩
  · replace h := h.1 c
    exact hq _ _ _ h hs
  · replace h := h.2 c
    refine fr_X12_whyMove h (fun v h => ?_)
    exact hq _ _ _ h hs
def W_X12_debtsIf : Nat → Nat → Prop := WL [(0, 0)]
theorem W_X12_debtsIf_n {k : Nat} (h : wlk [(0, 0)] k = false := by rfl) : ∀ i, ¬ W_X12_debtsIf k i := WL_n h
set_option maxHeartbeats 4000000 in
set_option maxRecDepth 100000 in
theorem fr_X12_debtsIf {l1 : Int} {l2 : Int} {P Q : Int → Ii → Jj → Prop} {I0 : Ii} {J0 : Jj} (h : wp_X12_debtsIf l1 l2 I0 J0 P) (hq : ∀ (v : Int) (I' : Ii) (J' : Jj), P v I' J' → Same (W_X12_debtsIf) I0 J0 I' J' → Q v I' J') : wp_X12_debtsIf l1 l2 I0 J0 Q := by
  have hs := Same.rf (W := (W_X12_debtsIf)) I0 J0
  unfold wp_X12_debtsIf at h ⊢
  refine fr_X12_areThere h (fun v h => ?_)
  refine fr_X12_goes h (fun v I2 J2 h hs2 => ?_)
  replace hs := hs.trans hs2 (WL_sub rfl)
  refine ⟨fun c => ?_, fun c => ?_⟩
  · replace h := h.1 c
    exact hq _ _ _ h hs
  · replace h := h.2 c
    refine fr_X12_debtsWith h (fun v h => ?_)
    exact hq _ _ _ h hs
set_option maxHeartbeats 4000000 in
set_option maxRecDepth 100000 in
theorem fb_X12_bestMove_119 {l1 : Int} {P Q : Int → Ii → Jj → Prop} {I : Ii} {J : Jj} (hq : ∀ (v : Int), P v I J → Q v I J) {r16 q16 : Int → Int → Int → Int → Int → Ii → Jj → Prop} (hr16 : ∀ (l2 : Int) (l3 : Int) (l4 : Int) (l5 : Int) (l6 : Int), r16 l2 l3 l4 l5 l6 I J → q16 l2 l3 l4 l5 l6 I J) {r28 q28 : Int → Int → Int → Int → Int → Int → Ii → Jj → Prop} (hr28 : ∀ (l2 : Int) (l3 : Int) (l4 : Int) (l5 : Int) (l6 : Int) (l7 : Int), r28 l2 l3 l4 l5 l6 l7 I J → q28 l2 l3 l4 l5 l6 l7 I J) {l5 : Int} {l6 : Int} {l7 : Int} {l8 : Int} {l9 : Int} (h : B_X12_bestMove_119 l1 P r16 r28 l5 l6 l7 l8 l9 I J) : B_X12_bestMove_119 l1 Q q16 q28 l5 l6 l7 l8 l9 I J := by
  unfold B_X12_bestMove_119 at h ⊢
  exact hr28 _ _ _ _ _ _ h
set_option maxHeartbeats 4000000 in
set_option maxRecDepth 100000 in
theorem fb_X12_bestMove_92 {l1 : Int} {P Q : Int → Ii → Jj → Prop} {I : Ii} {J : Jj} (hq : ∀ (v : Int), P v I J → Q v I J) {r16 q16 : Int → Int → Int → Int → Int → Ii → Jj → Prop} (hr16 : ∀ (l2 : Int) (l3 : Int) (l4 : Int) (l5 : Int) (l6 : Int), r16 l2 l3 l4 l5 l6 I J → q16 l2 l3 l4 l5 l6 I J) {r28 q28 : Int → Int → Int → Int → Int → Int → Ii → Jj → Prop} (hr28 : ∀ (l2 : Int) (l3 : Int) (l4 : Int) (l5 : Int) (l6 : Int) (l7 : Int), r28 l2 l3 l4 l5 l6 l7 I J → q28 l2 l3 l4 l5 l6 l7 I J) {l2 : Int} {l3 : Int} {l4 : Int} {l5 : Int} {l6 : Int} {l7 : Int} {l8 : Int} {l9 : Int} (h : B_X12_bestMove_92 l1 P r16 r28 l2 l3 l4 l5 l6 l7 l8 l9 I J) : B_X12_bestMove_92 l1 Q q16 q28 l2 l3 l4 l5 l6 l7 l8 l9 I J := by
  unfold B_X12_bestMove_92 at h ⊢
  obtain ⟨g, h⟩ := h
  refine ⟨g, ?_⟩
  refine ⟨fun c => ?_, fun c => ?_⟩
  · replace h := h.1 c
    exact fb_X12_bestMove_119 hq hr16 hr28 h
  · replace h := h.2 c
    obtain ⟨g, h⟩ := h
    refine ⟨g, ?_⟩
    obtain ⟨g, h⟩ := h
    refine ⟨g, ?_⟩
    refine ⟨fun c => ?_, fun c => ?_⟩
    · replace h := h.1 c
      exact hr28 _ _ _ _ _ _ h
    · replace h := h.2 c
      refine ⟨fun c => ?_, fun c => ?_⟩
      · replace h := h.1 c
        exact fb_X12_bestMove_119 hq hr16 hr28 h
      · replace h := h.2 c
        obtain ⟨g, h⟩ := h
        refine ⟨g, ?_⟩
        obtain ⟨g, h⟩ := h
        refine ⟨g, ?_⟩
        refine ⟨fun c => ?_, fun c => ?_⟩
        · replace h := h.1 c
          exact fb_X12_bestMove_119 hq hr16 hr28 h
        · replace h := h.2 c
          exact hr28 _ _ _ _ _ _ h
theorem ls_X12_bestMove_28 {l1 : Int} {Q : Int → Ii → Jj → Prop} {r16 : Int → Int → Int → Int → Int → Ii → Jj → Prop} {n : Nat} {l2 : Int} {l3 : Int} {l4 : Int} {l5 : Int} {l6 : Int} {l7 : Int} {I : Ii} {J : Jj} (h : Lb_X12_bestMove_28 l1 Q r16 (L_X12_bestMove_28 l1 Q r16 n) l2 l3 l4 l5 l6 l7 I J) : L_X12_bestMove_28 l1 Q r16 (n + 1) l2 l3 l4 l5 l6 l7 I J := h
set_option maxHeartbeats 4000000 in
set_option maxRecDepth 100000 in
theorem fl_X12_bestMove_28 {l1 : Int} {P Q : Int → Ii → Jj → Prop} {I : Ii} {J : Jj} (hq : ∀ (v : Int), P v I J → Q v I J) {r16 q16 : Int → Int → Int → Int → Int → Ii → Jj → Prop} (hr16 : ∀ (l2 : Int) (l3 : Int) (l4 : Int) (l5 : Int) (l6 : Int), r16 l2 l3 l4 l5 l6 I J → q16 l2 l3 l4 l5 l6 I J) : ∀ (n : Nat) (l2 : Int) (l3 : Int) (l4 : Int) (l5 : Int) (l6 : Int) (l7 : Int), L_X12_bestMove_28 l1 P r16 n l2 l3 l4 l5 l6 l7 I J → L_X12_bestMove_28 l1 Q q16 n l2 l3 l4 l5 l6 l7 I J := by
  intro n
  induction n with
  | zero => intro l2 l3 l4 l5 l6 l7 h; exact h
  | succ n ih =>
    intro l2 l3 l4 l5 l6 l7 h
    have h : Lb_X12_bestMove_28 l1 P r16 (L_X12_bestMove_28 l1 P r16 n) l2 l3 l4 l5 l6 l7 I J := h
    show Lb_X12_bestMove_28 l1 Q q16 (L_X12_bestMove_28 l1 Q q16 n) l2 l3 l4 l5 l6 l7 I J
    have hr28 := ih
    clear ih
    unfold Lb_X12_bestMove_28 at h ⊢
    obtain ⟨g, h⟩ := h
    refine ⟨g, ?_⟩
    obtain ⟨g, h⟩ := h
    refine ⟨g, ?_⟩
    refine ⟨fun c => ?_, fun c => ?_⟩
    · replace h := h.1 c
      exact hr16 _ _ _ _ _ h
    · replace h := h.2 c
      refine fr_X12_gainOf h (fun v h => ?_)
      refine fr_X12_debtsWith h (fun v h => ?_)
      refine fr_X12_whyMove h (fun v h => ?_)
      obtain ⟨g, h⟩ := h
      refine ⟨g, ?_⟩
      refine ⟨fun c => ?_, fun c => ?_⟩
      · replace h := h.1 c
        exact hr28 _ _ _ _ _ _ h
      · replace h := h.2 c
        obtain ⟨g, h⟩ := h
        refine ⟨g, ?_⟩
        refine ⟨fun c => ?_, fun c => ?_⟩
        · replace h := h.1 c
          obtain ⟨g, h⟩ := h
          refine ⟨g, ?_⟩
          refine ⟨fun c => ?_, fun c => ?_⟩
          · replace h := h.1 c
            exact fb_X12_bestMove_92 hq hr16 hr28 h
          · replace h := h.2 c
            exact hr28 _ _ _ _ _ _ h
        · replace h := h.2 c
          obtain ⟨g, h⟩ := h
          refine ⟨g, ?_⟩
          obtain ⟨g, h⟩ := h
          refine ⟨g, ?_⟩
          refine ⟨fun c => ?_, fun c => ?_⟩
          · replace h := h.1 c
            exact fb_X12_bestMove_92 hq hr16 hr28 h
          · replace h := h.2 c
            exact hr28 _ _ _ _ _ _ h
theorem ls_X12_bestMove_16 {l1 : Int} {Q : Int → Ii → Jj → Prop} {n : Nat} {l2 : Int} {l3 : Int} {l4 : Int} {l5 : Int} {l6 : Int} {I : Ii} {J : Jj} (h : Lb_X12_bestMove_16 l1 Q (L_X12_bestMove_16 l1 Q n) l2 l3 l4 l5 l6 I J) : L_X12_bestMove_16 l1 Q (n + 1) l2 l3 l4 l5 l6 I J := h
set_option maxHeartbeats 4000000 in
set_option maxRecDepth 100000 in
theorem fl_X12_bestMove_16 {l1 : Int} {P Q : Int → Ii → Jj → Prop} {I : Ii} {J : Jj} (hq : ∀ (v : Int), P v I J → Q v I J) : ∀ (n : Nat) (l2 : Int) (l3 : Int) (l4 : Int) (l5 : Int) (l6 : Int), L_X12_bestMove_16 l1 P n l2 l3 l4 l5 l6 I J → L_X12_bestMove_16 l1 Q n l2 l3 l4 l5 l6 I J := by
  intro n
  induction n with
  | zero => intro l2 l3 l4 l5 l6 h; exact h
  | succ n ih =>
    intro l2 l3 l4 l5 l6 h
    have h : Lb_X12_bestMove_16 l1 P (L_X12_bestMove_16 l1 P n) l2 l3 l4 l5 l6 I J := h
    show Lb_X12_bestMove_16 l1 Q (L_X12_bestMove_16 l1 Q n) l2 l3 l4 l5 l6 I J
    have hr16 := ih
    clear ih
    unfold Lb_X12_bestMove_16 at h ⊢
    refine fr_X12_groups h (fun v h => ?_)
    obtain ⟨g, h⟩ := h
    refine ⟨g, ?_⟩
    obtain ⟨g, h⟩ := h
    refine ⟨g, ?_⟩
    refine ⟨fun c => ?_, fun c => ?_⟩
    · replace h := h.1 c
      exact hq _ h
    · replace h := h.2 c
      obtain ⟨n, h⟩ := h
      exact ⟨n, fl_X12_bestMove_28 hq hr16 n _ _ _ _ _ _ h⟩
set_option maxHeartbeats 4000000 in
set_option maxRecDepth 100000 in
theorem fr_X12_bestMove {l1 : Int} {P Q : Int → Ii → Jj → Prop} {I : Ii} {J : Jj} (h : wp_X12_bestMove l1 I J P) (hq : ∀ (v : Int), P v I J → Q v I J) : wp_X12_bestMove l1 I J Q := by
  unfold wp_X12_bestMove at h ⊢
  refine fr_X12_debtsNow h (fun v h => ?_)
  obtain ⟨n, h⟩ := h
  exact ⟨n, fl_X12_bestMove_16 hq n _ _ _ _ _ h⟩
set_option maxHeartbeats 4000000 in
set_option maxRecDepth 100000 in
theorem fb_X12_nextNow_16 {P Q : Int → Ii → Jj → Prop} {I : Ii} {J : Jj} (hq : ∀ (v : Int), P v I J → Q v I J) {t0 : Int} (h : B_X12_nextNow_16 P t0 I J) : B_X12_nextNow_16 Q t0 I J := by
  unfold B_X12_nextNow_16 at h ⊢
  obtain ⟨g, h⟩ := h
  refine ⟨g, ?_⟩
  refine ⟨fun c => ?_, fun c => ?_⟩
  · replace h := h.1 c
    exact hq _ h
  · replace h := h.2 c
    refine fr_X12_bestMove h (fun v h => ?_)
    exact hq _ h
set_option maxHeartbeats 4000000 in
set_option maxRecDepth 100000 in
theorem fr_X12_nextNow {P Q : Int → Ii → Jj → Prop} {I : Ii} {J : Jj} (h : wp_X12_nextNow I J P) (hq : ∀ (v : Int), P v I J → Q v I J) : wp_X12_nextNow I J Q := by
  unfold wp_X12_nextNow at h ⊢
  refine fr_X12_debtsNow h (fun v h => ?_)
  obtain ⟨g, h⟩ := h
  refine ⟨g, ?_⟩
  refine ⟨fun c => ?_, fun c => ?_⟩
  · replace h := h.1 c
    exact fb_X12_nextNow_16 hq h
  · replace h := h.2 c
    refine fr_X12_bestMove h (fun v h => ?_)
    exact fb_X12_nextNow_16 hq h
def W_X12_nextStep : Nat → Nat → Prop := WL [(0, 0)]
theorem W_X12_nextStep_n {k : Nat} (h : wlk [(0, 0)] k = false := by rfl) : ∀ i, ¬ W_X12_nextStep k i := WL_n h
set_option maxHeartbeats 4000000 in
set_option maxRecDepth 100000 in
theorem fr_X12_nextStep {P Q : Int → Ii → Jj → Prop} {I0 : Ii} {J0 : Jj} (h : wp_X12_nextStep I0 J0 P) (hq : ∀ (v : Int) (I' : Ii) (J' : Jj), P v I' J' → Same (W_X12_nextStep) I0 J0 I' J' → Q v I' J') : wp_X12_nextStep I0 J0 Q := by
  have hs := Same.rf (W := (W_X12_nextStep)) I0 J0
  unfold wp_X12_nextStep at h ⊢
  intro I1 e1
  replace h := h I1 e1
  replace hs := hs.upI e1 rfl
  refine fr_X12_nextNow h (fun v h => ?_)
  exact hq _ _ _ h hs
def W_X12_looksAt : Nat → Nat → Prop := WL [(0, 34), (0, 35), (13, 1000), (14, 1000), (15, 1000)]
theorem W_X12_looksAt_n {k : Nat} (h : wlk [(0, 34), (0, 35), (13, 1000), (14, 1000), (15, 1000)] k = false := by rfl) : ∀ i, ¬ W_X12_looksAt k i := WL_n h
theorem ls_X12_looksAt_175 {l1 : Int} {l2 : Int} {Q : Ii → Jj → Prop} {r166 : Int → Int → Int → Ii → Jj → Prop} {n : Nat} {l4 : Int} {l6 : Int} {l7 : Int} {l8 : Int} {I : Ii} {J : Jj} (h : Lb_X12_looksAt_175 l1 l2 Q r166 (L_X12_looksAt_175 l1 l2 Q r166 n) l4 l6 l7 l8 I J) : L_X12_looksAt_175 l1 l2 Q r166 (n + 1) l4 l6 l7 l8 I J := h
set_option maxHeartbeats 4000000 in
set_option maxRecDepth 100000 in
theorem fl_X12_looksAt_175 {l1 : Int} {l2 : Int} {P Q : Ii → Jj → Prop} {I0 : Ii} {J0 : Jj} (hq : ∀ (I' : Ii) (J' : Jj), P I' J' → Same (W_X12_looksAt) I0 J0 I' J' → Q I' J') {r166 q166 : Int → Int → Int → Ii → Jj → Prop} (hr166 : ∀ (l4 : Int) (l6 : Int) (l7 : Int) (I' : Ii) (J' : Jj), r166 l4 l6 l7 I' J' → Same (W_X12_looksAt) I0 J0 I' J' → q166 l4 l6 l7 I' J') : ∀ (n : Nat) (l4 : Int) (l6 : Int) (l7 : Int) (l8 : Int) (I : Ii) (J : Jj), L_X12_looksAt_175 l1 l2 P r166 n l4 l6 l7 l8 I J → Same (W_X12_looksAt) I0 J0 I J → L_X12_looksAt_175 l1 l2 Q q166 n l4 l6 l7 l8 I J := by
  intro n
  induction n with
  | zero => intro l4 l6 l7 l8 I J h _; exact h
  | succ n ih =>
    intro l4 l6 l7 l8 I J h hs
    have h : Lb_X12_looksAt_175 l1 l2 P r166 (L_X12_looksAt_175 l1 l2 P r166 n) l4 l6 l7 l8 I J := h
    show Lb_X12_looksAt_175 l1 l2 Q q166 (L_X12_looksAt_175 l1 l2 Q q166 n) l4 l6 l7 l8 I J
    have hr175 := ih
    clear ih
    unfold Lb_X12_looksAt_175 at h ⊢
    obtain ⟨g, h⟩ := h
    refine ⟨g, ?_⟩
    obtain ⟨g, h⟩ := h
    refine ⟨g, ?_⟩
    refine ⟨fun c => ?_, fun c => ?_⟩
    · replace h := h.1 c
      exact hr166 _ _ _ _ _ h hs
    · replace h := h.2 c
      obtain ⟨g, h⟩ := h
      refine ⟨g, ?_⟩
      obtain ⟨g, h⟩ := h
      refine ⟨g, ?_⟩
      obtain ⟨g, h⟩ := h
      refine ⟨g, ?_⟩
      obtain ⟨g, h⟩ := h
      refine ⟨g, ?_⟩
      refine ⟨fun c => ?_, fun c => ?_⟩
      · replace h := h.1 c
        obtain ⟨g, h⟩ := h
        refine ⟨g, ?_⟩
        exact hr175 _ _ _ _ _ _ h hs
      · replace h := h.2 c
        exact hr175 _ _ _ _ _ _ h hs
theorem ls_X12_looksAt_275 {l1 : Int} {l2 : Int} {Q : Ii → Jj → Prop} {n : Nat} {l7 : Int} {I : Ii} {J : Jj} (h : Lb_X12_looksAt_275 l1 l2 Q (L_X12_looksAt_275 l1 l2 Q n) l7 I J) : L_X12_looksAt_275 l1 l2 Q (n + 1) l7 I J := h
set_option maxHeartbeats 4000000 in
set_option maxRecDepth 100000 in
theorem fl_X12_looksAt_275 {l1 : Int} {l2 : Int} {P Q : Ii → Jj → Prop} {I0 : Ii} {J0 : Jj} (hq : ∀ (I' : Ii) (J' : Jj), P I' J' → Same (W_X12_looksAt) I0 J0 I' J' → Q I' J') : ∀ (n : Nat) (l7 : Int) (I : Ii) (J : Jj), L_X12_looksAt_275 l1 l2 P n l7 I J → Same (W_X12_looksAt) I0 J0 I J → L_X12_looksAt_275 l1 l2 Q n l7 I J := by
  intro n
  induction n with
  | zero => intro l7 I J h _; exact h
  | succ n ih =>
    intro l7 I J h hs
    have h : Lb_X12_looksAt_275 l1 l2 P (L_X12_looksAt_275 l1 l2 P n) l7 I J := h
    show Lb_X12_looksAt_275 l1 l2 Q (L_X12_looksAt_275 l1 l2 Q n) l7 I J
    have hr275 := ih
    clear ih
    unfold Lb_X12_looksAt_275 at h ⊢
    obtain ⟨g, h⟩ := h
    refine ⟨g, ?_⟩
    obtain ⟨g, h⟩ := h
    refine ⟨g, ?_⟩
    refine ⟨fun c => ?_, fun c => ?_⟩
    · replace h := h.1 c
      exact hq _ _ h hs
    · replace h := h.2 c
      obtain ⟨g, h⟩ := h
      refine ⟨g, ?_⟩
      obtain ⟨g, h⟩ := h
      refine ⟨g, ?_⟩
      intro I1 e1
      replace h := h I1 e1
      replace hs := hs.upI e1 rfl
      exact hr275 _ _ _ h hs
set_option maxHeartbeats 4000000 in
set_option maxRecDepth 100000 in
theorem fb_X12_looksAt_260 {l1 : Int} {l2 : Int} {P Q : Ii → Jj → Prop} {I0 : Ii} {J0 : Jj} (hq : ∀ (I' : Ii) (J' : Jj), P I' J' → Same (W_X12_looksAt) I0 J0 I' J' → Q I' J') {l4 : Int} {l6 : Int} {I : Ii} {J : Jj} (h : B_X12_looksAt_260 l1 l2 P l4 l6 I J) (hs : Same (W_X12_looksAt) I0 J0 I J) : B_X12_looksAt_260 l1 l2 Q l4 l6 I J := by
  unfold B_X12_looksAt_260 at h ⊢
  intro I1 e1
  replace h := h I1 e1
  replace hs := hs.upI e1 rfl
  intro I1 e1
  replace h := h I1 e1
  replace hs := hs.upI e1 rfl
  obtain ⟨n, h⟩ := h
  exact ⟨n, fl_X12_looksAt_275 hq n _ _ _ h hs⟩
theorem ls_X12_looksAt_166 {l1 : Int} {l2 : Int} {Q : Ii → Jj → Prop} {n : Nat} {l4 : Int} {l6 : Int} {l7 : Int} {I : Ii} {J : Jj} (h : Lb_X12_looksAt_166 l1 l2 Q (L_X12_looksAt_166 l1 l2 Q n) l4 l6 l7 I J) : L_X12_looksAt_166 l1 l2 Q (n + 1) l4 l6 l7 I J := h
set_option maxHeartbeats 4000000 in
set_option maxRecDepth 100000 in
theorem fl_X12_looksAt_166 {l1 : Int} {l2 : Int} {P Q : Ii → Jj → Prop} {I0 : Ii} {J0 : Jj} (hq : ∀ (I' : Ii) (J' : Jj), P I' J' → Same (W_X12_looksAt) I0 J0 I' J' → Q I' J') : ∀ (n : Nat) (l4 : Int) (l6 : Int) (l7 : Int) (I : Ii) (J : Jj), L_X12_looksAt_166 l1 l2 P n l4 l6 l7 I J → Same (W_X12_looksAt) I0 J0 I J → L_X12_looksAt_166 l1 l2 Q n l4 l6 l7 I J := by
  intro n
  induction n with
  | zero => intro l4 l6 l7 I J h _; exact h
  | succ n ih =>
    intro l4 l6 l7 I J h hs
    have h : Lb_X12_looksAt_166 l1 l2 P (L_X12_looksAt_166 l1 l2 P n) l4 l6 l7 I J := h
    show Lb_X12_looksAt_166 l1 l2 Q (L_X12_looksAt_166 l1 l2 Q n) l4 l6 l7 I J
    have hr166 := ih
    clear ih
    unfold Lb_X12_looksAt_166 at h ⊢
    obtain ⟨g, h⟩ := h
    refine ⟨g, ?_⟩
    obtain ⟨g, h⟩ := h
    refine ⟨g, ?_⟩
    refine ⟨fun c => ?_, fun c => ?_⟩
    · replace h := h.1 c
      obtain ⟨g, h⟩ := h
      refine ⟨g, ?_⟩
      refine ⟨fun c => ?_, fun c => ?_⟩
      · replace h := h.1 c
        exact fb_X12_looksAt_260 hq h hs
      · replace h := h.2 c
        obtain ⟨g, h⟩ := h
        refine ⟨g, ?_⟩
        refine ⟨fun c => ?_, fun c => ?_⟩
        · replace h := h.1 c
          exact fb_X12_looksAt_260 hq h hs
        · replace h := h.2 c
          obtain ⟨g, h⟩ := h
          refine ⟨g, ?_⟩
          obtain ⟨g, h⟩ := h
          refine ⟨g, ?_⟩
          refine ⟨fun c => ?_, fun c => ?_⟩
          · replace h := h.1 c
            exact fb_X12_looksAt_260 hq h hs
          · replace h := h.2 c
            exact hq _ _ h hs
    · replace h := h.2 c
      obtain ⟨n, h⟩ := h
      exact ⟨n, fl_X12_looksAt_175 hq hr166 n _ _ _ _ _ _ h hs⟩
theorem ls_X12_looksAt_99 {l1 : Int} {l2 : Int} {Q : Ii → Jj → Prop} {n : Nat} {l4 : Int} {l5 : Int} {l6 : Int} {I : Ii} {J : Jj} (h : Lb_X12_looksAt_99 l1 l2 Q (L_X12_looksAt_99 l1 l2 Q n) l4 l5 l6 I J) : L_X12_looksAt_99 l1 l2 Q (n + 1) l4 l5 l6 I J := h
set_option maxHeartbeats 4000000 in
set_option maxRecDepth 100000 in
theorem fl_X12_looksAt_99 {l1 : Int} {l2 : Int} {P Q : Ii → Jj → Prop} {I0 : Ii} {J0 : Jj} (hq : ∀ (I' : Ii) (J' : Jj), P I' J' → Same (W_X12_looksAt) I0 J0 I' J' → Q I' J') : ∀ (n : Nat) (l4 : Int) (l5 : Int) (l6 : Int) (I : Ii) (J : Jj), L_X12_looksAt_99 l1 l2 P n l4 l5 l6 I J → Same (W_X12_looksAt) I0 J0 I J → L_X12_looksAt_99 l1 l2 Q n l4 l5 l6 I J := by
  intro n
  induction n with
  | zero => intro l4 l5 l6 I J h _; exact h
  | succ n ih =>
    intro l4 l5 l6 I J h hs
    have h : Lb_X12_looksAt_99 l1 l2 P (L_X12_looksAt_99 l1 l2 P n) l4 l5 l6 I J := h
    show Lb_X12_looksAt_99 l1 l2 Q (L_X12_looksAt_99 l1 l2 Q n) l4 l5 l6 I J
    have hr99 := ih
    clear ih
    unfold Lb_X12_looksAt_99 at h ⊢
    obtain ⟨g, h⟩ := h
    refine ⟨g, ?_⟩
    refine ⟨fun c => ?_, fun c => ?_⟩
    · replace h := h.1 c
      obtain ⟨g, h⟩ := h
      refine ⟨g, ?_⟩
      refine ⟨fun c => ?_, fun c => ?_⟩
      · replace h := h.1 c
        obtain ⟨n, h⟩ := h
        exact ⟨n, fl_X12_looksAt_166 hq n _ _ _ _ _ h hs⟩
      · replace h := h.2 c
        obtain ⟨g, h⟩ := h
        refine ⟨g, ?_⟩
        refine ⟨fun c => ?_, fun c => ?_⟩
        · replace h := h.1 c
          obtain ⟨n, h⟩ := h
          exact ⟨n, fl_X12_looksAt_166 hq n _ _ _ _ _ h hs⟩
        · replace h := h.2 c
          exact hq _ _ h hs
    · replace h := h.2 c
      obtain ⟨g, h⟩ := h
      refine ⟨g, ?_⟩
      obtain ⟨g, h⟩ := h
      refine ⟨g, ?_⟩
      obtain ⟨g, h⟩ := h
      refine ⟨g, ?_⟩
      refine ⟨fun c => ?_, fun c => ?_⟩
      · replace h := h.1 c
        exact hr99 _ _ _ _ _ h hs
      · replace h := h.2 c
        obtain ⟨g, h⟩ := h
        refine ⟨g, ?_⟩
        exact hr99 _ _ _ _ _ h hs
theorem ls_X12_looksAt_30 {l1 : Int} {l2 : Int} {Q : Ii → Jj → Prop} {n : Nat} {l3 : Int} {l4 : Int} {I : Ii} {J : Jj} (h : Lb_X12_looksAt_30 l1 l2 Q (L_X12_looksAt_30 l1 l2 Q n) l3 l4 I J) : L_X12_looksAt_30 l1 l2 Q (n + 1) l3 l4 I J := h
set_option maxHeartbeats 4000000 in
set_option maxRecDepth 100000 in
theorem fl_X12_looksAt_30 {l1 : Int} {l2 : Int} {P Q : Ii → Jj → Prop} {I0 : Ii} {J0 : Jj} (hq : ∀ (I' : Ii) (J' : Jj), P I' J' → Same (W_X12_looksAt) I0 J0 I' J' → Q I' J') : ∀ (n : Nat) (l3 : Int) (l4 : Int) (I : Ii) (J : Jj), L_X12_looksAt_30 l1 l2 P n l3 l4 I J → Same (W_X12_looksAt) I0 J0 I J → L_X12_looksAt_30 l1 l2 Q n l3 l4 I J := by
  intro n
  induction n with
  | zero => intro l3 l4 I J h _; exact h
  | succ n ih =>
    intro l3 l4 I J h hs
    have h : Lb_X12_looksAt_30 l1 l2 P (L_X12_looksAt_30 l1 l2 P n) l3 l4 I J := h
    show Lb_X12_looksAt_30 l1 l2 Q (L_X12_looksAt_30 l1 l2 Q n) l3 l4 I J
    have hr30 := ih
    clear ih
    unfold Lb_X12_looksAt_30 at h ⊢
    obtain ⟨g, h⟩ := h
    refine ⟨g, ?_⟩
    refine ⟨fun c => ?_, fun c => ?_⟩
    · replace h := h.1 c
      refine fr_X12_limit h (fun v h => ?_)
      obtain ⟨n, h⟩ := h
      exact ⟨n, fl_X12_looksAt_99 hq n _ _ _ _ _ h hs⟩
    · replace h := h.2 c
      obtain ⟨g, h⟩ := h
      refine ⟨g, ?_⟩
      obtain ⟨g, h⟩ := h
      refine ⟨g, ?_⟩
      intro I1 e1
      replace h := h I1 e1
      replace hs := hs.upI e1 rfl
      obtain ⟨g, h⟩ := h
      refine ⟨g, ?_⟩
      obtain ⟨g, h⟩ := h
      refine ⟨g, ?_⟩
      obtain ⟨g, h⟩ := h
      refine ⟨g, ?_⟩
      obtain ⟨g, h⟩ := h
      refine ⟨g, ?_⟩
      obtain ⟨g, h⟩ := h
      refine ⟨g, ?_⟩
      intro I1 e1
      replace h := h I1 e1
      replace hs := hs.upI e1 rfl
      exact hr30 _ _ _ _ h hs
theorem ls_X12_looksAt_5 {l1 : Int} {l2 : Int} {Q : Ii → Jj → Prop} {n : Nat} {l3 : Int} {l4 : Int} {I : Ii} {J : Jj} (h : Lb_X12_looksAt_5 l1 l2 Q (L_X12_looksAt_5 l1 l2 Q n) l3 l4 I J) : L_X12_looksAt_5 l1 l2 Q (n + 1) l3 l4 I J := h
set_option maxHeartbeats 4000000 in
set_option maxRecDepth 100000 in
theorem fl_X12_looksAt_5 {l1 : Int} {l2 : Int} {P Q : Ii → Jj → Prop} {I0 : Ii} {J0 : Jj} (hq : ∀ (I' : Ii) (J' : Jj), P I' J' → Same (W_X12_looksAt) I0 J0 I' J' → Q I' J') : ∀ (n : Nat) (l3 : Int) (l4 : Int) (I : Ii) (J : Jj), L_X12_looksAt_5 l1 l2 P n l3 l4 I J → Same (W_X12_looksAt) I0 J0 I J → L_X12_looksAt_5 l1 l2 Q n l3 l4 I J := by
  intro n
  induction n with
  | zero => intro l3 l4 I J h _; exact h
  | succ n ih =>
    intro l3 l4 I J h hs
    have h : Lb_X12_looksAt_5 l1 l2 P (L_X12_looksAt_5 l1 l2 P n) l3 l4 I J := h
    show Lb_X12_looksAt_5 l1 l2 Q (L_X12_looksAt_5 l1 l2 Q n) l3 l4 I J
    have hr5 := ih
    clear ih
    unfold Lb_X12_looksAt_5 at h ⊢
    obtain ⟨g, h⟩ := h
    refine ⟨g, ?_⟩
    refine ⟨fun c => ?_, fun c => ?_⟩
    · replace h := h.1 c
      obtain ⟨n, h⟩ := h
      exact ⟨n, fl_X12_looksAt_30 hq n _ _ _ _ h hs⟩
    · replace h := h.2 c
      obtain ⟨g, h⟩ := h
      refine ⟨g, ?_⟩
      intro I1 e1
      replace h := h I1 e1
      replace hs := hs.upI e1 rfl
      exact hr5 _ _ _ _ h hs
set_option maxHeartbeats 4000000 in
set_option maxRecDepth 100000 in
theorem fr_X12_looksAt {l1 : Int} {l2 : Int} {P Q : Ii → Jj → Prop} {I0 : Ii} {J0 : Jj} (h : wp_X12_looksAt l1 l2 I0 J0 P) (hq : ∀ (I' : Ii) (J' : Jj), P I' J' → Same (W_X12_looksAt) I0 J0 I' J' → Q I' J') : wp_X12_looksAt l1 l2 I0 J0 Q := by
  have hs := Same.rf (W := (W_X12_looksAt)) I0 J0
  unfold wp_X12_looksAt at h ⊢
  obtain ⟨n, h⟩ := h
  exact ⟨n, fl_X12_looksAt_5 hq n _ _ _ _ h hs⟩
set_option maxHeartbeats 4000000 in
set_option maxRecDepth 100000 in
theorem fr_X12_keptEvents {P Q : Int → Ii → Jj → Prop} {I : Ii} {J : Jj} (h : wp_X12_keptEvents I J P) (hq : ∀ (v : Int), P v I J → Q v I J) : wp_X12_keptEvents I J Q := by
  unfold wp_X12_keptEvents at h ⊢
  obtain ⟨g, h⟩ := h
  refine ⟨g, ?_⟩
  refine ⟨fun c => ?_, fun c => ?_⟩
  · replace h := h.1 c
    exact hq _ h
  · replace h := h.2 c
    exact hq _ h
def W_X12_events : Nat → Nat → Prop := WL [(0, 0)]
theorem W_X12_events_n {k : Nat} (h : wlk [(0, 0)] k = false := by rfl) : ∀ i, ¬ W_X12_events k i := WL_n h
set_option maxHeartbeats 4000000 in
set_option maxRecDepth 100000 in
theorem fr_X12_events {P Q : Int → Ii → Jj → Prop} {I0 : Ii} {J0 : Jj} (h : wp_X12_events I0 J0 P) (hq : ∀ (v : Int) (I' : Ii) (J' : Jj), P v I' J' → Same (W_X12_events) I0 J0 I' J' → Q v I' J') : wp_X12_events I0 J0 Q := by
  have hs := Same.rf (W := (W_X12_events)) I0 J0
  unfold wp_X12_events at h ⊢
  intro I1 e1
  replace h := h I1 e1
  replace hs := hs.upI e1 rfl
  refine fr_X12_keptEvents h (fun v h => ?_)
  exact hq _ _ _ h hs
def W_X12_event : Nat → Nat → Prop := WL [(0, 0)]
theorem W_X12_event_n {k : Nat} (h : wlk [(0, 0)] k = false := by rfl) : ∀ i, ¬ W_X12_event k i := WL_n h
set_option maxHeartbeats 4000000 in
set_option maxRecDepth 100000 in
theorem fr_X12_event {l1 : Int} {l2 : Int} {P Q : Int → Ii → Jj → Prop} {I0 : Ii} {J0 : Jj} (h : wp_X12_event l1 l2 I0 J0 P) (hq : ∀ (v : Int) (I' : Ii) (J' : Jj), P v I' J' → Same (W_X12_event) I0 J0 I' J' → Q v I' J') : wp_X12_event l1 l2 I0 J0 Q := by
  have hs := Same.rf (W := (W_X12_event)) I0 J0
  unfold wp_X12_event at h ⊢
  refine fr_X12_keptEvents h (fun v h => ?_)
  refine fr_X12_isIn h (fun v h => ?_)
  refine fr_X12_isIn h (fun v h => ?_)
  refine fr_X12_goesBoth h (fun v I2 J2 h hs2 => ?_)
  replace hs := hs.trans hs2 (WL_sub rfl)
  refine ⟨fun c => ?_, fun c => ?_⟩
  · replace h := h.1 c
    exact hq _ _ _ h hs
  · replace h := h.2 c
    obtain ⟨g, h⟩ := h
    refine ⟨g, ?_⟩
    obtain ⟨g, h⟩ := h
    refine ⟨g, ?_⟩
    exact hq _ _ _ h hs
def W_X12_comes : Nat → Nat → Prop := WL [(2, 1000)]
theorem W_X12_comes_n {k : Nat} (h : wlk [(2, 1000)] k = false := by rfl) : ∀ i, ¬ W_X12_comes k i := WL_n h
theorem ls_X12_comes_16 {l1 : Int} {l2 : Int} {Q : Int → Ii → Jj → Prop} {n : Nat} {l3 : Int} {l4 : Int} {I : Ii} {J : Jj} (h : Lb_X12_comes_16 l1 l2 Q (L_X12_comes_16 l1 l2 Q n) l3 l4 I J) : L_X12_comes_16 l1 l2 Q (n + 1) l3 l4 I J := h
set_option maxHeartbeats 4000000 in
set_option maxRecDepth 100000 in
theorem fl_X12_comes_16 {l1 : Int} {l2 : Int} {P Q : Int → Ii → Jj → Prop} {I0 : Ii} {J0 : Jj} (hq : ∀ (v : Int) (I' : Ii) (J' : Jj), P v I' J' → Same (W_X12_comes) I0 J0 I' J' → Q v I' J') : ∀ (n : Nat) (l3 : Int) (l4 : Int) (I : Ii) (J : Jj), L_X12_comes_16 l1 l2 P n l3 l4 I J → Same (W_X12_comes) I0 J0 I J → L_X12_comes_16 l1 l2 Q n l3 l4 I J := by
  intro n
  induction n with
  | zero => intro l3 l4 I J h _; exact h
  | succ n ih =>
    intro l3 l4 I J h hs
    have h : Lb_X12_comes_16 l1 l2 P (L_X12_comes_16 l1 l2 P n) l3 l4 I J := h
    show Lb_X12_comes_16 l1 l2 Q (L_X12_comes_16 l1 l2 Q n) l3 l4 I J
    have hr16 := ih
    clear ih
    unfold Lb_X12_comes_16 at h ⊢
    obtain ⟨g, h⟩ := h
    refine ⟨g, ?_⟩
    obtain ⟨g, h⟩ := h
    refine ⟨g, ?_⟩
    refine ⟨fun c => ?_, fun c => ?_⟩
    · replace h := h.1 c
      obtain ⟨g, h⟩ := h
      refine ⟨g, ?_⟩
      obtain ⟨g, h⟩ := h
      refine ⟨g, ?_⟩
      intro I1 e1
      replace h := h I1 e1
      replace hs := hs.upI e1 rfl
      obtain ⟨g, h⟩ := h
      refine ⟨g, ?_⟩
      intro I1 e1
      replace h := h I1 e1
      replace hs := hs.upI e1 rfl
      obtain ⟨g, h⟩ := h
      refine ⟨g, ?_⟩
      intro I1 e1
      replace h := h I1 e1
      replace hs := hs.upI e1 rfl
      refine fr_X12_cutNow h (fun v h => ?_)
      obtain ⟨g, h⟩ := h
      refine ⟨g, ?_⟩
      intro I1 e1
      replace h := h I1 e1
      replace hs := hs.upI e1 rfl
      intro I1 e1
      replace h := h I1 e1
      replace hs := hs.upI e1 rfl
      exact hq _ _ _ h hs
    · replace h := h.2 c
      refine fr_X12_groupAt h (fun v h => ?_)
      obtain ⟨g, h⟩ := h
      refine ⟨g, ?_⟩
      obtain ⟨g, h⟩ := h
      refine ⟨g, ?_⟩
      refine ⟨fun c => ?_, fun c => ?_⟩
      · replace h := h.1 c
        exact hr16 _ _ _ _ h hs
      · replace h := h.2 c
        obtain ⟨g, h⟩ := h
        refine ⟨g, ?_⟩
        intro I1 e1
        replace h := h I1 e1
        replace hs := hs.upI e1 rfl
        exact hr16 _ _ _ _ h hs
set_option maxHeartbeats 4000000 in
set_option maxRecDepth 100000 in
theorem fr_X12_comes {l1 : Int} {l2 : Int} {P Q : Int → Ii → Jj → Prop} {I0 : Ii} {J0 : Jj} (h : wp_X12_comes l1 l2 I0 J0 P) (hq : ∀ (v : Int) (I' : Ii) (J' : Jj), P v I' J' → Same (W_X12_comes) I0 J0 I' J' → Q v I' J') : wp_X12_comes l1 l2 I0 J0 Q := by
  have hs := Same.rf (W := (W_X12_comes)) I0 J0
  unfold wp_X12_comes at h ⊢
  refine fr_X12_groupPart h (fun v h => ?_)
  obtain ⟨g, h⟩ := h
  refine ⟨g, ?_⟩
  obtain ⟨g, h⟩ := h
  refine ⟨g, ?_⟩
  refine ⟨fun c => ?_, fun c => ?_⟩
  · replace h := h.1 c
    obtain ⟨n, h⟩ := h
    exact ⟨n, fl_X12_comes_16 hq n _ _ _ _ h hs⟩
  · replace h := h.2 c
    exact hq _ _ _ h hs
def W_X12_kept : Nat → Nat → Prop := WL [(0, 23), (4, 1000)]
theorem W_X12_kept_n {k : Nat} (h : wlk [(0, 23), (4, 1000)] k = false := by rfl) : ∀ i, ¬ W_X12_kept k i := WL_n h
set_option maxHeartbeats 4000000 in
set_option maxRecDepth 100000 in
theorem fr_X12_kept {l1 : Int} {P Q : Int → Ii → Jj → Prop} {I0 : Ii} {J0 : Jj} (h : wp_X12_kept l1 I0 J0 P) (hq : ∀ (v : Int) (I' : Ii) (J' : Jj), P v I' J' → Same (W_X12_kept) I0 J0 I' J' → Q v I' J') : wp_X12_kept l1 I0 J0 Q := by
  have hs := Same.rf (W := (W_X12_kept)) I0 J0
  unfold wp_X12_kept at h ⊢
  refine fr_X12_keeps h (fun I2 J2 h hs2 => ?_)
  replace hs := hs.trans hs2 (WL_sub rfl)
  exact hq _ _ _ h hs
def W_X12_shrinks : Nat → Nat → Prop := WL [(10, 1000), (2, 1000)]
theorem W_X12_shrinks_n {k : Nat} (h : wlk [(10, 1000), (2, 1000)] k = false := by rfl) : ∀ i, ¬ W_X12_shrinks k i := WL_n h
set_option maxHeartbeats 4000000 in
set_option maxRecDepth 100000 in
theorem fb_X12_shrinks_126 {P Q : Int → Ii → Jj → Prop} {I0 : Ii} {J0 : Jj} (hq : ∀ (v : Int) (I' : Ii) (J' : Jj), P v I' J' → Same (W_X12_shrinks) I0 J0 I' J' → Q v I' J') {r35 q35 : Int → Int → Int → Int → Int → Ii → Jj → Prop} (hr35 : ∀ (l2 : Int) (l3 : Int) (l4 : Int) (l5 : Int) (l6 : Int) (I' : Ii) (J' : Jj), r35 l2 l3 l4 l5 l6 I' J' → Same (W_X12_shrinks) I0 J0 I' J' → q35 l2 l3 l4 l5 l6 I' J') {r71 q71 : Int → Int → Int → Int → Int → Int → Ii → Jj → Prop} (hr71 : ∀ (l2 : Int) (l3 : Int) (l4 : Int) (l5 : Int) (l6 : Int) (l7 : Int) (I' : Ii) (J' : Jj), r71 l2 l3 l4 l5 l6 l7 I' J' → Same (W_X12_shrinks) I0 J0 I' J' → q71 l2 l3 l4 l5 l6 l7 I' J') {l2 : Int} {l3 : Int} {l4 : Int} {l5 : Int} {l6 : Int} {l7 : Int} {I : Ii} {J : Jj} (h : B_X12_shrinks_126 P r35 r71 l2 l3 l4 l5 l6 l7 I J) (hs : Same (W_X12_shrinks) I0 J0 I J) : B_X12_shrinks_126 Q q35 q71 l2 l3 l4 l5 l6 l7 I J := by
  unfold B_X12_shrinks_126 at h ⊢
  obtain ⟨g, h⟩ := h
  refine ⟨g, ?_⟩
  intro I1 e1
  replace h := h I1 e1
  replace hs := hs.upI e1 rfl
  exact hr71 _ _ _ _ _ _ _ _ h hs
theorem ls_X12_shrinks_71 {Q : Int → Ii → Jj → Prop} {r35 : Int → Int → Int → Int → Int → Ii → Jj → Prop} {n : Nat} {l2 : Int} {l3 : Int} {l4 : Int} {l5 : Int} {l6 : Int} {l7 : Int} {I : Ii} {J : Jj} (h : Lb_X12_shrinks_71 Q r35 (L_X12_shrinks_71 Q r35 n) l2 l3 l4 l5 l6 l7 I J) : L_X12_shrinks_71 Q r35 (n + 1) l2 l3 l4 l5 l6 l7 I J := h
set_option maxHeartbeats 4000000 in
set_option maxRecDepth 100000 in
theorem fl_X12_shrinks_71 {P Q : Int → Ii → Jj → Prop} {I0 : Ii} {J0 : Jj} (hq : ∀ (v : Int) (I' : Ii) (J' : Jj), P v I' J' → Same (W_X12_shrinks) I0 J0 I' J' → Q v I' J') {r35 q35 : Int → Int → Int → Int → Int → Ii → Jj → Prop} (hr35 : ∀ (l2 : Int) (l3 : Int) (l4 : Int) (l5 : Int) (l6 : Int) (I' : Ii) (J' : Jj), r35 l2 l3 l4 l5 l6 I' J' → Same (W_X12_shrinks) I0 J0 I' J' → q35 l2 l3 l4 l5 l6 I' J') : ∀ (n : Nat) (l2 : Int) (l3 : Int) (l4 : Int) (l5 : Int) (l6 : Int) (l7 : Int) (I : Ii) (J : Jj), L_X12_shrinks_71 P r35 n l2 l3 l4 l5 l6 l7 I J → Same (W_X12_shrinks) I0 J0 I J → L_X12_shrinks_71 Q q35 n l2 l3 l4 l5 l6 l7 I J := by
  intro n
  induction n with
  | zero => intro l2 l3 l4 l5 l6 l7 I J h _; exact h
  | succ n ih =>
    intro l2 l3 l4 l5 l6 l7 I J h hs
    have h : Lb_X12_shrinks_71 P r35 (L_X12_shrinks_71 P r35 n) l2 l3 l4 l5 l6 l7 I J := h
    show Lb_X12_shrinks_71 Q q35 (L_X12_shrinks_71 Q q35 n) l2 l3 l4 l5 l6 l7 I J
    have hr71 := ih
    clear ih
    unfold Lb_X12_shrinks_71 at h ⊢
    obtain ⟨g, h⟩ := h
    refine ⟨g, ?_⟩
    obtain ⟨g, h⟩ := h
    refine ⟨g, ?_⟩
    refine ⟨fun c => ?_, fun c => ?_⟩
    · replace h := h.1 c
      exact hr35 _ _ _ _ _ _ _ h hs
    · replace h := h.2 c
      obtain ⟨g, h⟩ := h
      refine ⟨g, ?_⟩
      obtain ⟨g, h⟩ := h
      refine ⟨g, ?_⟩
      obtain ⟨g, h⟩ := h
      refine ⟨g, ?_⟩
      refine ⟨fun c => ?_, fun c => ?_⟩
      · replace h := h.1 c
        exact fb_X12_shrinks_126 hq hr35 hr71 h hs
      · replace h := h.2 c
        obtain ⟨g, h⟩ := h
        refine ⟨g, ?_⟩
        obtain ⟨g, h⟩ := h
        refine ⟨g, ?_⟩
        refine ⟨fun c => ?_, fun c => ?_⟩
        · replace h := h.1 c
          exact hr71 _ _ _ _ _ _ _ _ h hs
        · replace h := h.2 c
          obtain ⟨g, h⟩ := h
          refine ⟨g, ?_⟩
          obtain ⟨g, h⟩ := h
          refine ⟨g, ?_⟩
          refine ⟨fun c => ?_, fun c => ?_⟩
          · replace h := h.1 c
            exact hr71 _ _ _ _ _ _ _ _ h hs
          · replace h := h.2 c
            exact fb_X12_shrinks_126 hq hr35 hr71 h hs
theorem ls_X12_shrinks_35 {Q : Int → Ii → Jj → Prop} {n : Nat} {l2 : Int} {l3 : Int} {l4 : Int} {l5 : Int} {l6 : Int} {I : Ii} {J : Jj} (h : Lb_X12_shrinks_35 Q (L_X12_shrinks_35 Q n) l2 l3 l4 l5 l6 I J) : L_X12_shrinks_35 Q (n + 1) l2 l3 l4 l5 l6 I J := h
set_option maxHeartbeats 4000000 in
set_option maxRecDepth 100000 in
theorem fl_X12_shrinks_35 {P Q : Int → Ii → Jj → Prop} {I0 : Ii} {J0 : Jj} (hq : ∀ (v : Int) (I' : Ii) (J' : Jj), P v I' J' → Same (W_X12_shrinks) I0 J0 I' J' → Q v I' J') : ∀ (n : Nat) (l2 : Int) (l3 : Int) (l4 : Int) (l5 : Int) (l6 : Int) (I : Ii) (J : Jj), L_X12_shrinks_35 P n l2 l3 l4 l5 l6 I J → Same (W_X12_shrinks) I0 J0 I J → L_X12_shrinks_35 Q n l2 l3 l4 l5 l6 I J := by
  intro n
  induction n with
  | zero => intro l2 l3 l4 l5 l6 I J h _; exact h
  | succ n ih =>
    intro l2 l3 l4 l5 l6 I J h hs
    have h : Lb_X12_shrinks_35 P (L_X12_shrinks_35 P n) l2 l3 l4 l5 l6 I J := h
    show Lb_X12_shrinks_35 Q (L_X12_shrinks_35 Q n) l2 l3 l4 l5 l6 I J
    have hr35 := ih
    clear ih
    unfold Lb_X12_shrinks_35 at h ⊢
    obtain ⟨g, h⟩ := h
    refine ⟨g, ?_⟩
    obtain ⟨g, h⟩ := h
    refine ⟨g, ?_⟩
    refine ⟨fun c => ?_, fun c => ?_⟩
    · replace h := h.1 c
      intro I1 e1
      replace h := h I1 e1
      replace hs := hs.upI e1 rfl
      obtain ⟨g, h⟩ := h
      refine ⟨g, ?_⟩
      intro I1 e1
      replace h := h I1 e1
      replace hs := hs.upI e1 rfl
      exact hq _ _ _ h hs
    · replace h := h.2 c
      obtain ⟨g, h⟩ := h
      refine ⟨g, ?_⟩
      obtain ⟨g, h⟩ := h
      refine ⟨g, ?_⟩
      refine ⟨fun c => ?_, fun c => ?_⟩
      · replace h := h.1 c
        obtain ⟨n, h⟩ := h
        exact ⟨n, fl_X12_shrinks_71 hq hr35 n _ _ _ _ _ _ _ _ h hs⟩
      · replace h := h.2 c
        obtain ⟨g, h⟩ := h
        refine ⟨g, ?_⟩
        refine ⟨fun c => ?_, fun c => ?_⟩
        · replace h := h.1 c
          obtain ⟨n, h⟩ := h
          exact ⟨n, fl_X12_shrinks_71 hq hr35 n _ _ _ _ _ _ _ _ h hs⟩
        · replace h := h.2 c
          exact hr35 _ _ _ _ _ _ _ h hs
set_option maxHeartbeats 4000000 in
set_option maxRecDepth 100000 in
theorem fr_X12_shrinks {P Q : Int → Ii → Jj → Prop} {I0 : Ii} {J0 : Jj} (h : wp_X12_shrinks I0 J0 P) (hq : ∀ (v : Int) (I' : Ii) (J' : Jj), P v I' J' → Same (W_X12_shrinks) I0 J0 I' J' → Q v I' J') : wp_X12_shrinks I0 J0 Q := by
  have hs := Same.rf (W := (W_X12_shrinks)) I0 J0
  unfold wp_X12_shrinks at h ⊢
  refine fr_X12_laysMates h (fun v I2 J2 h hs2 => ?_)
  replace hs := hs.trans hs2 (WL_sub rfl)
  refine fr_X12_groups h (fun v h => ?_)
  obtain ⟨n, h⟩ := h
  exact ⟨n, fl_X12_shrinks_35 hq n _ _ _ _ _ _ _ h hs⟩
def W_X12_grows : Nat → Nat → Prop := WL [(2, 1000)]
theorem W_X12_grows_n {k : Nat} (h : wlk [(2, 1000)] k = false := by rfl) : ∀ i, ¬ W_X12_grows k i := WL_n h
set_option maxHeartbeats 4000000 in
set_option maxRecDepth 100000 in
theorem fr_X12_grows {P Q : Int → Ii → Jj → Prop} {I0 : Ii} {J0 : Jj} (h : wp_X12_grows I0 J0 P) (hq : ∀ (v : Int) (I' : Ii) (J' : Jj), P v I' J' → Same (W_X12_grows) I0 J0 I' J' → Q v I' J') : wp_X12_grows I0 J0 Q := by
  have hs := Same.rf (W := (W_X12_grows)) I0 J0
  unfold wp_X12_grows at h ⊢
  intro I1 e1
  replace h := h I1 e1
  replace hs := hs.upI e1 rfl
  refine fr_X12_groups h (fun v h => ?_)
  exact hq _ _ _ h hs
def W_X12_moves : Nat → Nat → Prop := WL [(2, 1000)]
theorem W_X12_moves_n {k : Nat} (h : wlk [(2, 1000)] k = false := by rfl) : ∀ i, ¬ W_X12_moves k i := WL_n h
set_option maxHeartbeats 4000000 in
set_option maxRecDepth 100000 in
theorem fr_X12_moves {l1 : Int} {l2 : Int} {P Q : Int → Ii → Jj → Prop} {I0 : Ii} {J0 : Jj} (h : wp_X12_moves l1 l2 I0 J0 P) (hq : ∀ (v : Int) (I' : Ii) (J' : Jj), P v I' J' → Same (W_X12_moves) I0 J0 I' J' → Q v I' J') : wp_X12_moves l1 l2 I0 J0 Q := by
  have hs := Same.rf (W := (W_X12_moves)) I0 J0
  unfold wp_X12_moves at h ⊢
  refine fr_X12_comes h (fun v I2 J2 h hs2 => ?_)
  replace hs := hs.trans hs2 (WL_sub rfl)
  refine fr_X12_cutNow h (fun v h => ?_)
  exact hq _ _ _ h hs
def W_X12_stepNow : Nat → Nat → Prop := WL [(2, 1000)]
theorem W_X12_stepNow_n {k : Nat} (h : wlk [(2, 1000)] k = false := by rfl) : ∀ i, ¬ W_X12_stepNow k i := WL_n h
set_option maxHeartbeats 4000000 in
set_option maxRecDepth 100000 in
theorem fr_X12_stepNow {P Q : Int → Ii → Jj → Prop} {I0 : Ii} {J0 : Jj} (h : wp_X12_stepNow I0 J0 P) (hq : ∀ (v : Int) (I' : Ii) (J' : Jj), P v I' J' → Same (W_X12_stepNow) I0 J0 I' J' → Q v I' J') : wp_X12_stepNow I0 J0 Q := by
  have hs := Same.rf (W := (W_X12_stepNow)) I0 J0
  unfold wp_X12_stepNow at h ⊢
  refine fr_X12_nextNow h (fun v h => ?_)
  obtain ⟨g, h⟩ := h
  refine ⟨g, ?_⟩
  refine ⟨fun c => ?_, fun c => ?_⟩
  · replace h := h.1 c
    obtain ⟨g, h⟩ := h
    refine ⟨g, ?_⟩
    obtain ⟨g, h⟩ := h
    refine ⟨g, ?_⟩
    refine fr_X12_moves h (fun v I2 J2 h hs2 => ?_)
    replace hs := hs.trans hs2 (WL_sub rfl)
    exact hq _ _ _ h hs
  · replace h := h.2 c
    exact hq _ _ _ h hs
def W_X12_stepsNow : Nat → Nat → Prop := WL [(2, 1000)]
theorem W_X12_stepsNow_n {k : Nat} (h : wlk [(2, 1000)] k = false := by rfl) : ∀ i, ¬ W_X12_stepsNow k i := WL_n h
set_option maxHeartbeats 4000000 in
set_option maxRecDepth 100000 in
theorem fb_X12_stepsNow_26 {l1 : Int} {P Q : Int → Ii → Jj → Prop} {I0 : Ii} {J0 : Jj} (hq : ∀ (v : Int) (I' : Ii) (J' : Jj), P v I' J' → Same (W_X12_stepsNow) I0 J0 I' J' → Q v I' J') {r4 q4 : Int → Int → Ii → Jj → Prop} (hr4 : ∀ (l2 : Int) (l3 : Int) (I' : Ii) (J' : Jj), r4 l2 l3 I' J' → Same (W_X12_stepsNow) I0 J0 I' J' → q4 l2 l3 I' J') {l2 : Int} {t0 : Int} {I : Ii} {J : Jj} (h : B_X12_stepsNow_26 l1 P r4 l2 t0 I J) (hs : Same (W_X12_stepsNow) I0 J0 I J) : B_X12_stepsNow_26 l1 Q q4 l2 t0 I J := by
  unfold B_X12_stepsNow_26 at h ⊢
  refine fr_X12_truth h (fun v h => ?_)
  exact hr4 _ _ _ _ h hs
theorem ls_X12_stepsNow_4 {l1 : Int} {Q : Int → Ii → Jj → Prop} {n : Nat} {l2 : Int} {l3 : Int} {I : Ii} {J : Jj} (h : Lb_X12_stepsNow_4 l1 Q (L_X12_stepsNow_4 l1 Q n) l2 l3 I J) : L_X12_stepsNow_4 l1 Q (n + 1) l2 l3 I J := h
set_option maxHeartbeats 4000000 in
set_option maxRecDepth 100000 in
theorem fl_X12_stepsNow_4 {l1 : Int} {P Q : Int → Ii → Jj → Prop} {I0 : Ii} {J0 : Jj} (hq : ∀ (v : Int) (I' : Ii) (J' : Jj), P v I' J' → Same (W_X12_stepsNow) I0 J0 I' J' → Q v I' J') : ∀ (n : Nat) (l2 : Int) (l3 : Int) (I : Ii) (J : Jj), L_X12_stepsNow_4 l1 P n l2 l3 I J → Same (W_X12_stepsNow) I0 J0 I J → L_X12_stepsNow_4 l1 Q n l2 l3 I J := by
  intro n
  induction n with
  | zero => intro l2 l3 I J h _; exact h
  | succ n ih =>
    intro l2 l3 I J h hs
    have h : Lb_X12_stepsNow_4 l1 P (L_X12_stepsNow_4 l1 P n) l2 l3 I J := h
    show Lb_X12_stepsNow_4 l1 Q (L_X12_stepsNow_4 l1 Q n) l2 l3 I J
    have hr4 := ih
    clear ih
    unfold Lb_X12_stepsNow_4 at h ⊢
    obtain ⟨g, h⟩ := h
    refine ⟨g, ?_⟩
    obtain ⟨g, h⟩ := h
    refine ⟨g, ?_⟩
    refine ⟨fun c => ?_, fun c => ?_⟩
    · replace h := h.1 c
      exact hq _ _ _ h hs
    · replace h := h.2 c
      obtain ⟨g, h⟩ := h
      refine ⟨g, ?_⟩
      refine ⟨fun c => ?_, fun c => ?_⟩
      · replace h := h.1 c
        exact hq _ _ _ h hs
      · replace h := h.2 c
        refine fr_X12_stepNow h (fun v I2 J2 h hs2 => ?_)
        replace hs := hs.trans hs2 (WL_sub rfl)
        obtain ⟨g, h⟩ := h
        refine ⟨g, ?_⟩
        refine ⟨fun c => ?_, fun c => ?_⟩
        · replace h := h.1 c
          exact fb_X12_stepsNow_26 hq hr4 h hs
        · replace h := h.2 c
          exact fb_X12_stepsNow_26 hq hr4 h hs
set_option maxHeartbeats 4000000 in
set_option maxRecDepth 100000 in
theorem fr_X12_stepsNow {l1 : Int} {P Q : Int → Ii → Jj → Prop} {I0 : Ii} {J0 : Jj} (h : wp_X12_stepsNow l1 I0 J0 P) (hq : ∀ (v : Int) (I' : Ii) (J' : Jj), P v I' J' → Same (W_X12_stepsNow) I0 J0 I' J' → Q v I' J') : wp_X12_stepsNow l1 I0 J0 Q := by
  have hs := Same.rf (W := (W_X12_stepsNow)) I0 J0
  unfold wp_X12_stepsNow at h ⊢
  obtain ⟨n, h⟩ := h
  exact ⟨n, fl_X12_stepsNow_4 hq n _ _ _ _ h hs⟩
def W_X12_placesApart : Nat → Nat → Prop := WL [(0, 26), (0, 27), (2, 1000)]
theorem W_X12_placesApart_n {k : Nat} (h : wlk [(0, 26), (0, 27), (2, 1000)] k = false := by rfl) : ∀ i, ¬ W_X12_placesApart k i := WL_n h
set_option maxHeartbeats 4000000 in
set_option maxRecDepth 100000 in
theorem fb_X12_placesApart_47 {l1 : Int} {l2 : Int} {P Q : Int → Ii → Jj → Prop} {I0 : Ii} {J0 : Jj} (hq : ∀ (v : Int) (I' : Ii) (J' : Jj), P v I' J' → Same (W_X12_placesApart) I0 J0 I' J' → Q v I' J') {r17 q17 : Int → Int → Int → Ii → Jj → Prop} (hr17 : ∀ (l3 : Int) (l4 : Int) (l5 : Int) (I' : Ii) (J' : Jj), r17 l3 l4 l5 I' J' → Same (W_X12_placesApart) I0 J0 I' J' → q17 l3 l4 l5 I' J') {l3 : Int} {l5 : Int} {t0 : Int} {t2 : Int} {t3 : Int} {I : Ii} {J : Jj} (h : B_X12_placesApart_47 l1 l2 P r17 l3 l5 t0 t2 t3 I J) (hs : Same (W_X12_placesApart) I0 J0 I J) : B_X12_placesApart_47 l1 l2 Q q17 l3 l5 t0 t2 t3 I J := by
  unfold B_X12_placesApart_47 at h ⊢
  refine fr_X12_comes h (fun v I2 J2 h hs2 => ?_)
  replace hs := hs.trans hs2 (WL_sub rfl)
  refine fr_X12_truth h (fun v h => ?_)
  exact hr17 _ _ _ _ _ h hs
theorem ls_X12_placesApart_17 {l1 : Int} {l2 : Int} {Q : Int → Ii → Jj → Prop} {n : Nat} {l3 : Int} {l4 : Int} {l5 : Int} {I : Ii} {J : Jj} (h : Lb_X12_placesApart_17 l1 l2 Q (L_X12_placesApart_17 l1 l2 Q n) l3 l4 l5 I J) : L_X12_placesApart_17 l1 l2 Q (n + 1) l3 l4 l5 I J := h
set_option maxHeartbeats 4000000 in
set_option maxRecDepth 100000 in
theorem fl_X12_placesApart_17 {l1 : Int} {l2 : Int} {P Q : Int → Ii → Jj → Prop} {I0 : Ii} {J0 : Jj} (hq : ∀ (v : Int) (I' : Ii) (J' : Jj), P v I' J' → Same (W_X12_placesApart) I0 J0 I' J' → Q v I' J') : ∀ (n : Nat) (l3 : Int) (l4 : Int) (l5 : Int) (I : Ii) (J : Jj), L_X12_placesApart_17 l1 l2 P n l3 l4 l5 I J → Same (W_X12_placesApart) I0 J0 I J → L_X12_placesApart_17 l1 l2 Q n l3 l4 l5 I J := by
  intro n
  induction n with
  | zero => intro l3 l4 l5 I J h _; exact h
  | succ n ih =>
    intro l3 l4 l5 I J h hs
    have h : Lb_X12_placesApart_17 l1 l2 P (L_X12_placesApart_17 l1 l2 P n) l3 l4 l5 I J := h
    show Lb_X12_placesApart_17 l1 l2 Q (L_X12_placesApart_17 l1 l2 Q n) l3 l4 l5 I J
    have hr17 := ih
    clear ih
    unfold Lb_X12_placesApart_17 at h ⊢
    obtain ⟨g, h⟩ := h
    refine ⟨g, ?_⟩
    obtain ⟨g, h⟩ := h
    refine ⟨g, ?_⟩
    refine ⟨fun c => ?_, fun c => ?_⟩
    · replace h := h.1 c
      exact hq _ _ _ h hs
    · replace h := h.2 c
      refine fr_X12_hasBit h (fun v h => ?_)
      refine ⟨fun c => ?_, fun c => ?_⟩
      · replace h := h.1 c
        exact fb_X12_placesApart_47 hq hr17 h hs
      · replace h := h.2 c
        exact fb_X12_placesApart_47 hq hr17 h hs
set_option maxHeartbeats 4000000 in
set_option maxRecDepth 100000 in
theorem fr_X12_placesApart {l1 : Int} {l2 : Int} {P Q : Int → Ii → Jj → Prop} {I0 : Ii} {J0 : Jj} (h : wp_X12_placesApart l1 l2 I0 J0 P) (hq : ∀ (v : Int) (I' : Ii) (J' : Jj), P v I' J' → Same (W_X12_placesApart) I0 J0 I' J' → Q v I' J') : wp_X12_placesApart l1 l2 I0 J0 Q := by
  have hs := Same.rf (W := (W_X12_placesApart)) I0 J0
  unfold wp_X12_placesApart at h ⊢
  refine fr_X12_flows h (fun I2 J2 h hs2 => ?_)
  replace hs := hs.trans hs2 (WL_sub rfl)
  obtain ⟨n, h⟩ := h
  exact ⟨n, fl_X12_placesApart_17 hq n _ _ _ _ _ h hs⟩
set_option maxHeartbeats 4000000 in
set_option maxRecDepth 100000 in
theorem fr_X12_mayApart {P Q : Int → Ii → Jj → Prop} {I : Ii} {J : Jj} (h : wp_X12_mayApart I J P) (hq : ∀ (v : Int), P v I J → Q v I J) : wp_X12_mayApart I J Q := by
  unfold wp_X12_mayApart at h ⊢
  obtain ⟨g, h⟩ := h
  refine ⟨g, ?_⟩
  refine ⟨fun c => ?_, fun c => ?_⟩
  · replace h := h.1 c
    exact hq _ h
  · replace h := h.2 c
    obtain ⟨g, h⟩ := h
    refine ⟨g, ?_⟩
    refine ⟨fun c => ?_, fun c => ?_⟩
    · replace h := h.1 c
      exact hq _ h
    · replace h := h.2 c
      exact hq _ h
def W_X12_setsCredit : Nat → Nat → Prop := WL [(2, 1000)]
theorem W_X12_setsCredit_n {k : Nat} (h : wlk [(2, 1000)] k = false := by rfl) : ∀ i, ¬ W_X12_setsCredit k i := WL_n h
set_option maxHeartbeats 4000000 in
set_option maxRecDepth 100000 in
theorem fr_X12_setsCredit {l1 : Int} {P Q : Int → Ii → Jj → Prop} {I0 : Ii} {J0 : Jj} (h : wp_X12_setsCredit l1 I0 J0 P) (hq : ∀ (v : Int) (I' : Ii) (J' : Jj), P v I' J' → Same (W_X12_setsCredit) I0 J0 I' J' → Q v I' J') : wp_X12_setsCredit l1 I0 J0 Q := by
  have hs := Same.rf (W := (W_X12_setsCredit)) I0 J0
  unfold wp_X12_setsCredit at h ⊢
  intro I1 e1
  replace h := h I1 e1
  replace hs := hs.upI e1 rfl
  exact hq _ _ _ h hs
def W_X12_shrink : Nat → Nat → Prop := WL [(0, 0), (0, 23), (10, 1000), (2, 1000), (4, 1000), (5, 1000)]
theorem W_X12_shrink_n {k : Nat} (h : wlk [(0, 0), (0, 23), (10, 1000), (2, 1000), (4, 1000), (5, 1000)] k = false := by rfl) : ∀ i, ¬ W_X12_shrink k i := WL_n h
set_option maxHeartbeats 4000000 in
set_option maxRecDepth 100000 in
theorem fb_X12_shrink_13 {P Q : Int → Ii → Jj → Prop} {I0 : Ii} {J0 : Jj} (hq : ∀ (v : Int) (I' : Ii) (J' : Jj), P v I' J' → Same (W_X12_shrink) I0 J0 I' J' → Q v I' J') {t1 : Int} {I : Ii} {J : Jj} (h : B_X12_shrink_13 P t1 I J) (hs : Same (W_X12_shrink) I0 J0 I J) : B_X12_shrink_13 Q t1 I J := by
  unfold B_X12_shrink_13 at h ⊢
  refine fr_X12_goes h (fun v I2 J2 h hs2 => ?_)
  replace hs := hs.trans hs2 (WL_sub rfl)
  refine ⟨fun c => ?_, fun c => ?_⟩
  · replace h := h.1 c
    refine fr_X12_laysAside h (fun I2 J2 h hs2 => ?_)
    replace hs := hs.trans hs2 (WL_sub rfl)
    refine fr_X12_shrinks h (fun v I2 J2 h hs2 => ?_)
    replace hs := hs.trans hs2 (WL_sub rfl)
    refine fr_X12_kept h (fun v I2 J2 h hs2 => ?_)
    replace hs := hs.trans hs2 (WL_sub rfl)
    exact hq _ _ _ h hs
  · replace h := h.2 c
    exact hq _ _ _ h hs
set_option maxHeartbeats 4000000 in
set_option maxRecDepth 100000 in
theorem fr_X12_shrink {P Q : Int → Ii → Jj → Prop} {I0 : Ii} {J0 : Jj} (h : wp_X12_shrink I0 J0 P) (hq : ∀ (v : Int) (I' : Ii) (J' : Jj), P v I' J' → Same (W_X12_shrink) I0 J0 I' J' → Q v I' J') : wp_X12_shrink I0 J0 Q := by
  have hs := Same.rf (W := (W_X12_shrink)) I0 J0
  unfold wp_X12_shrink at h ⊢
  refine fr_X12_whyShrink h (fun v I2 J2 h hs2 => ?_)
  replace hs := hs.trans hs2 (WL_sub rfl)
  obtain ⟨g, h⟩ := h
  refine ⟨g, ?_⟩
  refine ⟨fun c => ?_, fun c => ?_⟩
  · replace h := h.1 c
    exact fb_X12_shrink_13 hq h hs
  · replace h := h.2 c
    exact fb_X12_shrink_13 hq h hs
def W_X12_grow : Nat → Nat → Prop := WL [(0, 0), (0, 23), (2, 1000), (4, 1000), (5, 1000)]
theorem W_X12_grow_n {k : Nat} (h : wlk [(0, 0), (0, 23), (2, 1000), (4, 1000), (5, 1000)] k = false := by rfl) : ∀ i, ¬ W_X12_grow k i := WL_n h
set_option maxHeartbeats 4000000 in
set_option maxRecDepth 100000 in
theorem fb_X12_grow_15 {P Q : Int → Ii → Jj → Prop} {I0 : Ii} {J0 : Jj} (hq : ∀ (v : Int) (I' : Ii) (J' : Jj), P v I' J' → Same (W_X12_grow) I0 J0 I' J' → Q v I' J') {t1 : Int} {I : Ii} {J : Jj} (h : B_X12_grow_15 P t1 I J) (hs : Same (W_X12_grow) I0 J0 I J) : B_X12_grow_15 Q t1 I J := by
  unfold B_X12_grow_15 at h ⊢
  refine fr_X12_goes h (fun v I2 J2 h hs2 => ?_)
  replace hs := hs.trans hs2 (WL_sub rfl)
  refine ⟨fun c => ?_, fun c => ?_⟩
  · replace h := h.1 c
    refine fr_X12_laysAside h (fun I2 J2 h hs2 => ?_)
    replace hs := hs.trans hs2 (WL_sub rfl)
    refine fr_X12_grows h (fun v I2 J2 h hs2 => ?_)
    replace hs := hs.trans hs2 (WL_sub rfl)
    refine fr_X12_kept h (fun v I2 J2 h hs2 => ?_)
    replace hs := hs.trans hs2 (WL_sub rfl)
    exact hq _ _ _ h hs
  · replace h := h.2 c
    exact hq _ _ _ h hs
set_option maxHeartbeats 4000000 in
set_option maxRecDepth 100000 in
theorem fr_X12_grow {P Q : Int → Ii → Jj → Prop} {I0 : Ii} {J0 : Jj} (h : wp_X12_grow I0 J0 P) (hq : ∀ (v : Int) (I' : Ii) (J' : Jj), P v I' J' → Same (W_X12_grow) I0 J0 I' J' → Q v I' J') : wp_X12_grow I0 J0 Q := by
  have hs := Same.rf (W := (W_X12_grow)) I0 J0
  unfold wp_X12_grow at h ⊢
  obtain ⟨g, h⟩ := h
  refine ⟨g, ?_⟩
  refine ⟨fun c => ?_, fun c => ?_⟩
  · replace h := h.1 c
    exact fb_X12_grow_15 hq h hs
  · replace h := h.2 c
    exact fb_X12_grow_15 hq h hs
def W_X12_move : Nat → Nat → Prop := WL [(0, 0), (0, 23), (2, 1000), (4, 1000), (5, 1000)]
theorem W_X12_move_n {k : Nat} (h : wlk [(0, 0), (0, 23), (2, 1000), (4, 1000), (5, 1000)] k = false := by rfl) : ∀ i, ¬ W_X12_move k i := WL_n h
set_option maxHeartbeats 4000000 in
set_option maxRecDepth 100000 in
theorem fb_X12_move_27 {l1 : Int} {l2 : Int} {P Q : Int → Ii → Jj → Prop} {I0 : Ii} {J0 : Jj} (hq : ∀ (v : Int) (I' : Ii) (J' : Jj), P v I' J' → Same (W_X12_move) I0 J0 I' J' → Q v I' J') {t1 : Int} {t2 : Int} {I : Ii} {J : Jj} (h : B_X12_move_27 l1 l2 P t1 t2 I J) (hs : Same (W_X12_move) I0 J0 I J) : B_X12_move_27 l1 l2 Q t1 t2 I J := by
  unfold B_X12_move_27 at h ⊢
  refine fr_X12_goesBoth h (fun v I2 J2 h hs2 => ?_)
  replace hs := hs.trans hs2 (WL_sub rfl)
  refine ⟨fun c => ?_, fun c => ?_⟩
  · replace h := h.1 c
    refine fr_X12_laysAside h (fun I2 J2 h hs2 => ?_)
    replace hs := hs.trans hs2 (WL_sub rfl)
    refine fr_X12_moves h (fun v I2 J2 h hs2 => ?_)
    replace hs := hs.trans hs2 (WL_sub rfl)
    refine fr_X12_kept h (fun v I2 J2 h hs2 => ?_)
    replace hs := hs.trans hs2 (WL_sub rfl)
    exact hq _ _ _ h hs
  · replace h := h.2 c
    exact hq _ _ _ h hs
set_option maxHeartbeats 4000000 in
set_option maxRecDepth 100000 in
theorem fr_X12_move {l1 : Int} {l2 : Int} {P Q : Int → Ii → Jj → Prop} {I0 : Ii} {J0 : Jj} (h : wp_X12_move l1 l2 I0 J0 P) (hq : ∀ (v : Int) (I' : Ii) (J' : Jj), P v I' J' → Same (W_X12_move) I0 J0 I' J' → Q v I' J') : wp_X12_move l1 l2 I0 J0 Q := by
  have hs := Same.rf (W := (W_X12_move)) I0 J0
  unfold wp_X12_move at h ⊢
  refine fr_X12_areThere h (fun v h => ?_)
  refine ⟨fun c => ?_, fun c => ?_⟩
  · replace h := h.1 c
    exact fb_X12_move_27 hq h hs
  · replace h := h.2 c
    refine fr_X12_whyMove h (fun v h => ?_)
    obtain ⟨g, h⟩ := h
    refine ⟨g, ?_⟩
    refine ⟨fun c => ?_, fun c => ?_⟩
    · replace h := h.1 c
      exact fb_X12_move_27 hq h hs
    · replace h := h.2 c
      exact fb_X12_move_27 hq h hs
def W_X12_step : Nat → Nat → Prop := WL [(0, 0), (0, 23), (2, 1000), (4, 1000), (5, 1000)]
theorem W_X12_step_n {k : Nat} (h : wlk [(0, 0), (0, 23), (2, 1000), (4, 1000), (5, 1000)] k = false := by rfl) : ∀ i, ¬ W_X12_step k i := WL_n h
set_option maxHeartbeats 4000000 in
set_option maxRecDepth 100000 in
theorem fr_X12_step {P Q : Int → Ii → Jj → Prop} {I0 : Ii} {J0 : Jj} (h : wp_X12_step I0 J0 P) (hq : ∀ (v : Int) (I' : Ii) (J' : Jj), P v I' J' → Same (W_X12_step) I0 J0 I' J' → Q v I' J') : wp_X12_step I0 J0 Q := by
  have hs := Same.rf (W := (W_X12_step)) I0 J0
  unfold wp_X12_step at h ⊢
  intro I1 e1
  replace h := h I1 e1
  replace hs := hs.upI e1 rfl
  refine fr_X12_laysAside h (fun I2 J2 h hs2 => ?_)
  replace hs := hs.trans hs2 (WL_sub rfl)
  refine fr_X12_stepNow h (fun v I2 J2 h hs2 => ?_)
  replace hs := hs.trans hs2 (WL_sub rfl)
  obtain ⟨g, h⟩ := h
  refine ⟨g, ?_⟩
  refine ⟨fun c => ?_, fun c => ?_⟩
  · replace h := h.1 c
    refine fr_X12_kept h (fun v I2 J2 h hs2 => ?_)
    replace hs := hs.trans hs2 (WL_sub rfl)
    exact hq _ _ _ h hs
  · replace h := h.2 c
    exact hq _ _ _ h hs
def W_X12_steps : Nat → Nat → Prop := WL [(0, 0), (0, 23), (2, 1000), (4, 1000), (5, 1000)]
theorem W_X12_steps_n {k : Nat} (h : wlk [(0, 0), (0, 23), (2, 1000), (4, 1000), (5, 1000)] k = false := by rfl) : ∀ i, ¬ W_X12_steps k i := WL_n h
set_option maxHeartbeats 4000000 in
set_option maxRecDepth 100000 in
theorem fr_X12_steps {l1 : Int} {P Q : Int → Ii → Jj → Prop} {I0 : Ii} {J0 : Jj} (h : wp_X12_steps l1 I0 J0 P) (hq : ∀ (v : Int) (I' : Ii) (J' : Jj), P v I' J' → Same (W_X12_steps) I0 J0 I' J' → Q v I' J') : wp_X12_steps l1 I0 J0 Q := by
  have hs := Same.rf (W := (W_X12_steps)) I0 J0
  unfold wp_X12_steps at h ⊢
  refine fr_X12_isIn h (fun v h => ?_)
  refine fr_X12_goes h (fun v I2 J2 h hs2 => ?_)
  replace hs := hs.trans hs2 (WL_sub rfl)
  refine ⟨fun c => ?_, fun c => ?_⟩
  · replace h := h.1 c
    refine fr_X12_laysAside h (fun I2 J2 h hs2 => ?_)
    replace hs := hs.trans hs2 (WL_sub rfl)
    refine fr_X12_stepsNow h (fun v I2 J2 h hs2 => ?_)
    replace hs := hs.trans hs2 (WL_sub rfl)
    refine fr_X12_kept h (fun v I2 J2 h hs2 => ?_)
    replace hs := hs.trans hs2 (WL_sub rfl)
    exact hq _ _ _ h hs
  · replace h := h.2 c
    exact hq _ _ _ h hs
def W_X12_placeApart : Nat → Nat → Prop := WL [(0, 0), (0, 23), (0, 26), (0, 27), (2, 1000), (4, 1000), (5, 1000)]
theorem W_X12_placeApart_n {k : Nat} (h : wlk [(0, 0), (0, 23), (0, 26), (0, 27), (2, 1000), (4, 1000), (5, 1000)] k = false := by rfl) : ∀ i, ¬ W_X12_placeApart k i := WL_n h
set_option maxHeartbeats 4000000 in
set_option maxRecDepth 100000 in
theorem fb_X12_placeApart_44 {l1 : Int} {l2 : Int} {P Q : Int → Ii → Jj → Prop} {I0 : Ii} {J0 : Jj} (hq : ∀ (v : Int) (I' : Ii) (J' : Jj), P v I' J' → Same (W_X12_placeApart) I0 J0 I' J' → Q v I' J') {t1 : Int} {I : Ii} {J : Jj} (h : B_X12_placeApart_44 l1 l2 P t1 I J) (hs : Same (W_X12_placeApart) I0 J0 I J) : B_X12_placeApart_44 l1 l2 Q t1 I J := by
  unfold B_X12_placeApart_44 at h ⊢
  intro I1 e1
  replace h := h I1 e1
  replace hs := hs.upI e1 rfl
  obtain ⟨g, h⟩ := h
  refine ⟨g, ?_⟩
  refine ⟨fun c => ?_, fun c => ?_⟩
  · replace h := h.1 c
    refine fr_X12_laysAside h (fun I2 J2 h hs2 => ?_)
    replace hs := hs.trans hs2 (WL_sub rfl)
    refine fr_X12_placesApart h (fun v I2 J2 h hs2 => ?_)
    replace hs := hs.trans hs2 (WL_sub rfl)
    refine fr_X12_kept h (fun v I2 J2 h hs2 => ?_)
    replace hs := hs.trans hs2 (WL_sub rfl)
    exact hq _ _ _ h hs
  · replace h := h.2 c
    exact hq _ _ _ h hs
set_option maxHeartbeats 4000000 in
set_option maxRecDepth 100000 in
theorem fb_X12_placeApart_23 {l1 : Int} {l2 : Int} {P Q : Int → Ii → Jj → Prop} {I0 : Ii} {J0 : Jj} (hq : ∀ (v : Int) (I' : Ii) (J' : Jj), P v I' J' → Same (W_X12_placeApart) I0 J0 I' J' → Q v I' J') {t1 : Int} {t2 : Int} {I : Ii} {J : Jj} (h : B_X12_placeApart_23 l1 l2 P t1 t2 I J) (hs : Same (W_X12_placeApart) I0 J0 I J) : B_X12_placeApart_23 l1 l2 Q t1 t2 I J := by
  unfold B_X12_placeApart_23 at h ⊢
  refine fr_X12_goesBoth h (fun v I2 J2 h hs2 => ?_)
  replace hs := hs.trans hs2 (WL_sub rfl)
  refine ⟨fun c => ?_, fun c => ?_⟩
  · replace h := h.1 c
    refine fr_X12_mayApart h (fun v h => ?_)
    refine ⟨fun c => ?_, fun c => ?_⟩
    · replace h := h.1 c
      exact fb_X12_placeApart_44 hq h hs
    · replace h := h.2 c
      exact fb_X12_placeApart_44 hq h hs
  · replace h := h.2 c
    exact hq _ _ _ h hs
set_option maxHeartbeats 4000000 in
set_option maxRecDepth 100000 in
theorem fr_X12_placeApart {l1 : Int} {l2 : Int} {P Q : Int → Ii → Jj → Prop} {I0 : Ii} {J0 : Jj} (h : wp_X12_placeApart l1 l2 I0 J0 P) (hq : ∀ (v : Int) (I' : Ii) (J' : Jj), P v I' J' → Same (W_X12_placeApart) I0 J0 I' J' → Q v I' J') : wp_X12_placeApart l1 l2 I0 J0 Q := by
  have hs := Same.rf (W := (W_X12_placeApart)) I0 J0
  unfold wp_X12_placeApart at h ⊢
  refine fr_X12_areVertices h (fun v h => ?_)
  refine ⟨fun c => ?_, fun c => ?_⟩
  · replace h := h.1 c
    exact fb_X12_placeApart_23 hq h hs
  · replace h := h.2 c
    obtain ⟨g, h⟩ := h
    refine ⟨g, ?_⟩
    obtain ⟨g, h⟩ := h
    refine ⟨g, ?_⟩
    refine ⟨fun c => ?_, fun c => ?_⟩
    · replace h := h.1 c
      exact fb_X12_placeApart_23 hq h hs
    · replace h := h.2 c
      exact fb_X12_placeApart_23 hq h hs
def W_X12_setCredit : Nat → Nat → Prop := WL [(0, 0), (0, 23), (2, 1000), (4, 1000), (5, 1000)]
theorem W_X12_setCredit_n {k : Nat} (h : wlk [(0, 0), (0, 23), (2, 1000), (4, 1000), (5, 1000)] k = false := by rfl) : ∀ i, ¬ W_X12_setCredit k i := WL_n h
set_option maxHeartbeats 4000000 in
set_option maxRecDepth 100000 in
theorem fr_X12_setCredit {l1 : Int} {P Q : Int → Ii → Jj → Prop} {I0 : Ii} {J0 : Jj} (h : wp_X12_setCredit l1 I0 J0 P) (hq : ∀ (v : Int) (I' : Ii) (J' : Jj), P v I' J' → Same (W_X12_setCredit) I0 J0 I' J' → Q v I' J') : wp_X12_setCredit l1 I0 J0 Q := by
  have hs := Same.rf (W := (W_X12_setCredit)) I0 J0
  unfold wp_X12_setCredit at h ⊢
  refine fr_X12_isIn h (fun v h => ?_)
  refine fr_X12_goes h (fun v I2 J2 h hs2 => ?_)
  replace hs := hs.trans hs2 (WL_sub rfl)
  refine ⟨fun c => ?_, fun c => ?_⟩
  · replace h := h.1 c
    refine fr_X12_laysAside h (fun I2 J2 h hs2 => ?_)
    replace hs := hs.trans hs2 (WL_sub rfl)
    refine fr_X12_setsCredit h (fun v I2 J2 h hs2 => ?_)
    replace hs := hs.trans hs2 (WL_sub rfl)
    refine fr_X12_kept h (fun v I2 J2 h hs2 => ?_)
    replace hs := hs.trans hs2 (WL_sub rfl)
    exact hq _ _ _ h hs
  · replace h := h.2 c
    exact hq _ _ _ h hs
