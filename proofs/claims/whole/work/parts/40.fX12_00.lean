set_option maxHeartbeats 4000000 in
set_option maxRecDepth 100000 in
theorem fr_X12_thrown {P Q : Int → Ii → Jj → Prop} {I : Ii} {J : Jj} (h : wp_X12_thrown I J P) (hq : ∀ (v : Int), P v I J → Q v I J) : wp_X12_thrown I J Q := by
  unfold wp_X12_thrown at h ⊢
  exact hq _ h
set_option maxHeartbeats 4000000 in
set_option maxRecDepth 100000 in
theorem fr_X12_isIn {l0 : Int64} {l2 : Int64} {l4 : Int64} {P Q : Int → Ii → Jj → Prop} {I : Ii} {J : Jj} (h : wp_X12_isIn l0 l2 l4 I J P) (hq : ∀ (v : Int), P v I J → Q v I J) : wp_X12_isIn l0 l2 l4 I J Q := by
  unfold wp_X12_isIn at h ⊢
  refine ⟨fun c => ?_, fun c => ?_⟩
  · replace h := h.1 c
    exact hq _ h
  · replace h := h.2 c
    refine ⟨fun c => ?_, fun c => ?_⟩
    · replace h := h.1 c
      exact hq _ h
    · replace h := h.2 c
      exact hq _ h
set_option maxHeartbeats 4000000 in
set_option maxRecDepth 100000 in
theorem fr_X12_truth {l0 : Int} {P Q : Int → Ii → Jj → Prop} {I : Ii} {J : Jj} (h : wp_X12_truth l0 I J P) (hq : ∀ (v : Int), P v I J → Q v I J) : wp_X12_truth l0 I J Q := by
  unfold wp_X12_truth at h ⊢
  obtain ⟨g, h⟩ := h
  refine ⟨g, ?_⟩
  refine ⟨fun c => ?_, fun c => ?_⟩
  · replace h := h.1 c
    exact hq _ h
  · replace h := h.2 c
    exact hq _ h
set_option maxHeartbeats 4000000 in
set_option maxRecDepth 100000 in
theorem fr_X12_hasBit {l0 : Int} {l1 : Int} {P Q : Int → Ii → Jj → Prop} {I : Ii} {J : Jj} (h : wp_X12_hasBit l0 l1 I J P) (hq : ∀ (v : Int), P v I J → Q v I J) : wp_X12_hasBit l0 l1 I J Q := by
  unfold wp_X12_hasBit at h ⊢
  refine ⟨fun c => ?_, fun c => ?_⟩
  · replace h := h.1 c
    exact hq _ h
  · replace h := h.2 c
    exact hq _ h
def W_X12_goes : Nat → Nat → Prop := WL [(0, 0)]
theorem W_X12_goes_n {k : Nat} (h : wlk [(0, 0)] k = false := by rfl) : ∀ i, ¬ W_X12_goes k i := WL_n h
set_option maxHeartbeats 4000000 in
set_option maxRecDepth 100000 in
theorem fb_X12_goes_10 {l1 : Int} {P Q : Int → Ii → Jj → Prop} {I0 : Ii} {J0 : Jj} (hq : ∀ (v : Int) (I' : Ii) (J' : Jj), P v I' J' → Same (W_X12_goes) I0 J0 I' J' → Q v I' J') {t1 : Int} {I : Ii} {J : Jj} (h : B_X12_goes_10 l1 P t1 I J) (hs : Same (W_X12_goes) I0 J0 I J) : B_X12_goes_10 l1 Q t1 I J := by
  unfold B_X12_goes_10 at h ⊢
  refine fr_X12_truth h (fun v h => ?_)
  intro I1 e1
  replace h := h I1 e1
  replace hs := hs.upI e1 rfl
  obtain ⟨g, h⟩ := h
  refine ⟨g, ?_⟩
  exact hq _ _ _ h hs
set_option maxHeartbeats 4000000 in
set_option maxRecDepth 100000 in
theorem fr_X12_goes {l1 : Int} {P Q : Int → Ii → Jj → Prop} {I0 : Ii} {J0 : Jj} (h : wp_X12_goes l1 I0 J0 P) (hq : ∀ (v : Int) (I' : Ii) (J' : Jj), P v I' J' → Same (W_X12_goes) I0 J0 I' J' → Q v I' J') : wp_X12_goes l1 I0 J0 Q := by
  have hs := Same.rf (W := (W_X12_goes)) I0 J0
  unfold wp_X12_goes at h ⊢
  obtain ⟨g, h⟩ := h
  refine ⟨g, ?_⟩
  refine ⟨fun c => ?_, fun c => ?_⟩
  · replace h := h.1 c
    exact fb_X12_goes_10 hq h hs
  · replace h := h.2 c
    exact fb_X12_goes_10 hq h hs
def W_X12_goesBoth : Nat → Nat → Prop := WL [(0, 0)]
theorem W_X12_goesBoth_n {k : Nat} (h : wlk [(0, 0)] k = false := by rfl) : ∀ i, ¬ W_X12_goesBoth k i := WL_n h
set_option maxHeartbeats 4000000 in
set_option maxRecDepth 100000 in
theorem fb_X12_goesBoth_18 {l1 : Int} {l2 : Int} {P Q : Int → Ii → Jj → Prop} {I0 : Ii} {J0 : Jj} (hq : ∀ (v : Int) (I' : Ii) (J' : Jj), P v I' J' → Same (W_X12_goesBoth) I0 J0 I' J' → Q v I' J') {t1 : Int} {I : Ii} {J : Jj} (h : B_X12_goesBoth_18 l1 l2 P t1 I J) (hs : Same (W_X12_goesBoth) I0 J0 I J) : B_X12_goesBoth_18 l1 l2 Q t1 I J := by
  unfold B_X12_goesBoth_18 at h ⊢
  intro I1 e1
  replace h := h I1 e1
  replace hs := hs.upI e1 rfl
  obtain ⟨g, h⟩ := h
  refine ⟨g, ?_⟩
  refine ⟨fun c => ?_, fun c => ?_⟩
  · replace h := h.1 c
    exact hq _ _ _ h hs
  · replace h := h.2 c
    exact hq _ _ _ h hs
set_option maxHeartbeats 4000000 in
set_option maxRecDepth 100000 in
theorem fr_X12_goesBoth {l1 : Int} {l2 : Int} {P Q : Int → Ii → Jj → Prop} {I0 : Ii} {J0 : Jj} (h : wp_X12_goesBoth l1 l2 I0 J0 P) (hq : ∀ (v : Int) (I' : Ii) (J' : Jj), P v I' J' → Same (W_X12_goesBoth) I0 J0 I' J' → Q v I' J') : wp_X12_goesBoth l1 l2 I0 J0 Q := by
  have hs := Same.rf (W := (W_X12_goesBoth)) I0 J0
  unfold wp_X12_goesBoth at h ⊢
  obtain ⟨g, h⟩ := h
  refine ⟨g, ?_⟩
  refine ⟨fun c => ?_, fun c => ?_⟩
  · replace h := h.1 c
    obtain ⟨g, h⟩ := h
    refine ⟨g, ?_⟩
    refine ⟨fun c => ?_, fun c => ?_⟩
    · replace h := h.1 c
      exact fb_X12_goesBoth_18 hq h hs
    · replace h := h.2 c
      exact fb_X12_goesBoth_18 hq h hs
  · replace h := h.2 c
    exact fb_X12_goesBoth_18 hq h hs
def W_X12_four : Nat → Nat → Prop := WL [(0, 2), (1, 1000)]
theorem W_X12_four_n {k : Nat} (h : wlk [(0, 2), (1, 1000)] k = false := by rfl) : ∀ i, ¬ W_X12_four k i := WL_n h
theorem ls_X12_four_3 {l1 : Int} {Q : Ii → Jj → Prop} {n : Nat} {l2 : Int} {I : Ii} {J : Jj} (h : Lb_X12_four_3 l1 Q (L_X12_four_3 l1 Q n) l2 I J) : L_X12_four_3 l1 Q (n + 1) l2 I J := h
set_option maxHeartbeats 4000000 in
set_option maxRecDepth 100000 in
theorem fl_X12_four_3 {l1 : Int} {P Q : Ii → Jj → Prop} {I0 : Ii} {J0 : Jj} (hq : ∀ (I' : Ii) (J' : Jj), P I' J' → Same (W_X12_four) I0 J0 I' J' → Q I' J') : ∀ (n : Nat) (l2 : Int) (I : Ii) (J : Jj), L_X12_four_3 l1 P n l2 I J → Same (W_X12_four) I0 J0 I J → L_X12_four_3 l1 Q n l2 I J := by
  intro n
  induction n with
  | zero => intro l2 I J h _; exact h
  | succ n ih =>
    intro l2 I J h hs
    have h : Lb_X12_four_3 l1 P (L_X12_four_3 l1 P n) l2 I J := h
    show Lb_X12_four_3 l1 Q (L_X12_four_3 l1 Q n) l2 I J
    have hr3 := ih
    clear ih
    unfold Lb_X12_four_3 at h ⊢
    obtain ⟨g, h⟩ := h
    refine ⟨g, ?_⟩
    refine ⟨fun c => ?_, fun c => ?_⟩
    · replace h := h.1 c
      exact hq _ _ h hs
    · replace h := h.2 c
      obtain ⟨g, h⟩ := h
      refine ⟨g, ?_⟩
      intro I1 e1
      replace h := h I1 e1
      replace hs := hs.upI e1 rfl
      intro I1 e1
      replace h := h I1 e1
      replace hs := hs.upI e1 rfl
      exact hr3 _ _ _ h hs
set_option maxHeartbeats 4000000 in
set_option maxRecDepth 100000 in
theorem fr_X12_four {l1 : Int} {P Q : Ii → Jj → Prop} {I0 : Ii} {J0 : Jj} (h : wp_X12_four l1 I0 J0 P) (hq : ∀ (I' : Ii) (J' : Jj), P I' J' → Same (W_X12_four) I0 J0 I' J' → Q I' J') : wp_X12_four l1 I0 J0 Q := by
  have hs := Same.rf (W := (W_X12_four)) I0 J0
  unfold wp_X12_four at h ⊢
  obtain ⟨n, h⟩ := h
  exact ⟨n, fl_X12_four_3 hq n _ _ _ h hs⟩
def W_X12_truncate : Nat → Nat → Prop := WL [(0, 0), (0, 2)]
theorem W_X12_truncate_n {k : Nat} (h : wlk [(0, 0), (0, 2)] k = false := by rfl) : ∀ i, ¬ W_X12_truncate k i := WL_n h
set_option maxHeartbeats 4000000 in
set_option maxRecDepth 100000 in
theorem fr_X12_truncate {l1 : Int} {P Q : Int → Ii → Jj → Prop} {I0 : Ii} {J0 : Jj} (h : wp_X12_truncate l1 I0 J0 P) (hq : ∀ (v : Int) (I' : Ii) (J' : Jj), P v I' J' → Same (W_X12_truncate) I0 J0 I' J' → Q v I' J') : wp_X12_truncate l1 I0 J0 Q := by
  have hs := Same.rf (W := (W_X12_truncate)) I0 J0
  unfold wp_X12_truncate at h ⊢
  refine fr_X12_isIn h (fun v h => ?_)
  refine fr_X12_goes h (fun v I2 J2 h hs2 => ?_)
  replace hs := hs.trans hs2 (WL_sub rfl)
  refine ⟨fun c => ?_, fun c => ?_⟩
  · replace h := h.1 c
    intro I1 e1
    replace h := h I1 e1
    replace hs := hs.upI e1 rfl
    exact hq _ _ _ h hs
  · replace h := h.2 c
    exact hq _ _ _ h hs
set_option maxHeartbeats 4000000 in
set_option maxRecDepth 100000 in
theorem fr_X12_here {l1 : Int} {P Q : Int → Ii → Jj → Prop} {I : Ii} {J : Jj} (h : wp_X12_here l1 I J P) (hq : ∀ (v : Int), P v I J → Q v I J) : wp_X12_here l1 I J Q := by
  unfold wp_X12_here at h ⊢
  obtain ⟨g, h⟩ := h
  refine ⟨g, ?_⟩
  obtain ⟨g, h⟩ := h
  refine ⟨g, ?_⟩
  refine ⟨fun c => ?_, fun c => ?_⟩
  · replace h := h.1 c
    exact hq _ h
  · replace h := h.2 c
    obtain ⟨g, h⟩ := h
    refine ⟨g, ?_⟩
    exact hq _ h
set_option maxHeartbeats 4000000 in
set_option maxRecDepth 100000 in
theorem fr_X12_isLetter {l0 : Int} {P Q : Int → Ii → Jj → Prop} {I : Ii} {J : Jj} (h : wp_X12_isLetter l0 I J P) (hq : ∀ (v : Int), P v I J → Q v I J) : wp_X12_isLetter l0 I J Q := by
  unfold wp_X12_isLetter at h ⊢
  obtain ⟨g, h⟩ := h
  refine ⟨g, ?_⟩
  refine ⟨fun c => ?_, fun c => ?_⟩
  · replace h := h.1 c
    exact hq _ h
  · replace h := h.2 c
    refine ⟨fun c => ?_, fun c => ?_⟩
    · replace h := h.1 c
      exact hq _ h
    · replace h := h.2 c
      exact hq _ h
set_option maxHeartbeats 4000000 in
set_option maxRecDepth 100000 in
theorem fr_X12_isDigit {l0 : Int} {P Q : Int → Ii → Jj → Prop} {I : Ii} {J : Jj} (h : wp_X12_isDigit l0 I J P) (hq : ∀ (v : Int), P v I J → Q v I J) : wp_X12_isDigit l0 I J Q := by
  unfold wp_X12_isDigit at h ⊢
  obtain ⟨g, h⟩ := h
  refine ⟨g, ?_⟩
  refine ⟨fun c => ?_, fun c => ?_⟩
  · replace h := h.1 c
    exact hq _ h
  · replace h := h.2 c
    refine ⟨fun c => ?_, fun c => ?_⟩
    · replace h := h.1 c
      exact hq _ h
    · replace h := h.2 c
      exact hq _ h
def W_X12_goOn : Nat → Nat → Prop := WL [(0, 4), (0, 5), (0, 6), (0, 7), (0, 14)]
theorem W_X12_goOn_n {k : Nat} (h : wlk [(0, 4), (0, 5), (0, 6), (0, 7), (0, 14)] k = false := by rfl) : ∀ i, ¬ W_X12_goOn k i := WL_n h
set_option maxHeartbeats 4000000 in
set_option maxRecDepth 100000 in
theorem fb_X12_goOn_20 {P Q : Ii → Jj → Prop} {I0 : Ii} {J0 : Jj} (hq : ∀ (I' : Ii) (J' : Jj), P I' J' → Same (W_X12_goOn) I0 J0 I' J' → Q I' J') {r0 q0 : Ii → Jj → Prop} (hr0 : ∀  (I' : Ii) (J' : Jj), r0  I' J' → Same (W_X12_goOn) I0 J0 I' J' → q0  I' J') {I : Ii} {J : Jj} (h : B_X12_goOn_20 P r0  I J) (hs : Same (W_X12_goOn) I0 J0 I J) : B_X12_goOn_20 Q q0  I J := by
  unfold B_X12_goOn_20 at h ⊢
  intro I1 e1
  replace h := h I1 e1
  replace hs := hs.upI e1 rfl
  exact hr0 _ _ h hs
set_option maxHeartbeats 4000000 in
set_option maxRecDepth 100000 in
theorem fb_X12_goOn_239 {P Q : Ii → Jj → Prop} {I0 : Ii} {J0 : Jj} (hq : ∀ (I' : Ii) (J' : Jj), P I' J' → Same (W_X12_goOn) I0 J0 I' J' → Q I' J') {l2 : Int} {I : Ii} {J : Jj} (h : B_X12_goOn_239 P l2 I J) (hs : Same (W_X12_goOn) I0 J0 I J) : B_X12_goOn_239 Q l2 I J := by
  unfold B_X12_goOn_239 at h ⊢
  intro I1 e1
  replace h := h I1 e1
  replace hs := hs.upI e1 rfl
  exact hq _ _ h hs
theorem ls_X12_goOn_76 {Q : Ii → Jj → Prop} {n : Nat} {l2 : Int} {I : Ii} {J : Jj} (h : Lb_X12_goOn_76 Q (L_X12_goOn_76 Q n) l2 I J) : L_X12_goOn_76 Q (n + 1) l2 I J := h
set_option maxHeartbeats 4000000 in
set_option maxRecDepth 100000 in
theorem fl_X12_goOn_76 {P Q : Ii → Jj → Prop} {I0 : Ii} {J0 : Jj} (hq : ∀ (I' : Ii) (J' : Jj), P I' J' → Same (W_X12_goOn) I0 J0 I' J' → Q I' J') : ∀ (n : Nat) (l2 : Int) (I : Ii) (J : Jj), L_X12_goOn_76 P n l2 I J → Same (W_X12_goOn) I0 J0 I J → L_X12_goOn_76 Q n l2 I J := by
  intro n
  induction n with
  | zero => intro l2 I J h _; exact h
  | succ n ih =>
    intro l2 I J h hs
    have h : Lb_X12_goOn_76 P (L_X12_goOn_76 P n) l2 I J := h
    show Lb_X12_goOn_76 Q (L_X12_goOn_76 Q n) l2 I J
    have hr76 := ih
    clear ih
    unfold Lb_X12_goOn_76 at h ⊢
    refine fr_X12_here h (fun v h => ?_)
    refine fr_X12_isLetter h (fun v h => ?_)
    refine ⟨fun c => ?_, fun c => ?_⟩
    · replace h := h.1 c
      obtain ⟨g, h⟩ := h
      refine ⟨g, ?_⟩
      refine ⟨fun c => ?_, fun c => ?_⟩
      · replace h := h.1 c
        intro I1 e1
        replace h := h I1 e1
        replace hs := hs.upI e1 rfl
        exact fb_X12_goOn_239 hq h hs
      · replace h := h.2 c
        intro I1 e1
        replace h := h I1 e1
        replace hs := hs.upI e1 rfl
        exact fb_X12_goOn_239 hq h hs
    · replace h := h.2 c
      obtain ⟨g, h⟩ := h
      refine ⟨g, ?_⟩
      refine ⟨fun c => ?_, fun c => ?_⟩
      · replace h := h.1 c
        exact hr76 _ _ _ h hs
      · replace h := h.2 c
        refine fr_X12_here h (fun v h => ?_)
        intro I1 e1
        replace h := h I1 e1
        replace hs := hs.upJ e1 rfl
        exact hr76 _ _ _ h hs
theorem ls_X12_goOn_146 {Q : Ii → Jj → Prop} {n : Nat} {l2 : Int} {I : Ii} {J : Jj} (h : Lb_X12_goOn_146 Q (L_X12_goOn_146 Q n) l2 I J) : L_X12_goOn_146 Q (n + 1) l2 I J := h
set_option maxHeartbeats 4000000 in
set_option maxRecDepth 100000 in
theorem fl_X12_goOn_146 {P Q : Ii → Jj → Prop} {I0 : Ii} {J0 : Jj} (hq : ∀ (I' : Ii) (J' : Jj), P I' J' → Same (W_X12_goOn) I0 J0 I' J' → Q I' J') : ∀ (n : Nat) (l2 : Int) (I : Ii) (J : Jj), L_X12_goOn_146 P n l2 I J → Same (W_X12_goOn) I0 J0 I J → L_X12_goOn_146 Q n l2 I J := by
  intro n
  induction n with
  | zero => intro l2 I J h _; exact h
  | succ n ih =>
    intro l2 I J h hs
    have h : Lb_X12_goOn_146 P (L_X12_goOn_146 P n) l2 I J := h
    show Lb_X12_goOn_146 Q (L_X12_goOn_146 Q n) l2 I J
    have hr146 := ih
    clear ih
    unfold Lb_X12_goOn_146 at h ⊢
    refine fr_X12_here h (fun v h => ?_)
    refine fr_X12_isDigit h (fun v h => ?_)
    refine ⟨fun c => ?_, fun c => ?_⟩
    · replace h := h.1 c
      obtain ⟨g, h⟩ := h
      refine ⟨g, ?_⟩
      refine ⟨fun c => ?_, fun c => ?_⟩
      · replace h := h.1 c
        intro I1 e1
        replace h := h I1 e1
        replace hs := hs.upI e1 rfl
        exact fb_X12_goOn_239 hq h hs
      · replace h := h.2 c
        intro I1 e1
        replace h := h I1 e1
        replace hs := hs.upI e1 rfl
        exact fb_X12_goOn_239 hq h hs
    · replace h := h.2 c
      obtain ⟨g, h⟩ := h
      refine ⟨g, ?_⟩
      refine ⟨fun c => ?_, fun c => ?_⟩
      · replace h := h.1 c
        exact hr146 _ _ _ h hs
      · replace h := h.2 c
        refine fr_X12_here h (fun v h => ?_)
        intro I1 e1
        replace h := h I1 e1
        replace hs := hs.upI e1 rfl
        exact hr146 _ _ _ h hs
theorem ls_X12_goOn_0 {Q : Ii → Jj → Prop} {n : Nat} {I : Ii} {J : Jj} (h : Lb_X12_goOn_0 Q (L_X12_goOn_0 Q n)  I J) : L_X12_goOn_0 Q (n + 1)  I J := h
set_option maxHeartbeats 4000000 in
set_option maxRecDepth 100000 in
theorem fl_X12_goOn_0 {P Q : Ii → Jj → Prop} {I0 : Ii} {J0 : Jj} (hq : ∀ (I' : Ii) (J' : Jj), P I' J' → Same (W_X12_goOn) I0 J0 I' J' → Q I' J') : ∀ (n : Nat)  (I : Ii) (J : Jj), L_X12_goOn_0 P n  I J → Same (W_X12_goOn) I0 J0 I J → L_X12_goOn_0 Q n  I J := by
  intro n
  induction n with
  | zero => intro  I J h _; exact h
  | succ n ih =>
    intro  I J h hs
    have h : Lb_X12_goOn_0 P (L_X12_goOn_0 P n)  I J := h
    show Lb_X12_goOn_0 Q (L_X12_goOn_0 Q n)  I J
    have hr0 := ih
    clear ih
    unfold Lb_X12_goOn_0 at h ⊢
    refine fr_X12_here h (fun v h => ?_)
    obtain ⟨g, h⟩ := h
    refine ⟨g, ?_⟩
    refine ⟨fun c => ?_, fun c => ?_⟩
    · replace h := h.1 c
      exact fb_X12_goOn_20 hq hr0 h hs
    · replace h := h.2 c
      refine fr_X12_here h (fun v h => ?_)
      obtain ⟨g, h⟩ := h
      refine ⟨g, ?_⟩
      refine ⟨fun c => ?_, fun c => ?_⟩
      · replace h := h.1 c
        intro I1 e1
        replace h := h I1 e1
        replace hs := hs.upI e1 rfl
        intro I1 e1
        replace h := h I1 e1
        replace hs := hs.upJ e1 rfl
        intro I1 e1
        replace h := h I1 e1
        replace hs := hs.upI e1 rfl
        refine fr_X12_here h (fun v h => ?_)
        obtain ⟨g, h⟩ := h
        refine ⟨g, ?_⟩
        refine ⟨fun c => ?_, fun c => ?_⟩
        · replace h := h.1 c
          refine fr_X12_isLetter h (fun v h => ?_)
          refine ⟨fun c => ?_, fun c => ?_⟩
          · replace h := h.1 c
            refine fr_X12_isDigit h (fun v h => ?_)
            refine ⟨fun c => ?_, fun c => ?_⟩
            · replace h := h.1 c
              obtain ⟨g, h⟩ := h
              refine ⟨g, ?_⟩
              refine ⟨fun c => ?_, fun c => ?_⟩
              · replace h := h.1 c
                intro I1 e1
                replace h := h I1 e1
                replace hs := hs.upI e1 rfl
                intro I1 e1
                replace h := h I1 e1
                replace hs := hs.upI e1 rfl
                exact fb_X12_goOn_239 hq h hs
              · replace h := h.2 c
                refine ⟨fun c => ?_, fun c => ?_⟩
                · replace h := h.1 c
                  intro I1 e1
                  replace h := h I1 e1
                  replace hs := hs.upI e1 rfl
                  intro I1 e1
                  replace h := h I1 e1
                  replace hs := hs.upI e1 rfl
                  exact fb_X12_goOn_239 hq h hs
                · replace h := h.2 c
                  refine ⟨fun c => ?_, fun c => ?_⟩
                  · replace h := h.1 c
                    intro I1 e1
                    replace h := h I1 e1
                    replace hs := hs.upI e1 rfl
                    intro I1 e1
                    replace h := h I1 e1
                    replace hs := hs.upI e1 rfl
                    exact fb_X12_goOn_239 hq h hs
                  · replace h := h.2 c
                    intro I1 e1
                    replace h := h I1 e1
                    replace hs := hs.upI e1 rfl
                    intro I1 e1
                    replace h := h I1 e1
                    replace hs := hs.upI e1 rfl
                    exact fb_X12_goOn_239 hq h hs
            · replace h := h.2 c
              obtain ⟨n, h⟩ := h
              exact ⟨n, fl_X12_goOn_146 hq n _ _ _ h hs⟩
          · replace h := h.2 c
            obtain ⟨n, h⟩ := h
            exact ⟨n, fl_X12_goOn_76 hq n _ _ _ h hs⟩
        · replace h := h.2 c
          intro I1 e1
          replace h := h I1 e1
          replace hs := hs.upI e1 rfl
          exact hq _ _ h hs
      · replace h := h.2 c
        exact fb_X12_goOn_20 hq hr0 h hs
set_option maxHeartbeats 4000000 in
set_option maxRecDepth 100000 in
theorem fr_X12_goOn {P Q : Ii → Jj → Prop} {I0 : Ii} {J0 : Jj} (h : wp_X12_goOn I0 J0 P) (hq : ∀ (I' : Ii) (J' : Jj), P I' J' → Same (W_X12_goOn) I0 J0 I' J' → Q I' J') : wp_X12_goOn I0 J0 Q := by
  have hs := Same.rf (W := (W_X12_goOn)) I0 J0
  unfold wp_X12_goOn at h ⊢
  obtain ⟨n, h⟩ := h
  exact ⟨n, fl_X12_goOn_0 hq n _ _ h hs⟩
def W_X12_wrong : Nat → Nat → Prop := WL [(0, 8), (0, 9), (0, 10)]
theorem W_X12_wrong_n {k : Nat} (h : wlk [(0, 8), (0, 9), (0, 10)] k = false := by rfl) : ∀ i, ¬ W_X12_wrong k i := WL_n h
set_option maxHeartbeats 4000000 in
set_option maxRecDepth 100000 in
theorem fb_X12_wrong_22 {l1 : Int} {P Q : Ii → Jj → Prop} {I0 : Ii} {J0 : Jj} (hq : ∀ (I' : Ii) (J' : Jj), P I' J' → Same (W_X12_wrong) I0 J0 I' J' → Q I' J') {t1 : Int} {I : Ii} {J : Jj} (h : B_X12_wrong_22 l1 P t1 I J) (hs : Same (W_X12_wrong) I0 J0 I J) : B_X12_wrong_22 l1 Q t1 I J := by
  unfold B_X12_wrong_22 at h ⊢
  intro I1 e1
  replace h := h I1 e1
  replace hs := hs.upI e1 rfl
  intro I1 e1
  replace h := h I1 e1
  replace hs := hs.upI e1 rfl
  intro I1 e1
  replace h := h I1 e1
  replace hs := hs.upI e1 rfl
  exact hq _ _ h hs
set_option maxHeartbeats 4000000 in
set_option maxRecDepth 100000 in
theorem fr_X12_wrong {l1 : Int} {P Q : Ii → Jj → Prop} {I0 : Ii} {J0 : Jj} (h : wp_X12_wrong l1 I0 J0 P) (hq : ∀ (I' : Ii) (J' : Jj), P I' J' → Same (W_X12_wrong) I0 J0 I' J' → Q I' J') : wp_X12_wrong l1 I0 J0 Q := by
  have hs := Same.rf (W := (W_X12_wrong)) I0 J0
  unfold wp_X12_wrong at h ⊢
  obtain ⟨g, h⟩ := h
  refine ⟨g, ?_⟩
  refine ⟨fun c => ?_, fun c => ?_⟩
  · replace h := h.1 c
    obtain ⟨g, h⟩ := h
    refine ⟨g, ?_⟩
    refine ⟨fun c => ?_, fun c => ?_⟩
    · replace h := h.1 c
      exact fb_X12_wrong_22 hq h hs
    · replace h := h.2 c
      exact fb_X12_wrong_22 hq h hs
  · replace h := h.2 c
    exact hq _ _ h hs
set_option maxHeartbeats 4000000 in
set_option maxRecDepth 100000 in
theorem fr_X12_isGood {P Q : Int → Ii → Jj → Prop} {I : Ii} {J : Jj} (h : wp_X12_isGood I J P) (hq : ∀ (v : Int), P v I J → Q v I J) : wp_X12_isGood I J Q := by
  unfold wp_X12_isGood at h ⊢
  obtain ⟨g, h⟩ := h
  refine ⟨g, ?_⟩
  refine ⟨fun c => ?_, fun c => ?_⟩
  · replace h := h.1 c
    exact hq _ h
  · replace h := h.2 c
    exact hq _ h
set_option maxHeartbeats 4000000 in
set_option maxRecDepth 100000 in
theorem fr_X12_isWord {l1 : Int64} {P Q : Int → Ii → Jj → Prop} {I : Ii} {J : Jj} (h : wp_X12_isWord l1 I J P) (hq : ∀ (v : Int), P v I J → Q v I J) : wp_X12_isWord l1 I J Q := by
  unfold wp_X12_isWord at h ⊢
  refine fr_X12_isGood h (fun v h => ?_)
  refine ⟨fun c => ?_, fun c => ?_⟩
  · replace h := h.1 c
    exact hq _ h
  · replace h := h.2 c
    obtain ⟨g, h⟩ := h
    refine ⟨g, ?_⟩
    refine ⟨fun c => ?_, fun c => ?_⟩
    · replace h := h.1 c
      exact hq _ h
    · replace h := h.2 c
      refine ⟨fun c => ?_, fun c => ?_⟩
      · replace h := h.1 c
        exact hq _ h
      · replace h := h.2 c
        exact hq _ h
set_option maxHeartbeats 4000000 in
set_option maxRecDepth 100000 in
theorem fr_X12_isSign {l1 : Int} {P Q : Int → Ii → Jj → Prop} {I : Ii} {J : Jj} (h : wp_X12_isSign l1 I J P) (hq : ∀ (v : Int), P v I J → Q v I J) : wp_X12_isSign l1 I J Q := by
  unfold wp_X12_isSign at h ⊢
  refine fr_X12_isGood h (fun v h => ?_)
  refine ⟨fun c => ?_, fun c => ?_⟩
  · replace h := h.1 c
    exact hq _ h
  · replace h := h.2 c
    obtain ⟨g, h⟩ := h
    refine ⟨g, ?_⟩
    refine ⟨fun c => ?_, fun c => ?_⟩
    · replace h := h.1 c
      exact hq _ h
    · replace h := h.2 c
      obtain ⟨g, h⟩ := h
      refine ⟨g, ?_⟩
      obtain ⟨g, h⟩ := h
      refine ⟨g, ?_⟩
      refine ⟨fun c => ?_, fun c => ?_⟩
      · replace h := h.1 c
        exact hq _ h
      · replace h := h.2 c
        exact hq _ h
def W_X12_mustSign : Nat → Nat → Prop := WL [(0, 4), (0, 5), (0, 6), (0, 7), (0, 8), (0, 9), (0, 10), (0, 14)]
theorem W_X12_mustSign_n {k : Nat} (h : wlk [(0, 4), (0, 5), (0, 6), (0, 7), (0, 8), (0, 9), (0, 10), (0, 14)] k = false := by rfl) : ∀ i, ¬ W_X12_mustSign k i := WL_n h
set_option maxHeartbeats 4000000 in
set_option maxRecDepth 100000 in
theorem fb_X12_mustSign_20 {l1 : Int} {P Q : Ii → Jj → Prop} {I0 : Ii} {J0 : Jj} (hq : ∀ (I' : Ii) (J' : Jj), P I' J' → Same (W_X12_mustSign) I0 J0 I' J' → Q I' J') {I : Ii} {J : Jj} (h : B_X12_mustSign_20 l1 P  I J) (hs : Same (W_X12_mustSign) I0 J0 I J) : B_X12_mustSign_20 l1 Q  I J := by
  unfold B_X12_mustSign_20 at h ⊢
  refine fr_X12_isGood h (fun v h => ?_)
  refine ⟨fun c => ?_, fun c => ?_⟩
  · replace h := h.1 c
    exact hq _ _ h hs
  · replace h := h.2 c
    refine fr_X12_goOn h (fun I2 J2 h hs2 => ?_)
    replace hs := hs.trans hs2 (WL_sub rfl)
    exact hq _ _ h hs
set_option maxHeartbeats 4000000 in
set_option maxRecDepth 100000 in
theorem fr_X12_mustSign {l1 : Int} {P Q : Ii → Jj → Prop} {I0 : Ii} {J0 : Jj} (h : wp_X12_mustSign l1 I0 J0 P) (hq : ∀ (I' : Ii) (J' : Jj), P I' J' → Same (W_X12_mustSign) I0 J0 I' J' → Q I' J') : wp_X12_mustSign l1 I0 J0 Q := by
  have hs := Same.rf (W := (W_X12_mustSign)) I0 J0
  unfold wp_X12_mustSign at h ⊢
  refine fr_X12_isGood h (fun v h => ?_)
  refine ⟨fun c => ?_, fun c => ?_⟩
  · replace h := h.1 c
    exact fb_X12_mustSign_20 hq h hs
  · replace h := h.2 c
    refine fr_X12_isSign h (fun v h => ?_)
    refine ⟨fun c => ?_, fun c => ?_⟩
    · replace h := h.1 c
      exact fb_X12_mustSign_20 hq h hs
    · replace h := h.2 c
      refine fr_X12_wrong h (fun I2 J2 h hs2 => ?_)
      replace hs := hs.trans hs2 (WL_sub rfl)
      exact fb_X12_mustSign_20 hq h hs
def W_X12_number : Nat → Nat → Prop := WL [(0, 4), (0, 5), (0, 6), (0, 7), (0, 8), (0, 9), (0, 10), (0, 14)]
theorem W_X12_number_n {k : Nat} (h : wlk [(0, 4), (0, 5), (0, 6), (0, 7), (0, 8), (0, 9), (0, 10), (0, 14)] k = false := by rfl) : ∀ i, ¬ W_X12_number k i := WL_n h
set_option maxHeartbeats 4000000 in
set_option maxRecDepth 100000 in
theorem fb_X12_number_49 {l1 : Int} {l2 : Int} {P Q : Int → Ii → Jj → Prop} {I0 : Ii} {J0 : Jj} (hq : ∀ (v : Int) (I' : Ii) (J' : Jj), P v I' J' → Same (W_X12_number) I0 J0 I' J' → Q v I' J') {l3 : Int} {I : Ii} {J : Jj} (h : B_X12_number_49 l1 l2 P l3 I J) (hs : Same (W_X12_number) I0 J0 I J) : B_X12_number_49 l1 l2 Q l3 I J := by
  unfold B_X12_number_49 at h ⊢
  refine fr_X12_isGood h (fun v h => ?_)
  refine ⟨fun c => ?_, fun c => ?_⟩
  · replace h := h.1 c
    exact hq _ _ _ h hs
  · replace h := h.2 c
    refine fr_X12_goOn h (fun I2 J2 h hs2 => ?_)
    replace hs := hs.trans hs2 (WL_sub rfl)
    exact hq _ _ _ h hs
set_option maxHeartbeats 4000000 in
set_option maxRecDepth 100000 in
theorem fb_X12_number_20 {l1 : Int} {l2 : Int} {P Q : Int → Ii → Jj → Prop} {I0 : Ii} {J0 : Jj} (hq : ∀ (v : Int) (I' : Ii) (J' : Jj), P v I' J' → Same (W_X12_number) I0 J0 I' J' → Q v I' J') {I : Ii} {J : Jj} (h : B_X12_number_20 l1 l2 P  I J) (hs : Same (W_X12_number) I0 J0 I J) : B_X12_number_20 l1 l2 Q  I J := by
  unfold B_X12_number_20 at h ⊢
  refine fr_X12_isGood h (fun v h => ?_)
  refine ⟨fun c => ?_, fun c => ?_⟩
  · replace h := h.1 c
    exact fb_X12_number_49 hq h hs
  · replace h := h.2 c
    refine fr_X12_isIn h (fun v h => ?_)
    refine ⟨fun c => ?_, fun c => ?_⟩
    · replace h := h.1 c
      exact fb_X12_number_49 hq h hs
    · replace h := h.2 c
      refine fr_X12_wrong h (fun I2 J2 h hs2 => ?_)
      replace hs := hs.trans hs2 (WL_sub rfl)
      exact fb_X12_number_49 hq h hs
set_option maxHeartbeats 4000000 in
set_option maxRecDepth 100000 in
theorem fr_X12_number {l1 : Int} {l2 : Int} {P Q : Int → Ii → Jj → Prop} {I0 : Ii} {J0 : Jj} (h : wp_X12_number l1 l2 I0 J0 P) (hq : ∀ (v : Int) (I' : Ii) (J' : Jj), P v I' J' → Same (W_X12_number) I0 J0 I' J' → Q v I' J') : wp_X12_number l1 l2 I0 J0 Q := by
  have hs := Same.rf (W := (W_X12_number)) I0 J0
  unfold wp_X12_number at h ⊢
  refine fr_X12_isGood h (fun v h => ?_)
  refine ⟨fun c => ?_, fun c => ?_⟩
  · replace h := h.1 c
    exact fb_X12_number_20 hq h hs
  · replace h := h.2 c
    obtain ⟨g, h⟩ := h
    refine ⟨g, ?_⟩
    refine ⟨fun c => ?_, fun c => ?_⟩
    · replace h := h.1 c
      exact fb_X12_number_20 hq h hs
    · replace h := h.2 c
      refine fr_X12_wrong h (fun I2 J2 h hs2 => ?_)
      replace hs := hs.trans hs2 (WL_sub rfl)
      exact fb_X12_number_20 hq h hs
def W_X12_beginsText : Nat → Nat → Prop := WL [(0, 2), (0, 3), (0, 4), (0, 5), (0, 6), (0, 7), (0, 8), (0, 9), (0, 10), (0, 14), (0, 43)]
theorem W_X12_beginsText_n {k : Nat} (h : wlk [(0, 2), (0, 3), (0, 4), (0, 5), (0, 6), (0, 7), (0, 8), (0, 9), (0, 10), (0, 14), (0, 43)] k = false := by rfl) : ∀ i, ¬ W_X12_beginsText k i := WL_n h
set_option maxHeartbeats 4000000 in
set_option maxRecDepth 100000 in
theorem fr_X12_beginsText {P Q : Ii → Jj → Prop} {I0 : Ii} {J0 : Jj} (h : wp_X12_beginsText I0 J0 P) (hq : ∀ (I' : Ii) (J' : Jj), P I' J' → Same (W_X12_beginsText) I0 J0 I' J' → Q I' J') : wp_X12_beginsText I0 J0 Q := by
  have hs := Same.rf (W := (W_X12_beginsText)) I0 J0
  unfold wp_X12_beginsText at h ⊢
  intro I1 e1
  replace h := h I1 e1
  replace hs := hs.upI e1 rfl
  intro I1 e1
  replace h := h I1 e1
  replace hs := hs.upI e1 rfl
  intro I1 e1
  replace h := h I1 e1
  replace hs := hs.upI e1 rfl
  intro I1 e1
  replace h := h I1 e1
  replace hs := hs.upI e1 rfl
  intro I1 e1
  replace h := h I1 e1
  replace hs := hs.upI e1 rfl
  intro I1 e1
  replace h := h I1 e1
  replace hs := hs.upI e1 rfl
  intro I1 e1
  replace h := h I1 e1
  replace hs := hs.upI e1 rfl
  refine fr_X12_goOn h (fun I2 J2 h hs2 => ?_)
  replace hs := hs.trans hs2 (WL_sub rfl)
  exact hq _ _ h hs
def W_X12_endsText : Nat → Nat → Prop := WL [(0, 0), (0, 11), (0, 12), (0, 13)]
theorem W_X12_endsText_n {k : Nat} (h : wlk [(0, 0), (0, 11), (0, 12), (0, 13)] k = false := by rfl) : ∀ i, ¬ W_X12_endsText k i := WL_n h
set_option maxHeartbeats 4000000 in
set_option maxRecDepth 100000 in
theorem fb_X12_endsText_37 {P Q : Int → Ii → Jj → Prop} {I0 : Ii} {J0 : Jj} (hq : ∀ (v : Int) (I' : Ii) (J' : Jj), P v I' J' → Same (W_X12_endsText) I0 J0 I' J' → Q v I' J') {t1 : Int} {I : Ii} {J : Jj} (h : B_X12_endsText_37 P t1 I J) (hs : Same (W_X12_endsText) I0 J0 I J) : B_X12_endsText_37 Q t1 I J := by
  unfold B_X12_endsText_37 at h ⊢
  refine fr_X12_goes h (fun v I2 J2 h hs2 => ?_)
  replace hs := hs.trans hs2 (WL_sub rfl)
  obtain ⟨g, h⟩ := h
  refine ⟨g, ?_⟩
  exact hq _ _ _ h hs
set_option maxHeartbeats 4000000 in
set_option maxRecDepth 100000 in
theorem fr_X12_endsText {P Q : Int → Ii → Jj → Prop} {I0 : Ii} {J0 : Jj} (h : wp_X12_endsText I0 J0 P) (hq : ∀ (v : Int) (I' : Ii) (J' : Jj), P v I' J' → Same (W_X12_endsText) I0 J0 I' J' → Q v I' J') : wp_X12_endsText I0 J0 Q := by
  have hs := Same.rf (W := (W_X12_endsText)) I0 J0
  unfold wp_X12_endsText at h ⊢
  intro I1 e1
  replace h := h I1 e1
  replace hs := hs.upI e1 rfl
  intro I1 e1
  replace h := h I1 e1
  replace hs := hs.upI e1 rfl
  intro I1 e1
  replace h := h I1 e1
  replace hs := hs.upI e1 rfl
  obtain ⟨g, h⟩ := h
  refine ⟨g, ?_⟩
  refine ⟨fun c => ?_, fun c => ?_⟩
  · replace h := h.1 c
    exact fb_X12_endsText_37 hq h hs
  · replace h := h.2 c
    exact fb_X12_endsText_37 hq h hs
def W_X12_error : Nat → Nat → Prop := WL [(0, 0)]
theorem W_X12_error_n {k : Nat} (h : wlk [(0, 0)] k = false := by rfl) : ∀ i, ¬ W_X12_error k i := WL_n h
set_option maxHeartbeats 4000000 in
set_option maxRecDepth 100000 in
theorem fr_X12_error {l1 : Int} {P Q : Int → Ii → Jj → Prop} {I0 : Ii} {J0 : Jj} (h : wp_X12_error l1 I0 J0 P) (hq : ∀ (v : Int) (I' : Ii) (J' : Jj), P v I' J' → Same (W_X12_error) I0 J0 I' J' → Q v I' J') : wp_X12_error l1 I0 J0 Q := by
  have hs := Same.rf (W := (W_X12_error)) I0 J0
  unfold wp_X12_error at h ⊢
  refine fr_X12_isIn h (fun v h => ?_)
  refine fr_X12_goes h (fun v I2 J2 h hs2 => ?_)
  replace hs := hs.trans hs2 (WL_sub rfl)
  refine ⟨fun c => ?_, fun c => ?_⟩
  · replace h := h.1 c
    obtain ⟨g, h⟩ := h
    refine ⟨g, ?_⟩
    refine ⟨fun c => ?_, fun c => ?_⟩
    · replace h := h.1 c
      refine ⟨fun c => ?_, fun c => ?_⟩
      · replace h := h.1 c
        exact hq _ _ _ h hs
      · replace h := h.2 c
        exact hq _ _ _ h hs
    · replace h := h.2 c
      exact hq _ _ _ h hs
  · replace h := h.2 c
    exact hq _ _ _ h hs
def W_X12_clears : Nat → Nat → Prop := WL [(2, 1000)]
theorem W_X12_clears_n {k : Nat} (h : wlk [(2, 1000)] k = false := by rfl) : ∀ i, ¬ W_X12_clears k i := WL_n h
theorem ls_X12_clears_2 {Q : Ii → Jj → Prop} {n : Nat} {l1 : Int} {I : Ii} {J : Jj} (h : Lb_X12_clears_2 Q (L_X12_clears_2 Q n) l1 I J) : L_X12_clears_2 Q (n + 1) l1 I J := h
set_option maxHeartbeats 4000000 in
set_option maxRecDepth 100000 in
theorem fl_X12_clears_2 {P Q : Ii → Jj → Prop} {I0 : Ii} {J0 : Jj} (hq : ∀ (I' : Ii) (J' : Jj), P I' J' → Same (W_X12_clears) I0 J0 I' J' → Q I' J') : ∀ (n : Nat) (l1 : Int) (I : Ii) (J : Jj), L_X12_clears_2 P n l1 I J → Same (W_X12_clears) I0 J0 I J → L_X12_clears_2 Q n l1 I J := by
  intro n
  induction n with
  | zero => intro l1 I J h _; exact h
  | succ n ih =>
    intro l1 I J h hs
    have h : Lb_X12_clears_2 P (L_X12_clears_2 P n) l1 I J := h
    show Lb_X12_clears_2 Q (L_X12_clears_2 Q n) l1 I J
    have hr2 := ih
    clear ih
    unfold Lb_X12_clears_2 at h ⊢
    obtain ⟨g, h⟩ := h
    refine ⟨g, ?_⟩
    refine ⟨fun c => ?_, fun c => ?_⟩
    · replace h := h.1 c
      intro I1 e1
      replace h := h I1 e1
      replace hs := hs.upI e1 rfl
      exact hq _ _ h hs
    · replace h := h.2 c
      obtain ⟨g, h⟩ := h
      refine ⟨g, ?_⟩
      intro I1 e1
      replace h := h I1 e1
      replace hs := hs.upI e1 rfl
      exact hr2 _ _ _ h hs
set_option maxHeartbeats 4000000 in
set_option maxRecDepth 100000 in
theorem fr_X12_clears {P Q : Ii → Jj → Prop} {I0 : Ii} {J0 : Jj} (h : wp_X12_clears I0 J0 P) (hq : ∀ (I' : Ii) (J' : Jj), P I' J' → Same (W_X12_clears) I0 J0 I' J' → Q I' J') : wp_X12_clears I0 J0 Q := by
  have hs := Same.rf (W := (W_X12_clears)) I0 J0
  unfold wp_X12_clears at h ⊢
  obtain ⟨n, h⟩ := h
  exact ⟨n, fl_X12_clears_2 hq n _ _ _ h hs⟩
def W_X12_laysAside : Nat → Nat → Prop := WL [(5, 1000)]
theorem W_X12_laysAside_n {k : Nat} (h : wlk [(5, 1000)] k = false := by rfl) : ∀ i, ¬ W_X12_laysAside k i := WL_n h
theorem ls_X12_laysAside_2 {Q : Ii → Jj → Prop} {n : Nat} {l1 : Int} {I : Ii} {J : Jj} (h : Lb_X12_laysAside_2 Q (L_X12_laysAside_2 Q n) l1 I J) : L_X12_laysAside_2 Q (n + 1) l1 I J := h
set_option maxHeartbeats 4000000 in
set_option maxRecDepth 100000 in
theorem fl_X12_laysAside_2 {P Q : Ii → Jj → Prop} {I0 : Ii} {J0 : Jj} (hq : ∀ (I' : Ii) (J' : Jj), P I' J' → Same (W_X12_laysAside) I0 J0 I' J' → Q I' J') : ∀ (n : Nat) (l1 : Int) (I : Ii) (J : Jj), L_X12_laysAside_2 P n l1 I J → Same (W_X12_laysAside) I0 J0 I J → L_X12_laysAside_2 Q n l1 I J := by
  intro n
  induction n with
  | zero => intro l1 I J h _; exact h
  | succ n ih =>
    intro l1 I J h hs
    have h : Lb_X12_laysAside_2 P (L_X12_laysAside_2 P n) l1 I J := h
    show Lb_X12_laysAside_2 Q (L_X12_laysAside_2 Q n) l1 I J
    have hr2 := ih
    clear ih
    unfold Lb_X12_laysAside_2 at h ⊢
    obtain ⟨g, h⟩ := h
    refine ⟨g, ?_⟩
    refine ⟨fun c => ?_, fun c => ?_⟩
    · replace h := h.1 c
      exact hq _ _ h hs
    · replace h := h.2 c
      obtain ⟨g, h⟩ := h
      refine ⟨g, ?_⟩
      obtain ⟨g, h⟩ := h
      refine ⟨g, ?_⟩
      intro I1 e1
      replace h := h I1 e1
      replace hs := hs.upI e1 rfl
      exact hr2 _ _ _ h hs
set_option maxHeartbeats 4000000 in
set_option maxRecDepth 100000 in
theorem fr_X12_laysAside {P Q : Ii → Jj → Prop} {I0 : Ii} {J0 : Jj} (h : wp_X12_laysAside I0 J0 P) (hq : ∀ (I' : Ii) (J' : Jj), P I' J' → Same (W_X12_laysAside) I0 J0 I' J' → Q I' J') : wp_X12_laysAside I0 J0 Q := by
  have hs := Same.rf (W := (W_X12_laysAside)) I0 J0
  unfold wp_X12_laysAside at h ⊢
  obtain ⟨n, h⟩ := h
  exact ⟨n, fl_X12_laysAside_2 hq n _ _ _ h hs⟩
def W_X12_thinks : Nat → Nat → Prop := WL [(6, 1000)]
theorem W_X12_thinks_n {k : Nat} (h : wlk [(6, 1000)] k = false := by rfl) : ∀ i, ¬ W_X12_thinks k i := WL_n h
theorem ls_X12_thinks_2 {Q : Ii → Jj → Prop} {n : Nat} {l1 : Int} {I : Ii} {J : Jj} (h : Lb_X12_thinks_2 Q (L_X12_thinks_2 Q n) l1 I J) : L_X12_thinks_2 Q (n + 1) l1 I J := h
set_option maxHeartbeats 4000000 in
set_option maxRecDepth 100000 in
theorem fl_X12_thinks_2 {P Q : Ii → Jj → Prop} {I0 : Ii} {J0 : Jj} (hq : ∀ (I' : Ii) (J' : Jj), P I' J' → Same (W_X12_thinks) I0 J0 I' J' → Q I' J') : ∀ (n : Nat) (l1 : Int) (I : Ii) (J : Jj), L_X12_thinks_2 P n l1 I J → Same (W_X12_thinks) I0 J0 I J → L_X12_thinks_2 Q n l1 I J := by
  intro n
  induction n with
  | zero => intro l1 I J h _; exact h
  | succ n ih =>
    intro l1 I J h hs
    have h : Lb_X12_thinks_2 P (L_X12_thinks_2 P n) l1 I J := h
    show Lb_X12_thinks_2 Q (L_X12_thinks_2 Q n) l1 I J
    have hr2 := ih
    clear ih
    unfold Lb_X12_thinks_2 at h ⊢
    obtain ⟨g, h⟩ := h
    refine ⟨g, ?_⟩
    refine ⟨fun c => ?_, fun c => ?_⟩
    · replace h := h.1 c
      exact hq _ _ h hs
    · replace h := h.2 c
      obtain ⟨g, h⟩ := h
      refine ⟨g, ?_⟩
      obtain ⟨g, h⟩ := h
      refine ⟨g, ?_⟩
      intro I1 e1
      replace h := h I1 e1
      replace hs := hs.upI e1 rfl
      exact hr2 _ _ _ h hs
set_option maxHeartbeats 4000000 in
set_option maxRecDepth 100000 in
theorem fr_X12_thinks {P Q : Ii → Jj → Prop} {I0 : Ii} {J0 : Jj} (h : wp_X12_thinks I0 J0 P) (hq : ∀ (I' : Ii) (J' : Jj), P I' J' → Same (W_X12_thinks) I0 J0 I' J' → Q I' J') : wp_X12_thinks I0 J0 Q := by
  have hs := Same.rf (W := (W_X12_thinks)) I0 J0
  unfold wp_X12_thinks at h ⊢
  obtain ⟨n, h⟩ := h
  exact ⟨n, fl_X12_thinks_2 hq n _ _ _ h hs⟩
def W_X12_thinksNoMore : Nat → Nat → Prop := WL [(2, 1000)]
theorem W_X12_thinksNoMore_n {k : Nat} (h : wlk [(2, 1000)] k = false := by rfl) : ∀ i, ¬ W_X12_thinksNoMore k i := WL_n h
theorem ls_X12_thinksNoMore_2 {Q : Ii → Jj → Prop} {n : Nat} {l1 : Int} {I : Ii} {J : Jj} (h : Lb_X12_thinksNoMore_2 Q (L_X12_thinksNoMore_2 Q n) l1 I J) : L_X12_thinksNoMore_2 Q (n + 1) l1 I J := h
set_option maxHeartbeats 4000000 in
set_option maxRecDepth 100000 in
theorem fl_X12_thinksNoMore_2 {P Q : Ii → Jj → Prop} {I0 : Ii} {J0 : Jj} (hq : ∀ (I' : Ii) (J' : Jj), P I' J' → Same (W_X12_thinksNoMore) I0 J0 I' J' → Q I' J') : ∀ (n : Nat) (l1 : Int) (I : Ii) (J : Jj), L_X12_thinksNoMore_2 P n l1 I J → Same (W_X12_thinksNoMore) I0 J0 I J → L_X12_thinksNoMore_2 Q n l1 I J := by
  intro n
  induction n with
  | zero => intro l1 I J h _; exact h
  | succ n ih =>
    intro l1 I J h hs
    have h : Lb_X12_thinksNoMore_2 P (L_X12_thinksNoMore_2 P n) l1 I J := h
    show Lb_X12_thinksNoMore_2 Q (L_X12_thinksNoMore_2 Q n) l1 I J
    have hr2 := ih
    clear ih
    unfold Lb_X12_thinksNoMore_2 at h ⊢
    obtain ⟨g, h⟩ := h
    refine ⟨g, ?_⟩
    refine ⟨fun c => ?_, fun c => ?_⟩
    · replace h := h.1 c
      exact hq _ _ h hs
    · replace h := h.2 c
      obtain ⟨g, h⟩ := h
      refine ⟨g, ?_⟩
      obtain ⟨g, h⟩ := h
      refine ⟨g, ?_⟩
      intro I1 e1
      replace h := h I1 e1
      replace hs := hs.upI e1 rfl
      exact hr2 _ _ _ h hs
set_option maxHeartbeats 4000000 in
set_option maxRecDepth 100000 in
theorem fr_X12_thinksNoMore {P Q : Ii → Jj → Prop} {I0 : Ii} {J0 : Jj} (h : wp_X12_thinksNoMore I0 J0 P) (hq : ∀ (I' : Ii) (J' : Jj), P I' J' → Same (W_X12_thinksNoMore) I0 J0 I' J' → Q I' J') : wp_X12_thinksNoMore I0 J0 Q := by
  have hs := Same.rf (W := (W_X12_thinksNoMore)) I0 J0
  unfold wp_X12_thinksNoMore at h ⊢
  obtain ⟨n, h⟩ := h
  exact ⟨n, fl_X12_thinksNoMore_2 hq n _ _ _ h hs⟩
def W_X12_keeps : Nat → Nat → Prop := WL [(0, 23), (4, 1000)]
theorem W_X12_keeps_n {k : Nat} (h : wlk [(0, 23), (4, 1000)] k = false := by rfl) : ∀ i, ¬ W_X12_keeps k i := WL_n h
theorem ls_X12_keeps_57 {Q : Ii → Jj → Prop} {n : Nat} {l1 : Int} {I : Ii} {J : Jj} (h : Lb_X12_keeps_57 Q (L_X12_keeps_57 Q n) l1 I J) : L_X12_keeps_57 Q (n + 1) l1 I J := h
set_option maxHeartbeats 4000000 in
set_option maxRecDepth 100000 in
theorem fl_X12_keeps_57 {P Q : Ii → Jj → Prop} {I0 : Ii} {J0 : Jj} (hq : ∀ (I' : Ii) (J' : Jj), P I' J' → Same (W_X12_keeps) I0 J0 I' J' → Q I' J') : ∀ (n : Nat) (l1 : Int) (I : Ii) (J : Jj), L_X12_keeps_57 P n l1 I J → Same (W_X12_keeps) I0 J0 I J → L_X12_keeps_57 Q n l1 I J := by
  intro n
  induction n with
  | zero => intro l1 I J h _; exact h
  | succ n ih =>
    intro l1 I J h hs
    have h : Lb_X12_keeps_57 P (L_X12_keeps_57 P n) l1 I J := h
    show Lb_X12_keeps_57 Q (L_X12_keeps_57 Q n) l1 I J
    have hr57 := ih
    clear ih
    unfold Lb_X12_keeps_57 at h ⊢
    obtain ⟨g, h⟩ := h
    refine ⟨g, ?_⟩
    refine ⟨fun c => ?_, fun c => ?_⟩
    · replace h := h.1 c
      intro I1 e1
      replace h := h I1 e1
      replace hs := hs.upI e1 rfl
      exact hq _ _ h hs
    · replace h := h.2 c
      obtain ⟨g, h⟩ := h
      refine ⟨g, ?_⟩
      obtain ⟨g, h⟩ := h
      refine ⟨g, ?_⟩
      intro I1 e1
      replace h := h I1 e1
      replace hs := hs.upI e1 rfl
      exact hr57 _ _ _ h hs
theorem ls_X12_keeps_21 {Q : Ii → Jj → Prop} {n : Nat} {l1 : Int} {I : Ii} {J : Jj} (h : Lb_X12_keeps_21 Q (L_X12_keeps_21 Q n) l1 I J) : L_X12_keeps_21 Q (n + 1) l1 I J := h
set_option maxHeartbeats 4000000 in
set_option maxRecDepth 100000 in
theorem fl_X12_keeps_21 {P Q : Ii → Jj → Prop} {I0 : Ii} {J0 : Jj} (hq : ∀ (I' : Ii) (J' : Jj), P I' J' → Same (W_X12_keeps) I0 J0 I' J' → Q I' J') : ∀ (n : Nat) (l1 : Int) (I : Ii) (J : Jj), L_X12_keeps_21 P n l1 I J → Same (W_X12_keeps) I0 J0 I J → L_X12_keeps_21 Q n l1 I J := by
  intro n
  induction n with
  | zero => intro l1 I J h _; exact h
  | succ n ih =>
    intro l1 I J h hs
    have h : Lb_X12_keeps_21 P (L_X12_keeps_21 P n) l1 I J := h
    show Lb_X12_keeps_21 Q (L_X12_keeps_21 Q n) l1 I J
    have hr21 := ih
    clear ih
    unfold Lb_X12_keeps_21 at h ⊢
    obtain ⟨g, h⟩ := h
    refine ⟨g, ?_⟩
    obtain ⟨g, h⟩ := h
    refine ⟨g, ?_⟩
    refine ⟨fun c => ?_, fun c => ?_⟩
    · replace h := h.1 c
      obtain ⟨n, h⟩ := h
      exact ⟨n, fl_X12_keeps_57 hq n _ _ _ h hs⟩
    · replace h := h.2 c
      obtain ⟨g, h⟩ := h
      refine ⟨g, ?_⟩
      obtain ⟨g, h⟩ := h
      refine ⟨g, ?_⟩
      intro I1 e1
      replace h := h I1 e1
      replace hs := hs.upI e1 rfl
      exact hr21 _ _ _ h hs
set_option maxHeartbeats 4000000 in
set_option maxRecDepth 100000 in
theorem fr_X12_keeps {P Q : Ii → Jj → Prop} {I0 : Ii} {J0 : Jj} (h : wp_X12_keeps I0 J0 P) (hq : ∀ (I' : Ii) (J' : Jj), P I' J' → Same (W_X12_keeps) I0 J0 I' J' → Q I' J') : wp_X12_keeps I0 J0 Q := by
  have hs := Same.rf (W := (W_X12_keeps)) I0 J0
  unfold wp_X12_keeps at h ⊢
  obtain ⟨g, h⟩ := h
  refine ⟨g, ?_⟩
  refine ⟨fun c => ?_, fun c => ?_⟩
  · replace h := h.1 c
    obtain ⟨n, h⟩ := h
    exact ⟨n, fl_X12_keeps_57 hq n _ _ _ h hs⟩
  · replace h := h.2 c
    intro I1 e1
    replace h := h I1 e1
    replace hs := hs.upI e1 rfl
    obtain ⟨n, h⟩ := h
    exact ⟨n, fl_X12_keeps_21 hq n _ _ _ h hs⟩
def W_X12_undo : Nat → Nat → Prop := WL [(0, 0), (0, 23), (2, 1000)]
theorem W_X12_undo_n {k : Nat} (h : wlk [(0, 0), (0, 23), (2, 1000)] k = false := by rfl) : ∀ i, ¬ W_X12_undo k i := WL_n h
theorem ls_X12_undo_26 {Q : Int → Ii → Jj → Prop} {n : Nat} {l1 : Int} {I : Ii} {J : Jj} (h : Lb_X12_undo_26 Q (L_X12_undo_26 Q n) l1 I J) : L_X12_undo_26 Q (n + 1) l1 I J := h
set_option maxHeartbeats 4000000 in
set_option maxRecDepth 100000 in
theorem fl_X12_undo_26 {P Q : Int → Ii → Jj → Prop} {I0 : Ii} {J0 : Jj} (hq : ∀ (v : Int) (I' : Ii) (J' : Jj), P v I' J' → Same (W_X12_undo) I0 J0 I' J' → Q v I' J') : ∀ (n : Nat) (l1 : Int) (I : Ii) (J : Jj), L_X12_undo_26 P n l1 I J → Same (W_X12_undo) I0 J0 I J → L_X12_undo_26 Q n l1 I J := by
  intro n
  induction n with
  | zero => intro l1 I J h _; exact h
  | succ n ih =>
    intro l1 I J h hs
    have h : Lb_X12_undo_26 P (L_X12_undo_26 P n) l1 I J := h
    show Lb_X12_undo_26 Q (L_X12_undo_26 Q n) l1 I J
    have hr26 := ih
    clear ih
    unfold Lb_X12_undo_26 at h ⊢
    obtain ⟨g, h⟩ := h
    refine ⟨g, ?_⟩
    refine ⟨fun c => ?_, fun c => ?_⟩
    · replace h := h.1 c
      exact hq _ _ _ h hs
    · replace h := h.2 c
      obtain ⟨g, h⟩ := h
      refine ⟨g, ?_⟩
      obtain ⟨g, h⟩ := h
      refine ⟨g, ?_⟩
      intro I1 e1
      replace h := h I1 e1
      replace hs := hs.upI e1 rfl
      exact hr26 _ _ _ h hs
set_option maxHeartbeats 4000000 in
set_option maxRecDepth 100000 in
theorem fr_X12_undo {P Q : Int → Ii → Jj → Prop} {I0 : Ii} {J0 : Jj} (h : wp_X12_undo I0 J0 P) (hq : ∀ (v : Int) (I' : Ii) (J' : Jj), P v I' J' → Same (W_X12_undo) I0 J0 I' J' → Q v I' J') : wp_X12_undo I0 J0 Q := by
  have hs := Same.rf (W := (W_X12_undo)) I0 J0
  unfold wp_X12_undo at h ⊢
  intro I1 e1
  replace h := h I1 e1
  replace hs := hs.upI e1 rfl
  obtain ⟨g, h⟩ := h
  refine ⟨g, ?_⟩
  refine ⟨fun c => ?_, fun c => ?_⟩
  · replace h := h.1 c
    intro I1 e1
    replace h := h I1 e1
    replace hs := hs.upI e1 rfl
    obtain ⟨n, h⟩ := h
    exact ⟨n, fl_X12_undo_26 hq n _ _ _ h hs⟩
  · replace h := h.2 c
    exact hq _ _ _ h hs
set_option maxHeartbeats 4000000 in
set_option maxRecDepth 100000 in
theorem fr_X12_isVertex {l1 : Int} {P Q : Int → Ii → Jj → Prop} {I : Ii} {J : Jj} (h : wp_X12_isVertex l1 I J P) (hq : ∀ (v : Int), P v I J → Q v I J) : wp_X12_isVertex l1 I J Q := by
  unfold wp_X12_isVertex at h ⊢
  refine fr_X12_isIn h (fun v h => ?_)
  obtain ⟨g, h⟩ := h
  refine ⟨g, ?_⟩
  exact hq _ h
set_option maxHeartbeats 4000000 in
set_option maxRecDepth 100000 in
theorem fr_X12_isEdge {l1 : Int} {P Q : Int → Ii → Jj → Prop} {I : Ii} {J : Jj} (h : wp_X12_isEdge l1 I J P) (hq : ∀ (v : Int), P v I J → Q v I J) : wp_X12_isEdge l1 I J Q := by
  unfold wp_X12_isEdge at h ⊢
  refine fr_X12_isIn h (fun v h => ?_)
  obtain ⟨g, h⟩ := h
  refine ⟨g, ?_⟩
  exact hq _ h
set_option maxHeartbeats 4000000 in
set_option maxRecDepth 100000 in
theorem fr_X12_isPart {l1 : Int} {P Q : Int → Ii → Jj → Prop} {I : Ii} {J : Jj} (h : wp_X12_isPart l1 I J P) (hq : ∀ (v : Int), P v I J → Q v I J) : wp_X12_isPart l1 I J Q := by
  unfold wp_X12_isPart at h ⊢
  refine fr_X12_isIn h (fun v h => ?_)
  obtain ⟨g, h⟩ := h
  refine ⟨g, ?_⟩
  exact hq _ h
set_option maxHeartbeats 4000000 in
set_option maxRecDepth 100000 in
theorem fr_X12_groups {P Q : Int → Ii → Jj → Prop} {I : Ii} {J : Jj} (h : wp_X12_groups I J P) (hq : ∀ (v : Int), P v I J → Q v I J) : wp_X12_groups I J Q := by
  unfold wp_X12_groups at h ⊢
  obtain ⟨g, h⟩ := h
  refine ⟨g, ?_⟩
  exact hq _ h
set_option maxHeartbeats 4000000 in
set_option maxRecDepth 100000 in
theorem fr_X12_isGroup {l1 : Int} {P Q : Int → Ii → Jj → Prop} {I : Ii} {J : Jj} (h : wp_X12_isGroup l1 I J P) (hq : ∀ (v : Int), P v I J → Q v I J) : wp_X12_isGroup l1 I J Q := by
  unfold wp_X12_isGroup at h ⊢
  refine fr_X12_groups h (fun v h => ?_)
  refine fr_X12_isIn h (fun v h => ?_)
  obtain ⟨g, h⟩ := h
  refine ⟨g, ?_⟩
  exact hq _ h
set_option maxHeartbeats 4000000 in
set_option maxRecDepth 100000 in
theorem fr_X12_groupAt {l1 : Int} {P Q : Int → Ii → Jj → Prop} {I : Ii} {J : Jj} (h : wp_X12_groupAt l1 I J P) (hq : ∀ (v : Int), P v I J → Q v I J) : wp_X12_groupAt l1 I J Q := by
  unfold wp_X12_groupAt at h ⊢
  obtain ⟨g, h⟩ := h
  refine ⟨g, ?_⟩
  exact hq _ h
theorem ls_X12_named_4 {Q : Int → Ii → Jj → Prop} {n : Nat} {l1 : Int} {l2 : Int} {I : Ii} {J : Jj} (h : Lb_X12_named_4 Q (L_X12_named_4 Q n) l1 l2 I J) : L_X12_named_4 Q (n + 1) l1 l2 I J := h
set_option maxHeartbeats 4000000 in
set_option maxRecDepth 100000 in
theorem fl_X12_named_4 {P Q : Int → Ii → Jj → Prop} {I : Ii} {J : Jj} (hq : ∀ (v : Int), P v I J → Q v I J) : ∀ (n : Nat) (l1 : Int) (l2 : Int), L_X12_named_4 P n l1 l2 I J → L_X12_named_4 Q n l1 l2 I J := by
  intro n
  induction n with
  | zero => intro l1 l2 h; exact h
  | succ n ih =>
    intro l1 l2 h
    have h : Lb_X12_named_4 P (L_X12_named_4 P n) l1 l2 I J := h
    show Lb_X12_named_4 Q (L_X12_named_4 Q n) l1 l2 I J
    have hr4 := ih
    clear ih
    unfold Lb_X12_named_4 at h ⊢
    obtain ⟨g, h⟩ := h
    refine ⟨g, ?_⟩
    obtain ⟨g, h⟩ := h
    refine ⟨g, ?_⟩
    refine ⟨fun c => ?_, fun c => ?_⟩
    · replace h := h.1 c
      exact hq _ h
    · replace h := h.2 c
      obtain ⟨g, h⟩ := h
      refine ⟨g, ?_⟩
      refine ⟨fun c => ?_, fun c => ?_⟩
      · replace h := h.1 c
        exact hr4 _ _ h
      · replace h := h.2 c
        exact hr4 _ _ h
set_option maxHeartbeats 4000000 in
set_option maxRecDepth 100000 in
theorem fr_X12_named {P Q : Int → Ii → Jj → Prop} {I : Ii} {J : Jj} (h : wp_X12_named I J P) (hq : ∀ (v : Int), P v I J → Q v I J) : wp_X12_named I J Q := by
  unfold wp_X12_named at h ⊢
  obtain ⟨n, h⟩ := h
  exact ⟨n, fl_X12_named_4 hq n _ _ h⟩
def W_X12_seenVertex : Nat → Nat → Prop := WL [(0, 8), (0, 9), (0, 10)]
theorem W_X12_seenVertex_n {k : Nat} (h : wlk [(0, 8), (0, 9), (0, 10)] k = false := by rfl) : ∀ i, ¬ W_X12_seenVertex k i := WL_n h
set_option maxHeartbeats 4000000 in
set_option maxRecDepth 100000 in
theorem fb_X12_seenVertex_20 {P Q : Int → Ii → Jj → Prop} {I0 : Ii} {J0 : Jj} (hq : ∀ (v : Int) (I' : Ii) (J' : Jj), P v I' J' → Same (W_X12_seenVertex) I0 J0 I' J' → Q v I' J') {I : Ii} {J : Jj} (h : B_X12_seenVertex_20 P  I J) (hs : Same (W_X12_seenVertex) I0 J0 I J) : B_X12_seenVertex_20 Q  I J := by
  unfold B_X12_seenVertex_20 at h ⊢
  refine fr_X12_named h (fun v h => ?_)
  refine fr_X12_isGood h (fun v h => ?_)
  refine ⟨fun c => ?_, fun c => ?_⟩
  · replace h := h.1 c
    exact hq _ _ _ h hs
  · replace h := h.2 c
    obtain ⟨g, h⟩ := h
    refine ⟨g, ?_⟩
    refine ⟨fun c => ?_, fun c => ?_⟩
    · replace h := h.1 c
      exact hq _ _ _ h hs
    · replace h := h.2 c
      refine fr_X12_wrong h (fun I2 J2 h hs2 => ?_)
      replace hs := hs.trans hs2 (WL_sub rfl)
      exact hq _ _ _ h hs
set_option maxHeartbeats 4000000 in
set_option maxRecDepth 100000 in
theorem fr_X12_seenVertex {P Q : Int → Ii → Jj → Prop} {I0 : Ii} {J0 : Jj} (h : wp_X12_seenVertex I0 J0 P) (hq : ∀ (v : Int) (I' : Ii) (J' : Jj), P v I' J' → Same (W_X12_seenVertex) I0 J0 I' J' → Q v I' J') : wp_X12_seenVertex I0 J0 Q := by
  have hs := Same.rf (W := (W_X12_seenVertex)) I0 J0
  unfold wp_X12_seenVertex at h ⊢
  refine fr_X12_isGood h (fun v h => ?_)
  refine ⟨fun c => ?_, fun c => ?_⟩
  · replace h := h.1 c
    exact fb_X12_seenVertex_20 hq h hs
  · replace h := h.2 c
    obtain ⟨g, h⟩ := h
    refine ⟨g, ?_⟩
    refine ⟨fun c => ?_, fun c => ?_⟩
    · replace h := h.1 c
      exact fb_X12_seenVertex_20 hq h hs
    · replace h := h.2 c
      refine fr_X12_wrong h (fun I2 J2 h hs2 => ?_)
      replace hs := hs.trans hs2 (WL_sub rfl)
      exact fb_X12_seenVertex_20 hq h hs
def W_X12_toldVertex : Nat → Nat → Prop := WL [(0, 4), (0, 5), (0, 6), (0, 7), (0, 8), (0, 9), (0, 10), (0, 14)]
theorem W_X12_toldVertex_n {k : Nat} (h : wlk [(0, 4), (0, 5), (0, 6), (0, 7), (0, 8), (0, 9), (0, 10), (0, 14)] k = false := by rfl) : ∀ i, ¬ W_X12_toldVertex k i := WL_n h
set_option maxHeartbeats 4000000 in
set_option maxRecDepth 100000 in
theorem fr_X12_toldVertex {P Q : Int → Ii → Jj → Prop} {I0 : Ii} {J0 : Jj} (h : wp_X12_toldVertex I0 J0 P) (hq : ∀ (v : Int) (I' : Ii) (J' : Jj), P v I' J' → Same (W_X12_toldVertex) I0 J0 I' J' → Q v I' J') : wp_X12_toldVertex I0 J0 Q := by
  have hs := Same.rf (W := (W_X12_toldVertex)) I0 J0
  unfold wp_X12_toldVertex at h ⊢
  refine fr_X12_seenVertex h (fun v I2 J2 h hs2 => ?_)
  replace hs := hs.trans hs2 (WL_sub rfl)
  refine fr_X12_isGood h (fun v h => ?_)
  refine ⟨fun c => ?_, fun c => ?_⟩
  · replace h := h.1 c
    exact hq _ _ _ h hs
  · replace h := h.2 c
    refine fr_X12_goOn h (fun I2 J2 h hs2 => ?_)
    replace hs := hs.trans hs2 (WL_sub rfl)
    exact hq _ _ _ h hs
def W_X12_readsVertex : Nat → Nat → Prop := WL [(0, 4), (0, 5), (0, 6), (0, 7), (0, 8), (0, 9), (0, 10), (0, 14), (2, 1000), (7, 1000)]
theorem W_X12_readsVertex_n {k : Nat} (h : wlk [(0, 4), (0, 5), (0, 6), (0, 7), (0, 8), (0, 9), (0, 10), (0, 14), (2, 1000), (7, 1000)] k = false := by rfl) : ∀ i, ¬ W_X12_readsVertex k i := WL_n h
set_option maxHeartbeats 4000000 in
set_option maxRecDepth 100000 in
theorem fb_X12_readsVertex_70 {P Q : Ii → Jj → Prop} {I0 : Ii} {J0 : Jj} (hq : ∀ (I' : Ii) (J' : Jj), P I' J' → Same (W_X12_readsVertex) I0 J0 I' J' → Q I' J') {l1 : Int} {I : Ii} {J : Jj} (h : B_X12_readsVertex_70 P l1 I J) (hs : Same (W_X12_readsVertex) I0 J0 I J) : B_X12_readsVertex_70 Q l1 I J := by
  unfold B_X12_readsVertex_70 at h ⊢
  refine fr_X12_isGood h (fun v h => ?_)
  refine ⟨fun c => ?_, fun c => ?_⟩
  · replace h := h.1 c
    obtain ⟨g, h⟩ := h
    refine ⟨g, ?_⟩
    intro I1 e1
    replace h := h I1 e1
    replace hs := hs.upJ e1 rfl
    refine fr_X12_goOn h (fun I2 J2 h hs2 => ?_)
    replace hs := hs.trans hs2 (WL_sub rfl)
    refine fr_X12_number h (fun v I2 J2 h hs2 => ?_)
    replace hs := hs.trans hs2 (WL_sub rfl)
    refine fr_X12_isGood h (fun v h => ?_)
    refine ⟨fun c => ?_, fun c => ?_⟩
    · replace h := h.1 c
      obtain ⟨g, h⟩ := h
      refine ⟨g, ?_⟩
      intro I1 e1
      replace h := h I1 e1
      replace hs := hs.upI e1 rfl
      obtain ⟨g, h⟩ := h
      refine ⟨g, ?_⟩
      intro I1 e1
      replace h := h I1 e1
      replace hs := hs.upI e1 rfl
      intro I1 e1
      replace h := h I1 e1
      replace hs := hs.upI e1 rfl
      intro I1 e1
      replace h := h I1 e1
      replace hs := hs.upI e1 rfl
      exact hq _ _ h hs
    · replace h := h.2 c
      exact hq _ _ h hs
  · replace h := h.2 c
    exact hq _ _ h hs
set_option maxHeartbeats 4000000 in
set_option maxRecDepth 100000 in
theorem fb_X12_readsVertex_50 {P Q : Ii → Jj → Prop} {I0 : Ii} {J0 : Jj} (hq : ∀ (I' : Ii) (J' : Jj), P I' J' → Same (W_X12_readsVertex) I0 J0 I' J' → Q I' J') {l1 : Int} {I : Ii} {J : Jj} (h : B_X12_readsVertex_50 P l1 I J) (hs : Same (W_X12_readsVertex) I0 J0 I J) : B_X12_readsVertex_50 Q l1 I J := by
  unfold B_X12_readsVertex_50 at h ⊢
  refine fr_X12_isGood h (fun v h => ?_)
  refine ⟨fun c => ?_, fun c => ?_⟩
  · replace h := h.1 c
    exact fb_X12_readsVertex_70 hq h hs
  · replace h := h.2 c
    refine fr_X12_named h (fun v h => ?_)
    obtain ⟨g, h⟩ := h
    refine ⟨g, ?_⟩
    refine ⟨fun c => ?_, fun c => ?_⟩
    · replace h := h.1 c
      exact fb_X12_readsVertex_70 hq h hs
    · replace h := h.2 c
      refine fr_X12_wrong h (fun I2 J2 h hs2 => ?_)
      replace hs := hs.trans hs2 (WL_sub rfl)
      exact fb_X12_readsVertex_70 hq h hs
set_option maxHeartbeats 4000000 in
set_option maxRecDepth 100000 in
theorem fb_X12_readsVertex_30 {P Q : Ii → Jj → Prop} {I0 : Ii} {J0 : Jj} (hq : ∀ (I' : Ii) (J' : Jj), P I' J' → Same (W_X12_readsVertex) I0 J0 I' J' → Q I' J') {l1 : Int} {I : Ii} {J : Jj} (h : B_X12_readsVertex_30 P l1 I J) (hs : Same (W_X12_readsVertex) I0 J0 I J) : B_X12_readsVertex_30 Q l1 I J := by
  unfold B_X12_readsVertex_30 at h ⊢
  refine fr_X12_isGood h (fun v h => ?_)
  refine ⟨fun c => ?_, fun c => ?_⟩
  · replace h := h.1 c
    exact fb_X12_readsVertex_50 hq h hs
  · replace h := h.2 c
    obtain ⟨g, h⟩ := h
    refine ⟨g, ?_⟩
    refine ⟨fun c => ?_, fun c => ?_⟩
    · replace h := h.1 c
      exact fb_X12_readsVertex_50 hq h hs
    · replace h := h.2 c
      refine fr_X12_wrong h (fun I2 J2 h hs2 => ?_)
      replace hs := hs.trans hs2 (WL_sub rfl)
      exact fb_X12_readsVertex_50 hq h hs
set_option maxHeartbeats 4000000 in
set_option maxRecDepth 100000 in
theorem fb_X12_readsVertex_19 {P Q : Ii → Jj → Prop} {I0 : Ii} {J0 : Jj} (hq : ∀ (I' : Ii) (J' : Jj), P I' J' → Same (W_X12_readsVertex) I0 J0 I' J' → Q I' J') {l1 : Int} {I : Ii} {J : Jj} (h : B_X12_readsVertex_19 P l1 I J) (hs : Same (W_X12_readsVertex) I0 J0 I J) : B_X12_readsVertex_19 Q l1 I J := by
  unfold B_X12_readsVertex_19 at h ⊢
  refine fr_X12_isGood h (fun v h => ?_)
  refine ⟨fun c => ?_, fun c => ?_⟩
  · replace h := h.1 c
    exact fb_X12_readsVertex_30 hq h hs
  · replace h := h.2 c
    refine fr_X12_goOn h (fun I2 J2 h hs2 => ?_)
    replace hs := hs.trans hs2 (WL_sub rfl)
    exact fb_X12_readsVertex_30 hq h hs
set_option maxHeartbeats 4000000 in
set_option maxRecDepth 100000 in
theorem fr_X12_readsVertex {P Q : Ii → Jj → Prop} {I0 : Ii} {J0 : Jj} (h : wp_X12_readsVertex I0 J0 P) (hq : ∀ (I' : Ii) (J' : Jj), P I' J' → Same (W_X12_readsVertex) I0 J0 I' J' → Q I' J') : wp_X12_readsVertex I0 J0 Q := by
  have hs := Same.rf (W := (W_X12_readsVertex)) I0 J0
  unfold wp_X12_readsVertex at h ⊢
  obtain ⟨g, h⟩ := h
  refine ⟨g, ?_⟩
  refine ⟨fun c => ?_, fun c => ?_⟩
  · replace h := h.1 c
    exact fb_X12_readsVertex_19 hq h hs
  · replace h := h.2 c
    refine fr_X12_wrong h (fun I2 J2 h hs2 => ?_)
    replace hs := hs.trans hs2 (WL_sub rfl)
    exact fb_X12_readsVertex_19 hq h hs
set_option maxHeartbeats 4000000 in
set_option maxRecDepth 100000 in
theorem fb_X12_edgeOf_45 {l1 : Int} {l2 : Int} {P Q : Int → Ii → Jj → Prop} {I : Ii} {J : Jj} (hq : ∀ (v : Int), P v I J → Q v I J) {r5 q5 : Int → Int → Ii → Jj → Prop} (hr5 : ∀ (l3 : Int) (l4 : Int), r5 l3 l4 I J → q5 l3 l4 I J) {l3 : Int} {l4 : Int} (h : B_X12_edgeOf_45 l1 l2 P r5 l3 l4 I J) : B_X12_edgeOf_45 l1 l2 Q q5 l3 l4 I J := by
  unfold B_X12_edgeOf_45 at h ⊢
  obtain ⟨g, h⟩ := h
  refine ⟨g, ?_⟩
  obtain ⟨g, h⟩ := h
  refine ⟨g, ?_⟩
  obtain ⟨g, h⟩ := h
  refine ⟨g, ?_⟩
  refine ⟨fun c => ?_, fun c => ?_⟩
  · replace h := h.1 c
    exact hr5 _ _ h
  · replace h := h.2 c
    obtain ⟨g, h⟩ := h
    refine ⟨g, ?_⟩
    obtain ⟨g, h⟩ := h
    refine ⟨g, ?_⟩
    obtain ⟨g, h⟩ := h
    refine ⟨g, ?_⟩
    refine ⟨fun c => ?_, fun c => ?_⟩
    · replace h := h.1 c
      exact hr5 _ _ h
    · replace h := h.2 c
      exact hr5 _ _ h
theorem ls_X12_edgeOf_5 {l1 : Int} {l2 : Int} {Q : Int → Ii → Jj → Prop} {n : Nat} {l3 : Int} {l4 : Int} {I : Ii} {J : Jj} (h : Lb_X12_edgeOf_5 l1 l2 Q (L_X12_edgeOf_5 l1 l2 Q n) l3 l4 I J) : L_X12_edgeOf_5 l1 l2 Q (n + 1) l3 l4 I J := h
set_option maxHeartbeats 4000000 in
set_option maxRecDepth 100000 in
theorem fl_X12_edgeOf_5 {l1 : Int} {l2 : Int} {P Q : Int → Ii → Jj → Prop} {I : Ii} {J : Jj} (hq : ∀ (v : Int), P v I J → Q v I J) : ∀ (n : Nat) (l3 : Int) (l4 : Int), L_X12_edgeOf_5 l1 l2 P n l3 l4 I J → L_X12_edgeOf_5 l1 l2 Q n l3 l4 I J := by
  intro n
  induction n with
  | zero => intro l3 l4 h; exact h
  | succ n ih =>
    intro l3 l4 h
    have h : Lb_X12_edgeOf_5 l1 l2 P (L_X12_edgeOf_5 l1 l2 P n) l3 l4 I J := h
    show Lb_X12_edgeOf_5 l1 l2 Q (L_X12_edgeOf_5 l1 l2 Q n) l3 l4 I J
    have hr5 := ih
    clear ih
    unfold Lb_X12_edgeOf_5 at h ⊢
    obtain ⟨g, h⟩ := h
    refine ⟨g, ?_⟩
    obtain ⟨g, h⟩ := h
    refine ⟨g, ?_⟩
    refine ⟨fun c => ?_, fun c => ?_⟩
    · replace h := h.1 c
      exact hq _ h
    · replace h := h.2 c
      obtain ⟨g, h⟩ := h
      refine ⟨g, ?_⟩
      obtain ⟨g, h⟩ := h
      refine ⟨g, ?_⟩
      obtain ⟨g, h⟩ := h
      refine ⟨g, ?_⟩
      refine ⟨fun c => ?_, fun c => ?_⟩
      · replace h := h.1 c
        exact fb_X12_edgeOf_45 hq hr5 h
      · replace h := h.2 c
        obtain ⟨g, h⟩ := h
        refine ⟨g, ?_⟩
        obtain ⟨g, h⟩ := h
        refine ⟨g, ?_⟩
        obtain ⟨g, h⟩ := h
        refine ⟨g, ?_⟩
        refine ⟨fun c => ?_, fun c => ?_⟩
        · replace h := h.1 c
          exact hr5 _ _ h
        · replace h := h.2 c
          exact fb_X12_edgeOf_45 hq hr5 h
set_option maxHeartbeats 4000000 in
set_option maxRecDepth 100000 in
theorem fr_X12_edgeOf {l1 : Int} {l2 : Int} {P Q : Int → Ii → Jj → Prop} {I : Ii} {J : Jj} (h : wp_X12_edgeOf l1 l2 I J P) (hq : ∀ (v : Int), P v I J → Q v I J) : wp_X12_edgeOf l1 l2 I J Q := by
  unfold wp_X12_edgeOf at h ⊢
  obtain ⟨n, h⟩ := h
  exact ⟨n, fl_X12_edgeOf_5 hq n _ _ h⟩
def W_X12_readsEdge : Nat → Nat → Prop := WL [(0, 4), (0, 5), (0, 6), (0, 7), (0, 8), (0, 9), (0, 10), (0, 14), (2, 1000)]
theorem W_X12_readsEdge_n {k : Nat} (h : wlk [(0, 4), (0, 5), (0, 6), (0, 7), (0, 8), (0, 9), (0, 10), (0, 14), (2, 1000)] k = false := by rfl) : ∀ i, ¬ W_X12_readsEdge k i := WL_n h
set_option maxHeartbeats 4000000 in
set_option maxRecDepth 100000 in
theorem fb_X12_readsEdge_90 {P Q : Ii → Jj → Prop} {I0 : Ii} {J0 : Jj} (hq : ∀ (I' : Ii) (J' : Jj), P I' J' → Same (W_X12_readsEdge) I0 J0 I' J' → Q I' J') {l1 : Int} {l2 : Int} {l3 : Int} {I : Ii} {J : Jj} (h : B_X12_readsEdge_90 P l1 l2 l3 I J) (hs : Same (W_X12_readsEdge) I0 J0 I J) : B_X12_readsEdge_90 Q l1 l2 l3 I J := by
  unfold B_X12_readsEdge_90 at h ⊢
  refine fr_X12_number h (fun v I2 J2 h hs2 => ?_)
  replace hs := hs.trans hs2 (WL_sub rfl)
  refine fr_X12_isGood h (fun v h => ?_)
  refine ⟨fun c => ?_, fun c => ?_⟩
  · replace h := h.1 c
    obtain ⟨g, h⟩ := h
    refine ⟨g, ?_⟩
    intro I1 e1
    replace h := h I1 e1
    replace hs := hs.upI e1 rfl
    obtain ⟨g, h⟩ := h
    refine ⟨g, ?_⟩
    intro I1 e1
    replace h := h I1 e1
    replace hs := hs.upI e1 rfl
    obtain ⟨g, h⟩ := h
    refine ⟨g, ?_⟩
    intro I1 e1
    replace h := h I1 e1
    replace hs := hs.upI e1 rfl
    intro I1 e1
    replace h := h I1 e1
    replace hs := hs.upI e1 rfl
    exact hq _ _ h hs
  · replace h := h.2 c
    exact hq _ _ h hs
set_option maxHeartbeats 4000000 in
set_option maxRecDepth 100000 in
theorem fb_X12_readsEdge_79 {P Q : Ii → Jj → Prop} {I0 : Ii} {J0 : Jj} (hq : ∀ (I' : Ii) (J' : Jj), P I' J' → Same (W_X12_readsEdge) I0 J0 I' J' → Q I' J') {l1 : Int} {l2 : Int} {l3 : Int} {I : Ii} {J : Jj} (h : B_X12_readsEdge_79 P l1 l2 l3 I J) (hs : Same (W_X12_readsEdge) I0 J0 I J) : B_X12_readsEdge_79 Q l1 l2 l3 I J := by
  unfold B_X12_readsEdge_79 at h ⊢
  refine fr_X12_isGood h (fun v h => ?_)
  refine ⟨fun c => ?_, fun c => ?_⟩
  · replace h := h.1 c
    exact fb_X12_readsEdge_90 hq h hs
  · replace h := h.2 c
    refine fr_X12_goOn h (fun I2 J2 h hs2 => ?_)
    replace hs := hs.trans hs2 (WL_sub rfl)
    exact fb_X12_readsEdge_90 hq h hs
set_option maxHeartbeats 4000000 in
set_option maxRecDepth 100000 in
theorem fb_X12_readsEdge_57 {P Q : Ii → Jj → Prop} {I0 : Ii} {J0 : Jj} (hq : ∀ (I' : Ii) (J' : Jj), P I' J' → Same (W_X12_readsEdge) I0 J0 I' J' → Q I' J') {l1 : Int} {l2 : Int} {l3 : Int} {I : Ii} {J : Jj} (h : B_X12_readsEdge_57 P l1 l2 l3 I J) (hs : Same (W_X12_readsEdge) I0 J0 I J) : B_X12_readsEdge_57 Q l1 l2 l3 I J := by
  unfold B_X12_readsEdge_57 at h ⊢
  refine fr_X12_isGood h (fun v h => ?_)
  refine ⟨fun c => ?_, fun c => ?_⟩
  · replace h := h.1 c
    exact fb_X12_readsEdge_79 hq h hs
  · replace h := h.2 c
    refine fr_X12_edgeOf h (fun v h => ?_)
    obtain ⟨g, h⟩ := h
    refine ⟨g, ?_⟩
    refine ⟨fun c => ?_, fun c => ?_⟩
    · replace h := h.1 c
      exact fb_X12_readsEdge_79 hq h hs
    · replace h := h.2 c
      refine fr_X12_wrong h (fun I2 J2 h hs2 => ?_)
      replace hs := hs.trans hs2 (WL_sub rfl)
      exact fb_X12_readsEdge_79 hq h hs
set_option maxHeartbeats 4000000 in
set_option maxRecDepth 100000 in
theorem fb_X12_readsEdge_30 {P Q : Ii → Jj → Prop} {I0 : Ii} {J0 : Jj} (hq : ∀ (I' : Ii) (J' : Jj), P I' J' → Same (W_X12_readsEdge) I0 J0 I' J' → Q I' J') {l1 : Int} {I : Ii} {J : Jj} (h : B_X12_readsEdge_30 P l1 I J) (hs : Same (W_X12_readsEdge) I0 J0 I J) : B_X12_readsEdge_30 Q l1 I J := by
  unfold B_X12_readsEdge_30 at h ⊢
  refine fr_X12_toldVertex h (fun v I2 J2 h hs2 => ?_)
  replace hs := hs.trans hs2 (WL_sub rfl)
  refine fr_X12_seenVertex h (fun v I2 J2 h hs2 => ?_)
  replace hs := hs.trans hs2 (WL_sub rfl)
  refine fr_X12_isGood h (fun v h => ?_)
  refine ⟨fun c => ?_, fun c => ?_⟩
  · replace h := h.1 c
    exact fb_X12_readsEdge_57 hq h hs
  · replace h := h.2 c
    obtain ⟨g, h⟩ := h
    refine ⟨g, ?_⟩
    obtain ⟨g, h⟩ := h
    refine ⟨g, ?_⟩
    refine ⟨fun c => ?_, fun c => ?_⟩
    · replace h := h.1 c
      exact fb_X12_readsEdge_57 hq h hs
    · replace h := h.2 c
      refine fr_X12_wrong h (fun I2 J2 h hs2 => ?_)
      replace hs := hs.trans hs2 (WL_sub rfl)
      exact fb_X12_readsEdge_57 hq h hs
set_option maxHeartbeats 4000000 in
set_option maxRecDepth 100000 in
theorem fb_X12_readsEdge_19 {P Q : Ii → Jj → Prop} {I0 : Ii} {J0 : Jj} (hq : ∀ (I' : Ii) (J' : Jj), P I' J' → Same (W_X12_readsEdge) I0 J0 I' J' → Q I' J') {l1 : Int} {I : Ii} {J : Jj} (h : B_X12_readsEdge_19 P l1 I J) (hs : Same (W_X12_readsEdge) I0 J0 I J) : B_X12_readsEdge_19 Q l1 I J := by
  unfold B_X12_readsEdge_19 at h ⊢
  refine fr_X12_isGood h (fun v h => ?_)
  refine ⟨fun c => ?_, fun c => ?_⟩
  · replace h := h.1 c
    exact fb_X12_readsEdge_30 hq h hs
  · replace h := h.2 c
    refine fr_X12_goOn h (fun I2 J2 h hs2 => ?_)
    replace hs := hs.trans hs2 (WL_sub rfl)
    exact fb_X12_readsEdge_30 hq h hs
set_option maxHeartbeats 4000000 in
set_option maxRecDepth 100000 in
theorem fr_X12_readsEdge {P Q : Ii → Jj → Prop} {I0 : Ii} {J0 : Jj} (h : wp_X12_readsEdge I0 J0 P) (hq : ∀ (I' : Ii) (J' : Jj), P I' J' → Same (W_X12_readsEdge) I0 J0 I' J' → Q I' J') : wp_X12_readsEdge I0 J0 Q := by
  have hs := Same.rf (W := (W_X12_readsEdge)) I0 J0
  unfold wp_X12_readsEdge at h ⊢
  obtain ⟨g, h⟩ := h
  refine ⟨g, ?_⟩
  refine ⟨fun c => ?_, fun c => ?_⟩
  · replace h := h.1 c
    exact fb_X12_readsEdge_19 hq h hs
  · replace h := h.2 c
    refine fr_X12_wrong h (fun I2 J2 h hs2 => ?_)
    replace hs := hs.trans hs2 (WL_sub rfl)
    exact fb_X12_readsEdge_19 hq h hs
def W_X12_readsOnce : Nat → Nat → Prop := WL [(0, 4), (0, 5), (0, 6), (0, 7), (0, 8), (0, 9), (0, 10), (0, 14), (0, 25), (2, 1000)]
theorem W_X12_readsOnce_n {k : Nat} (h : wlk [(0, 4), (0, 5), (0, 6), (0, 7), (0, 8), (0, 9), (0, 10), (0, 14), (0, 25), (2, 1000)] k = false := by rfl) : ∀ i, ¬ W_X12_readsOnce k i := WL_n h
set_option maxHeartbeats 4000000 in
set_option maxRecDepth 100000 in
theorem fb_X12_readsOnce_39 {l1 : Int} {l2 : Int} {l3 : Int} {P Q : Ii → Jj → Prop} {I0 : Ii} {J0 : Jj} (hq : ∀ (I' : Ii) (J' : Jj), P I' J' → Same (W_X12_readsOnce) I0 J0 I' J' → Q I' J') {I : Ii} {J : Jj} (h : B_X12_readsOnce_39 l1 l2 l3 P  I J) (hs : Same (W_X12_readsOnce) I0 J0 I J) : B_X12_readsOnce_39 l1 l2 l3 Q  I J := by
  unfold B_X12_readsOnce_39 at h ⊢
  refine fr_X12_number h (fun v I2 J2 h hs2 => ?_)
  replace hs := hs.trans hs2 (WL_sub rfl)
  refine fr_X12_isGood h (fun v h => ?_)
  refine ⟨fun c => ?_, fun c => ?_⟩
  · replace h := h.1 c
    exact hq _ _ h hs
  · replace h := h.2 c
    obtain ⟨g, h⟩ := h
    refine ⟨g, ?_⟩
    intro I1 e1
    replace h := h I1 e1
    replace hs := hs.upI e1 rfl
    exact hq _ _ h hs
set_option maxHeartbeats 4000000 in
set_option maxRecDepth 100000 in
theorem fb_X12_readsOnce_16 {l1 : Int} {l2 : Int} {l3 : Int} {P Q : Ii → Jj → Prop} {I0 : Ii} {J0 : Jj} (hq : ∀ (I' : Ii) (J' : Jj), P I' J' → Same (W_X12_readsOnce) I0 J0 I' J' → Q I' J') {I : Ii} {J : Jj} (h : B_X12_readsOnce_16 l1 l2 l3 P  I J) (hs : Same (W_X12_readsOnce) I0 J0 I J) : B_X12_readsOnce_16 l1 l2 l3 Q  I J := by
  unfold B_X12_readsOnce_16 at h ⊢
  intro I1 e1
  replace h := h I1 e1
  replace hs := hs.upI e1 rfl
  refine fr_X12_isGood h (fun v h => ?_)
  refine ⟨fun c => ?_, fun c => ?_⟩
  · replace h := h.1 c
    exact fb_X12_readsOnce_39 hq h hs
  · replace h := h.2 c
    refine fr_X12_goOn h (fun I2 J2 h hs2 => ?_)
    replace hs := hs.trans hs2 (WL_sub rfl)
    exact fb_X12_readsOnce_39 hq h hs
set_option maxHeartbeats 4000000 in
set_option maxRecDepth 100000 in
theorem fr_X12_readsOnce {l1 : Int} {l2 : Int} {l3 : Int} {P Q : Ii → Jj → Prop} {I0 : Ii} {J0 : Jj} (h : wp_X12_readsOnce l1 l2 l3 I0 J0 P) (hq : ∀ (I' : Ii) (J' : Jj), P I' J' → Same (W_X12_readsOnce) I0 J0 I' J' → Q I' J') : wp_X12_readsOnce l1 l2 l3 I0 J0 Q := by
  have hs := Same.rf (W := (W_X12_readsOnce)) I0 J0
  unfold wp_X12_readsOnce at h ⊢
  refine fr_X12_hasBit h (fun v h => ?_)
  refine ⟨fun c => ?_, fun c => ?_⟩
  · replace h := h.1 c
    exact fb_X12_readsOnce_16 hq h hs
  · replace h := h.2 c
    refine fr_X12_wrong h (fun I2 J2 h hs2 => ?_)
    replace hs := hs.trans hs2 (WL_sub rfl)
    exact fb_X12_readsOnce_16 hq h hs
def W_X12_statement : Nat → Nat → Prop := WL [(0, 4), (0, 5), (0, 6), (0, 7), (0, 8), (0, 9), (0, 10), (0, 14), (0, 25), (2, 1000), (7, 1000)]
theorem W_X12_statement_n {k : Nat} (h : wlk [(0, 4), (0, 5), (0, 6), (0, 7), (0, 8), (0, 9), (0, 10), (0, 14), (0, 25), (2, 1000), (7, 1000)] k = false := by rfl) : ∀ i, ¬ W_X12_statement k i := WL_n h
set_option maxHeartbeats 4000000 in
set_option maxRecDepth 100000 in
theorem fb_X12_statement_101 {P Q : Ii → Jj → Prop} {I0 : Ii} {J0 : Jj} (hq : ∀ (I' : Ii) (J' : Jj), P I' J' → Same (W_X12_statement) I0 J0 I' J' → Q I' J') {I : Ii} {J : Jj} (h : B_X12_statement_101 P  I J) (hs : Same (W_X12_statement) I0 J0 I J) : B_X12_statement_101 Q  I J := by
  unfold B_X12_statement_101 at h ⊢
  refine fr_X12_mustSign h (fun I2 J2 h hs2 => ?_)
  replace hs := hs.trans hs2 (WL_sub rfl)
  exact hq _ _ h hs
set_option maxHeartbeats 4000000 in
set_option maxRecDepth 100000 in
theorem fr_X12_statement {P Q : Ii → Jj → Prop} {I0 : Ii} {J0 : Jj} (h : wp_X12_statement I0 J0 P) (hq : ∀ (I' : Ii) (J' : Jj), P I' J' → Same (W_X12_statement) I0 J0 I' J' → Q I' J') : wp_X12_statement I0 J0 Q := by
  have hs := Same.rf (W := (W_X12_statement)) I0 J0
  unfold wp_X12_statement at h ⊢
  refine fr_X12_isWord h (fun v h => ?_)
  refine ⟨fun c => ?_, fun c => ?_⟩
  · replace h := h.1 c
    refine fr_X12_isWord h (fun v h => ?_)
    refine ⟨fun c => ?_, fun c => ?_⟩
    · replace h := h.1 c
      refine fr_X12_isWord h (fun v h => ?_)
      refine ⟨fun c => ?_, fun c => ?_⟩
      · replace h := h.1 c
        refine fr_X12_isWord h (fun v h => ?_)
        refine ⟨fun c => ?_, fun c => ?_⟩
        · replace h := h.1 c
          refine fr_X12_isWord h (fun v h => ?_)
          refine ⟨fun c => ?_, fun c => ?_⟩
          · replace h := h.1 c
            refine fr_X12_wrong h (fun I2 J2 h hs2 => ?_)
            replace hs := hs.trans hs2 (WL_sub rfl)
            exact fb_X12_statement_101 hq h hs
          · replace h := h.2 c
            refine fr_X12_readsOnce h (fun I2 J2 h hs2 => ?_)
            replace hs := hs.trans hs2 (WL_sub rfl)
            exact fb_X12_statement_101 hq h hs
        · replace h := h.2 c
          refine fr_X12_readsOnce h (fun I2 J2 h hs2 => ?_)
          replace hs := hs.trans hs2 (WL_sub rfl)
          exact fb_X12_statement_101 hq h hs
      · replace h := h.2 c
        refine fr_X12_readsOnce h (fun I2 J2 h hs2 => ?_)
        replace hs := hs.trans hs2 (WL_sub rfl)
        exact fb_X12_statement_101 hq h hs
    · replace h := h.2 c
      refine fr_X12_readsEdge h (fun I2 J2 h hs2 => ?_)
      replace hs := hs.trans hs2 (WL_sub rfl)
      exact fb_X12_statement_101 hq h hs
  · replace h := h.2 c
    refine fr_X12_readsVertex h (fun I2 J2 h hs2 => ?_)
    replace hs := hs.trans hs2 (WL_sub rfl)
    exact fb_X12_statement_101 hq h hs
