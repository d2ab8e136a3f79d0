def W_X12_readText : Nat → Nat → Prop := WL [(0, 0), (0, 2), (0, 3), (0, 4), (0, 5), (0, 6), (0, 7), (0, 8), (0, 9), (0, 10), (0, 11), (0, 12), (0, 13), (0, 14), (0, 23), (0, 25), (0, 43), (2, 1000), (5, 1000), (7, 1000), (9, 1000)]
theorem W_X12_readText_n {k : Nat} (h : wlk [(0, 0), (0, 2), (0, 3), (0, 4), (0, 5), (0, 6), (0, 7), (0, 8), (0, 9), (0, 10), (0, 11), (0, 12), (0, 13), (0, 14), (0, 23), (0, 25), (0, 43), (2, 1000), (5, 1000), (7, 1000), (9, 1000)] k = false := by rfl) : ∀ i, ¬ W_X12_readText k i := WL_n h
theorem ls_X12_readText_100 {Q : Int → Ii → Jj → Prop} {n : Nat} {l1 : Int} {I : Ii} {J : Jj} (h : Lb_X12_readText_100 Q (L_X12_readText_100 Q n) l1 I J) : L_X12_readText_100 Q (n + 1) l1 I J := h
set_option maxHeartbeats 4000000 in
set_option maxRecDepth 100000 in
theorem fl_X12_readText_100 {P Q : Int → Ii → Jj → Prop} {I0 : Ii} {J0 : Jj} (hq : ∀ (v : Int) (I' : Ii) (J' : Jj), P v I' J' → Same (W_X12_readText) I0 J0 I' J' → Q v I' J') : ∀ (n : Nat) (l1 : Int) (I : Ii) (J : Jj), L_X12_readText_100 P n l1 I J → Same (W_X12_readText) I0 J0 I J → L_X12_readText_100 Q n l1 I J := by
  intro n
  induction n with
  | zero => intro l1 I J h _; exact h
  | succ n ih =>
    intro l1 I J h hs
    have h : Lb_X12_readText_100 P (L_X12_readText_100 P n) l1 I J := h
    show Lb_X12_readText_100 Q (L_X12_readText_100 Q n) l1 I J
    have hr100 := ih
    clear ih
    unfold Lb_X12_readText_100 at h ⊢
    obtain ⟨g, h⟩ := h
    refine ⟨g, ?_⟩
    refine ⟨fun c => ?_, fun c => ?_⟩
    · replace h := h.1 c
      exact hq _ _ _ h hs
    · replace h := h.2 c
      obtain ⟨g, h⟩ := h
      refine ⟨g, ?_⟩
      obtain ⟨g, h⟩ := h
      refine ⟨g, ?_⟩
      intro I1 e1
      replace h := h I1 e1
      replace hs := hs.upJ e1 rfl
      exact hr100 _ _ _ h hs
theorem ls_X12_readText_73 {Q : Int → Ii → Jj → Prop} {n : Nat} {l1 : Int} {I : Ii} {J : Jj} (h : Lb_X12_readText_73 Q (L_X12_readText_73 Q n) l1 I J) : L_X12_readText_73 Q (n + 1) l1 I J := h
set_option maxHeartbeats 4000000 in
set_option maxRecDepth 100000 in
theorem fl_X12_readText_73 {P Q : Int → Ii → Jj → Prop} {I0 : Ii} {J0 : Jj} (hq : ∀ (v : Int) (I' : Ii) (J' : Jj), P v I' J' → Same (W_X12_readText) I0 J0 I' J' → Q v I' J') : ∀ (n : Nat) (l1 : Int) (I : Ii) (J : Jj), L_X12_readText_73 P n l1 I J → Same (W_X12_readText) I0 J0 I J → L_X12_readText_73 Q n l1 I J := by
  intro n
  induction n with
  | zero => intro l1 I J h _; exact h
  | succ n ih =>
    intro l1 I J h hs
    have h : Lb_X12_readText_73 P (L_X12_readText_73 P n) l1 I J := h
    show Lb_X12_readText_73 Q (L_X12_readText_73 Q n) l1 I J
    have hr73 := ih
    clear ih
    unfold Lb_X12_readText_73 at h ⊢
    obtain ⟨g, h⟩ := h
    refine ⟨g, ?_⟩
    refine ⟨fun c => ?_, fun c => ?_⟩
    · replace h := h.1 c
      obtain ⟨n, h⟩ := h
      exact ⟨n, fl_X12_readText_100 hq n _ _ _ h hs⟩
    · replace h := h.2 c
      obtain ⟨g, h⟩ := h
      refine ⟨g, ?_⟩
      obtain ⟨g, h⟩ := h
      refine ⟨g, ?_⟩
      intro I1 e1
      replace h := h I1 e1
      replace hs := hs.upI e1 rfl
      exact hr73 _ _ _ h hs
set_option maxHeartbeats 4000000 in
set_option maxRecDepth 100000 in
theorem fb_X12_readText_64 {P Q : Int → Ii → Jj → Prop} {I0 : Ii} {J0 : Jj} (hq : ∀ (v : Int) (I' : Ii) (J' : Jj), P v I' J' → Same (W_X12_readText) I0 J0 I' J' → Q v I' J') {I : Ii} {J : Jj} (h : B_X12_readText_64 P  I J) (hs : Same (W_X12_readText) I0 J0 I J) : B_X12_readText_64 Q  I J := by
  unfold B_X12_readText_64 at h ⊢
  refine fr_X12_endsText h (fun v I2 J2 h hs2 => ?_)
  replace hs := hs.trans hs2 (WL_sub rfl)
  refine ⟨fun c => ?_, fun c => ?_⟩
  · replace h := h.1 c
    intro I1 e1
    replace h := h I1 e1
    replace hs := hs.upI e1 rfl
    exact hq _ _ _ h hs
  · replace h := h.2 c
    obtain ⟨n, h⟩ := h
    exact ⟨n, fl_X12_readText_73 hq n _ _ _ h hs⟩
theorem ls_X12_readText_43 {Q : Int → Ii → Jj → Prop} {n : Nat} {I : Ii} {J : Jj} (h : Lb_X12_readText_43 Q (L_X12_readText_43 Q n)  I J) : L_X12_readText_43 Q (n + 1)  I J := h
set_option maxHeartbeats 4000000 in
set_option maxRecDepth 100000 in
theorem fl_X12_readText_43 {P Q : Int → Ii → Jj → Prop} {I0 : Ii} {J0 : Jj} (hq : ∀ (v : Int) (I' : Ii) (J' : Jj), P v I' J' → Same (W_X12_readText) I0 J0 I' J' → Q v I' J') : ∀ (n : Nat)  (I : Ii) (J : Jj), L_X12_readText_43 P n  I J → Same (W_X12_readText) I0 J0 I J → L_X12_readText_43 Q n  I J := by
  intro n
  induction n with
  | zero => intro  I J h _; exact h
  | succ n ih =>
    intro  I J h hs
    have h : Lb_X12_readText_43 P (L_X12_readText_43 P n)  I J := h
    show Lb_X12_readText_43 Q (L_X12_readText_43 Q n)  I J
    have hr43 := ih
    clear ih
    unfold Lb_X12_readText_43 at h ⊢
    refine fr_X12_isGood h (fun v h => ?_)
    refine ⟨fun c => ?_, fun c => ?_⟩
    · replace h := h.1 c
      exact fb_X12_readText_64 hq h hs
    · replace h := h.2 c
      obtain ⟨g, h⟩ := h
      refine ⟨g, ?_⟩
      refine ⟨fun c => ?_, fun c => ?_⟩
      · replace h := h.1 c
        exact fb_X12_readText_64 hq h hs
      · replace h := h.2 c
        refine fr_X12_statement h (fun I2 J2 h hs2 => ?_)
        replace hs := hs.trans hs2 (WL_sub rfl)
        exact hr43 _ _ h hs
theorem ls_X12_readText_10 {Q : Int → Ii → Jj → Prop} {n : Nat} {l1 : Int} {I : Ii} {J : Jj} (h : Lb_X12_readText_10 Q (L_X12_readText_10 Q n) l1 I J) : L_X12_readText_10 Q (n + 1) l1 I J := h
set_option maxHeartbeats 4000000 in
set_option maxRecDepth 100000 in
theorem fl_X12_readText_10 {P Q : Int → Ii → Jj → Prop} {I0 : Ii} {J0 : Jj} (hq : ∀ (v : Int) (I' : Ii) (J' : Jj), P v I' J' → Same (W_X12_readText) I0 J0 I' J' → Q v I' J') : ∀ (n : Nat) (l1 : Int) (I : Ii) (J : Jj), L_X12_readText_10 P n l1 I J → Same (W_X12_readText) I0 J0 I J → L_X12_readText_10 Q n l1 I J := by
  intro n
  induction n with
  | zero => intro l1 I J h _; exact h
  | succ n ih =>
    intro l1 I J h hs
    have h : Lb_X12_readText_10 P (L_X12_readText_10 P n) l1 I J := h
    show Lb_X12_readText_10 Q (L_X12_readText_10 Q n) l1 I J
    have hr10 := ih
    clear ih
    unfold Lb_X12_readText_10 at h ⊢
    obtain ⟨g, h⟩ := h
    refine ⟨g, ?_⟩
    refine ⟨fun c => ?_, fun c => ?_⟩
    · replace h := h.1 c
      refine fr_X12_clears h (fun I2 J2 h hs2 => ?_)
      replace hs := hs.trans hs2 (WL_sub rfl)
      intro I1 e1
      replace h := h I1 e1
      replace hs := hs.upI e1 rfl
      obtain ⟨n, h⟩ := h
      exact ⟨n, fl_X12_readText_43 hq n _ _ h hs⟩
    · replace h := h.2 c
      obtain ⟨g, h⟩ := h
      refine ⟨g, ?_⟩
      obtain ⟨g, h⟩ := h
      refine ⟨g, ?_⟩
      intro I1 e1
      replace h := h I1 e1
      replace hs := hs.upJ e1 rfl
      exact hr10 _ _ _ h hs
set_option maxHeartbeats 4000000 in
set_option maxRecDepth 100000 in
theorem fr_X12_readText {P Q : Int → Ii → Jj → Prop} {I0 : Ii} {J0 : Jj} (h : wp_X12_readText I0 J0 P) (hq : ∀ (v : Int) (I' : Ii) (J' : Jj), P v I' J' → Same (W_X12_readText) I0 J0 I' J' → Q v I' J') : wp_X12_readText I0 J0 Q := by
  have hs := Same.rf (W := (W_X12_readText)) I0 J0
  unfold wp_X12_readText at h ⊢
  refine fr_X12_beginsText h (fun I2 J2 h hs2 => ?_)
  replace hs := hs.trans hs2 (WL_sub rfl)
  refine fr_X12_laysAside h (fun I2 J2 h hs2 => ?_)
  replace hs := hs.trans hs2 (WL_sub rfl)
  obtain ⟨n, h⟩ := h
  exact ⟨n, fl_X12_readText_10 hq n _ _ _ h hs⟩
theorem ls_X12_allWeight_4 {Q : Int → Ii → Jj → Prop} {n : Nat} {l1 : Int} {l2 : Int} {I : Ii} {J : Jj} (h : Lb_X12_allWeight_4 Q (L_X12_allWeight_4 Q n) l1 l2 I J) : L_X12_allWeight_4 Q (n + 1) l1 l2 I J := h
set_option maxHeartbeats 4000000 in
set_option maxRecDepth 100000 in
theorem fl_X12_allWeight_4 {P Q : Int → Ii → Jj → Prop} {I : Ii} {J : Jj} (hq : ∀ (v : Int), P v I J → Q v I J) : ∀ (n : Nat) (l1 : Int) (l2 : Int), L_X12_allWeight_4 P n l1 l2 I J → L_X12_allWeight_4 Q n l1 l2 I J := by
  intro n
  induction n with
  | zero => intro l1 l2 h; exact h
  | succ n ih =>
    intro l1 l2 h
    have h : Lb_X12_allWeight_4 P (L_X12_allWeight_4 P n) l1 l2 I J := h
    show Lb_X12_allWeight_4 Q (L_X12_allWeight_4 Q n) l1 l2 I J
    have hr4 := ih
    clear ih
    unfold Lb_X12_allWeight_4 at h ⊢
    obtain ⟨g, h⟩ := h
    refine ⟨g, ?_⟩
    obtain ⟨g, h⟩ := h
    refine ⟨g, ?_⟩
    refine ⟨fun c => ?_, fun c => ?_⟩
    · replace h := h.1 c
      exact hq _ h
    · replace h := h.2 c
      obtain ⟨g, h⟩ := h
      refine ⟨g, ?_⟩
      exact hr4 _ _ h
set_option maxHeartbeats 4000000 in
set_option maxRecDepth 100000 in
theorem fr_X12_allWeight {P Q : Int → Ii → Jj → Prop} {I : Ii} {J : Jj} (h : wp_X12_allWeight I J P) (hq : ∀ (v : Int), P v I J → Q v I J) : wp_X12_allWeight I J Q := by
  unfold wp_X12_allWeight at h ⊢
  obtain ⟨n, h⟩ := h
  exact ⟨n, fl_X12_allWeight_4 hq n _ _ h⟩
theorem ls_X12_allEdges_4 {Q : Int → Ii → Jj → Prop} {n : Nat} {l1 : Int} {l2 : Int} {I : Ii} {J : Jj} (h : Lb_X12_allEdges_4 Q (L_X12_allEdges_4 Q n) l1 l2 I J) : L_X12_allEdges_4 Q (n + 1) l1 l2 I J := h
set_option maxHeartbeats 4000000 in
set_option maxRecDepth 100000 in
theorem fl_X12_allEdges_4 {P Q : Int → Ii → Jj → Prop} {I : Ii} {J : Jj} (hq : ∀ (v : Int), P v I J → Q v I J) : ∀ (n : Nat) (l1 : Int) (l2 : Int), L_X12_allEdges_4 P n l1 l2 I J → L_X12_allEdges_4 Q n l1 l2 I J := by
  intro n
  induction n with
  | zero => intro l1 l2 h; exact h
  | succ n ih =>
    intro l1 l2 h
    have h : Lb_X12_allEdges_4 P (L_X12_allEdges_4 P n) l1 l2 I J := h
    show Lb_X12_allEdges_4 Q (L_X12_allEdges_4 Q n) l1 l2 I J
    have hr4 := ih
    clear ih
    unfold Lb_X12_allEdges_4 at h ⊢
    obtain ⟨g, h⟩ := h
    refine ⟨g, ?_⟩
    obtain ⟨g, h⟩ := h
    refine ⟨g, ?_⟩
    refine ⟨fun c => ?_, fun c => ?_⟩
    · replace h := h.1 c
      exact hq _ h
    · replace h := h.2 c
      obtain ⟨g, h⟩ := h
      refine ⟨g, ?_⟩
      exact hr4 _ _ h
set_option maxHeartbeats 4000000 in
set_option maxRecDepth 100000 in
theorem fr_X12_allEdges {P Q : Int → Ii → Jj → Prop} {I : Ii} {J : Jj} (h : wp_X12_allEdges I J P) (hq : ∀ (v : Int), P v I J → Q v I J) : wp_X12_allEdges I J Q := by
  unfold wp_X12_allEdges at h ⊢
  obtain ⟨n, h⟩ := h
  exact ⟨n, fl_X12_allEdges_4 hq n _ _ h⟩
set_option maxHeartbeats 4000000 in
set_option maxRecDepth 100000 in
theorem fr_X12_limit {P Q : Int → Ii → Jj → Prop} {I : Ii} {J : Jj} (h : wp_X12_limit I J P) (hq : ∀ (v : Int), P v I J → Q v I J) : wp_X12_limit I J Q := by
  unfold wp_X12_limit at h ⊢
  refine fr_X12_allWeight h (fun v h => ?_)
  obtain ⟨g, h⟩ := h
  refine ⟨g, ?_⟩
  exact hq _ h
set_option maxHeartbeats 4000000 in
set_option maxRecDepth 100000 in
theorem fb_X12_together_94 {l1 : Int} {l2 : Int} {P Q : Int → Ii → Jj → Prop} {I : Ii} {J : Jj} (hq : ∀ (v : Int), P v I J → Q v I J) {r7 q7 : Int → Int → Ii → Jj → Prop} (hr7 : ∀ (l3 : Int) (l4 : Int), r7 l3 l4 I J → q7 l3 l4 I J) {r21 q21 : Int → Int → Int → Ii → Jj → Prop} (hr21 : ∀ (l3 : Int) (l4 : Int) (l5 : Int), r21 l3 l4 l5 I J → q21 l3 l4 l5 I J) {l3 : Int} {l4 : Int} {l5 : Int} {l6 : Int} {l7 : Int} (h : B_X12_together_94 l1 l2 P r7 r21 l3 l4 l5 l6 l7 I J) : B_X12_together_94 l1 l2 Q q7 q21 l3 l4 l5 l6 l7 I J := by
  unfold B_X12_together_94 at h ⊢
  refine fr_X12_hasBit h (fun v h => ?_)
  refine ⟨fun c => ?_, fun c => ?_⟩
  · replace h := h.1 c
    exact hr21 _ _ _ h
  · replace h := h.2 c
    exact hr21 _ _ _ h
theorem ls_X12_together_21 {l1 : Int} {l2 : Int} {Q : Int → Ii → Jj → Prop} {r7 : Int → Int → Ii → Jj → Prop} {n : Nat} {l3 : Int} {l4 : Int} {l5 : Int} {I : Ii} {J : Jj} (h : Lb_X12_together_21 l1 l2 Q r7 (L_X12_together_21 l1 l2 Q r7 n) l3 l4 l5 I J) : L_X12_together_21 l1 l2 Q r7 (n + 1) l3 l4 l5 I J := h
set_option maxHeartbeats 4000000 in
set_option maxRecDepth 100000 in
theorem fl_X12_together_21 {l1 : Int} {l2 : Int} {P Q : Int → Ii → Jj → Prop} {I : Ii} {J : Jj} (hq : ∀ (v : Int), P v I J → Q v I J) {r7 q7 : Int → Int → Ii → Jj → Prop} (hr7 : ∀ (l3 : Int) (l4 : Int), r7 l3 l4 I J → q7 l3 l4 I J) : ∀ (n : Nat) (l3 : Int) (l4 : Int) (l5 : Int), L_X12_together_21 l1 l2 P r7 n l3 l4 l5 I J → L_X12_together_21 l1 l2 Q q7 n l3 l4 l5 I J := by
  intro n
  induction n with
  | zero => intro l3 l4 l5 h; exact h
  | succ n ih =>
    intro l3 l4 l5 h
    have h : Lb_X12_together_21 l1 l2 P r7 (L_X12_together_21 l1 l2 P r7 n) l3 l4 l5 I J := h
    show Lb_X12_together_21 l1 l2 Q q7 (L_X12_together_21 l1 l2 Q q7 n) l3 l4 l5 I J
    have hr21 := ih
    clear ih
    unfold Lb_X12_together_21 at h ⊢
    obtain ⟨g, h⟩ := h
    refine ⟨g, ?_⟩
    obtain ⟨g, h⟩ := h
    refine ⟨g, ?_⟩
    refine ⟨fun c => ?_, fun c => ?_⟩
    · replace h := h.1 c
      exact hr7 _ _ h
    · replace h := h.2 c
      obtain ⟨g, h⟩ := h
      refine ⟨g, ?_⟩
      obtain ⟨g, h⟩ := h
      refine ⟨g, ?_⟩
      refine fr_X12_hasBit h (fun v h => ?_)
      refine ⟨fun c => ?_, fun c => ?_⟩
      · replace h := h.1 c
        exact hr21 _ _ _ h
      · replace h := h.2 c
        refine fr_X12_hasBit h (fun v h => ?_)
        refine ⟨fun c => ?_, fun c => ?_⟩
        · replace h := h.1 c
          refine fr_X12_hasBit h (fun v h => ?_)
          refine ⟨fun c => ?_, fun c => ?_⟩
          · replace h := h.1 c
            exact fb_X12_together_94 hq hr7 hr21 h
          · replace h := h.2 c
            exact fb_X12_together_94 hq hr7 hr21 h
        · replace h := h.2 c
          exact hr21 _ _ _ h
theorem ls_X12_together_7 {l1 : Int} {l2 : Int} {Q : Int → Ii → Jj → Prop} {n : Nat} {l3 : Int} {l4 : Int} {I : Ii} {J : Jj} (h : Lb_X12_together_7 l1 l2 Q (L_X12_together_7 l1 l2 Q n) l3 l4 I J) : L_X12_together_7 l1 l2 Q (n + 1) l3 l4 I J := h
set_option maxHeartbeats 4000000 in
set_option maxRecDepth 100000 in
theorem fl_X12_together_7 {l1 : Int} {l2 : Int} {P Q : Int → Ii → Jj → Prop} {I : Ii} {J : Jj} (hq : ∀ (v : Int), P v I J → Q v I J) : ∀ (n : Nat) (l3 : Int) (l4 : Int), L_X12_together_7 l1 l2 P n l3 l4 I J → L_X12_together_7 l1 l2 Q n l3 l4 I J := by
  intro n
  induction n with
  | zero => intro l3 l4 h; exact h
  | succ n ih =>
    intro l3 l4 h
    have h : Lb_X12_together_7 l1 l2 P (L_X12_together_7 l1 l2 P n) l3 l4 I J := h
    show Lb_X12_together_7 l1 l2 Q (L_X12_together_7 l1 l2 Q n) l3 l4 I J
    have hr7 := ih
    clear ih
    unfold Lb_X12_together_7 at h ⊢
    obtain ⟨g, h⟩ := h
    refine ⟨g, ?_⟩
    obtain ⟨g, h⟩ := h
    refine ⟨g, ?_⟩
    refine ⟨fun c => ?_, fun c => ?_⟩
    · replace h := h.1 c
      exact hq _ h
    · replace h := h.2 c
      obtain ⟨n, h⟩ := h
      exact ⟨n, fl_X12_together_21 hq hr7 n _ _ _ h⟩
set_option maxHeartbeats 4000000 in
set_option maxRecDepth 100000 in
theorem fr_X12_together {l1 : Int} {l2 : Int} {P Q : Int → Ii → Jj → Prop} {I : Ii} {J : Jj} (h : wp_X12_together l1 l2 I J P) (hq : ∀ (v : Int), P v I J → Q v I J) : wp_X12_together l1 l2 I J Q := by
  unfold wp_X12_together at h ⊢
  obtain ⟨n, h⟩ := h
  exact ⟨n, fl_X12_together_7 hq n _ _ h⟩
theorem ls_X12_ones_4 {l0 : Int} {Q : Int → Ii → Jj → Prop} {n : Nat} {l1 : Int} {l2 : Int} {I : Ii} {J : Jj} (h : Lb_X12_ones_4 l0 Q (L_X12_ones_4 l0 Q n) l1 l2 I J) : L_X12_ones_4 l0 Q (n + 1) l1 l2 I J := h
set_option maxHeartbeats 4000000 in
set_option maxRecDepth 100000 in
theorem fl_X12_ones_4 {l0 : Int} {P Q : Int → Ii → Jj → Prop} {I : Ii} {J : Jj} (hq : ∀ (v : Int), P v I J → Q v I J) : ∀ (n : Nat) (l1 : Int) (l2 : Int), L_X12_ones_4 l0 P n l1 l2 I J → L_X12_ones_4 l0 Q n l1 l2 I J := by
  intro n
  induction n with
  | zero => intro l1 l2 h; exact h
  | succ n ih =>
    intro l1 l2 h
    have h : Lb_X12_ones_4 l0 P (L_X12_ones_4 l0 P n) l1 l2 I J := h
    show Lb_X12_ones_4 l0 Q (L_X12_ones_4 l0 Q n) l1 l2 I J
    have hr4 := ih
    clear ih
    unfold Lb_X12_ones_4 at h ⊢
    obtain ⟨g, h⟩ := h
    refine ⟨g, ?_⟩
    refine ⟨fun c => ?_, fun c => ?_⟩
    · replace h := h.1 c
      exact hq _ h
    · replace h := h.2 c
      exact hr4 _ _ h
set_option maxHeartbeats 4000000 in
set_option maxRecDepth 100000 in
theorem fr_X12_ones {l0 : Int} {P Q : Int → Ii → Jj → Prop} {I : Ii} {J : Jj} (h : wp_X12_ones l0 I J P) (hq : ∀ (v : Int), P v I J → Q v I J) : wp_X12_ones l0 I J Q := by
  unfold wp_X12_ones at h ⊢
  obtain ⟨n, h⟩ := h
  exact ⟨n, fl_X12_ones_4 hq n _ _ h⟩
set_option maxHeartbeats 4000000 in
set_option maxRecDepth 100000 in
theorem fr_X12_everything {P Q : Int → Ii → Jj → Prop} {I : Ii} {J : Jj} (h : wp_X12_everything I J P) (hq : ∀ (v : Int), P v I J → Q v I J) : wp_X12_everything I J Q := by
  unfold wp_X12_everything at h ⊢
  exact hq _ h
theorem ls_X12_largest_4 {Q : Int → Ii → Jj → Prop} {n : Nat} {l1 : Int} {l2 : Int} {I : Ii} {J : Jj} (h : Lb_X12_largest_4 Q (L_X12_largest_4 Q n) l1 l2 I J) : L_X12_largest_4 Q (n + 1) l1 l2 I J := h
set_option maxHeartbeats 4000000 in
set_option maxRecDepth 100000 in
theorem fl_X12_largest_4 {P Q : Int → Ii → Jj → Prop} {I : Ii} {J : Jj} (hq : ∀ (v : Int), P v I J → Q v I J) : ∀ (n : Nat) (l1 : Int) (l2 : Int), L_X12_largest_4 P n l1 l2 I J → L_X12_largest_4 Q n l1 l2 I J := by
  intro n
  induction n with
  | zero => intro l1 l2 h; exact h
  | succ n ih =>
    intro l1 l2 h
    have h : Lb_X12_largest_4 P (L_X12_largest_4 P n) l1 l2 I J := h
    show Lb_X12_largest_4 Q (L_X12_largest_4 Q n) l1 l2 I J
    have hr4 := ih
    clear ih
    unfold Lb_X12_largest_4 at h ⊢
    obtain ⟨g, h⟩ := h
    refine ⟨g, ?_⟩
    obtain ⟨g, h⟩ := h
    refine ⟨g, ?_⟩
    refine ⟨fun c => ?_, fun c => ?_⟩
    · replace h := h.1 c
      exact hq _ h
    · replace h := h.2 c
      refine fr_X12_everything h (fun v h => ?_)
      refine fr_X12_together h (fun v h => ?_)
      refine fr_X12_ones h (fun v h => ?_)
      obtain ⟨g, h⟩ := h
      refine ⟨g, ?_⟩
      obtain ⟨g, h⟩ := h
      refine ⟨g, ?_⟩
      refine ⟨fun c => ?_, fun c => ?_⟩
      · replace h := h.1 c
        exact hr4 _ _ h
      · replace h := h.2 c
        exact hr4 _ _ h
set_option maxHeartbeats 4000000 in
set_option maxRecDepth 100000 in
theorem fr_X12_largest {P Q : Int → Ii → Jj → Prop} {I : Ii} {J : Jj} (h : wp_X12_largest I J P) (hq : ∀ (v : Int), P v I J → Q v I J) : wp_X12_largest I J Q := by
  unfold wp_X12_largest at h ⊢
  obtain ⟨n, h⟩ := h
  exact ⟨n, fl_X12_largest_4 hq n _ _ h⟩
def W_X12_setting : Nat → Nat → Prop := WL [(0, 0)]
theorem W_X12_setting_n {k : Nat} (h : wlk [(0, 0)] k = false := by rfl) : ∀ i, ¬ W_X12_setting k i := WL_n h
set_option maxHeartbeats 4000000 in
set_option maxRecDepth 100000 in
theorem fr_X12_setting {l1 : Int} {P Q : Int → Ii → Jj → Prop} {I0 : Ii} {J0 : Jj} (h : wp_X12_setting l1 I0 J0 P) (hq : ∀ (v : Int) (I' : Ii) (J' : Jj), P v I' J' → Same (W_X12_setting) I0 J0 I' J' → Q v I' J') : wp_X12_setting l1 I0 J0 Q := by
  have hs := Same.rf (W := (W_X12_setting)) I0 J0
  unfold wp_X12_setting at h ⊢
  refine fr_X12_isIn h (fun v h => ?_)
  refine fr_X12_goes h (fun v I2 J2 h hs2 => ?_)
  replace hs := hs.trans hs2 (WL_sub rfl)
  refine ⟨fun c => ?_, fun c => ?_⟩
  · replace h := h.1 c
    obtain ⟨g, h⟩ := h
    refine ⟨g, ?_⟩
    refine ⟨fun c => ?_, fun c => ?_, fun c => ?_, fun c => ?_, fun c => ?_, fun c => ?_, fun c => ?_, fun c => ?_⟩
    · replace h := h.1 c
      obtain ⟨g, h⟩ := h
      refine ⟨g, ?_⟩
      exact hq _ _ _ h hs
    · replace h := h.2.1 c
      refine fr_X12_limit h (fun v h => ?_)
      exact hq _ _ _ h hs
    · replace h := h.2.2.1 c
      refine fr_X12_allWeight h (fun v h => ?_)
      exact hq _ _ _ h hs
    · replace h := h.2.2.2.1 c
      refine fr_X12_allEdges h (fun v h => ?_)
      exact hq _ _ _ h hs
    · replace h := h.2.2.2.2.1 c
      exact hq _ _ _ h hs
    · replace h := h.2.2.2.2.2.1 c
      refine fr_X12_groups h (fun v h => ?_)
      exact hq _ _ _ h hs
    · replace h := h.2.2.2.2.2.2.1 c
      exact hq _ _ _ h hs
    · replace h := h.2.2.2.2.2.2.2 c
      refine fr_X12_largest h (fun v h => ?_)
      exact hq _ _ _ h hs
  · replace h := h.2 c
    exact hq _ _ _ h hs
def W_X12_weight : Nat → Nat → Prop := WL [(0, 0)]
theorem W_X12_weight_n {k : Nat} (h : wlk [(0, 0)] k = false := by rfl) : ∀ i, ¬ W_X12_weight k i := WL_n h
set_option maxHeartbeats 4000000 in
set_option maxRecDepth 100000 in
theorem fr_X12_weight {l1 : Int} {P Q : Int → Ii → Jj → Prop} {I0 : Ii} {J0 : Jj} (h : wp_X12_weight l1 I0 J0 P) (hq : ∀ (v : Int) (I' : Ii) (J' : Jj), P v I' J' → Same (W_X12_weight) I0 J0 I' J' → Q v I' J') : wp_X12_weight l1 I0 J0 Q := by
  have hs := Same.rf (W := (W_X12_weight)) I0 J0
  unfold wp_X12_weight at h ⊢
  refine fr_X12_isVertex h (fun v h => ?_)
  refine fr_X12_goes h (fun v I2 J2 h hs2 => ?_)
  replace hs := hs.trans hs2 (WL_sub rfl)
  refine ⟨fun c => ?_, fun c => ?_⟩
  · replace h := h.1 c
    exact hq _ _ _ h hs
  · replace h := h.2 c
    obtain ⟨g, h⟩ := h
    refine ⟨g, ?_⟩
    exact hq _ _ _ h hs
set_option maxHeartbeats 4000000 in
set_option maxRecDepth 100000 in
theorem fr_X12_isCut {l1 : Int} {P Q : Int → Ii → Jj → Prop} {I : Ii} {J : Jj} (h : wp_X12_isCut l1 I J P) (hq : ∀ (v : Int), P v I J → Q v I J) : wp_X12_isCut l1 I J Q := by
  unfold wp_X12_isCut at h ⊢
  obtain ⟨g, h⟩ := h
  refine ⟨g, ?_⟩
  obtain ⟨g, h⟩ := h
  refine ⟨g, ?_⟩
  obtain ⟨g, h⟩ := h
  refine ⟨g, ?_⟩
  obtain ⟨g, h⟩ := h
  refine ⟨g, ?_⟩
  obtain ⟨g, h⟩ := h
  refine ⟨g, ?_⟩
  obtain ⟨g, h⟩ := h
  refine ⟨g, ?_⟩
  refine ⟨fun c => ?_, fun c => ?_⟩
  · replace h := h.1 c
    exact hq _ h
  · replace h := h.2 c
    exact hq _ h
def W_X12_edge : Nat → Nat → Prop := WL [(0, 0)]
theorem W_X12_edge_n {k : Nat} (h : wlk [(0, 0)] k = false := by rfl) : ∀ i, ¬ W_X12_edge k i := WL_n h
set_option maxHeartbeats 4000000 in
set_option maxRecDepth 100000 in
theorem fr_X12_edge {l1 : Int} {l2 : Int} {P Q : Int → Ii → Jj → Prop} {I0 : Ii} {J0 : Jj} (h : wp_X12_edge l1 l2 I0 J0 P) (hq : ∀ (v : Int) (I' : Ii) (J' : Jj), P v I' J' → Same (W_X12_edge) I0 J0 I' J' → Q v I' J') : wp_X12_edge l1 l2 I0 J0 Q := by
  have hs := Same.rf (W := (W_X12_edge)) I0 J0
  unfold wp_X12_edge at h ⊢
  refine fr_X12_isEdge h (fun v h => ?_)
  refine fr_X12_isIn h (fun v h => ?_)
  refine fr_X12_goesBoth h (fun v I2 J2 h hs2 => ?_)
  replace hs := hs.trans hs2 (WL_sub rfl)
  refine ⟨fun c => ?_, fun c => ?_⟩
  · replace h := h.1 c
    obtain ⟨g, h⟩ := h
    refine ⟨g, ?_⟩
    refine ⟨fun c => ?_, fun c => ?_, fun c => ?_, fun c => ?_⟩
    · replace h := h.1 c
      refine fr_X12_isCut h (fun v h => ?_)
      refine fr_X12_truth h (fun v h => ?_)
      exact hq _ _ _ h hs
    · replace h := h.2.1 c
      obtain ⟨g, h⟩ := h
      refine ⟨g, ?_⟩
      exact hq _ _ _ h hs
    · replace h := h.2.2.1 c
      obtain ⟨g, h⟩ := h
      refine ⟨g, ?_⟩
      exact hq _ _ _ h hs
    · replace h := h.2.2.2 c
      obtain ⟨g, h⟩ := h
      refine ⟨g, ?_⟩
      exact hq _ _ _ h hs
  · replace h := h.2 c
    exact hq _ _ _ h hs
set_option maxHeartbeats 4000000 in
set_option maxRecDepth 100000 in
theorem fr_X12_areVertices {l1 : Int} {l2 : Int} {P Q : Int → Ii → Jj → Prop} {I : Ii} {J : Jj} (h : wp_X12_areVertices l1 l2 I J P) (hq : ∀ (v : Int), P v I J → Q v I J) : wp_X12_areVertices l1 l2 I J Q := by
  unfold wp_X12_areVertices at h ⊢
  refine fr_X12_isVertex h (fun v h => ?_)
  refine ⟨fun c => ?_, fun c => ?_⟩
  · replace h := h.1 c
    exact hq _ h
  · replace h := h.2 c
    refine fr_X12_isVertex h (fun v h => ?_)
    refine ⟨fun c => ?_, fun c => ?_⟩
    · replace h := h.1 c
      exact hq _ h
    · replace h := h.2 c
      exact hq _ h
def W_X12_between : Nat → Nat → Prop := WL [(0, 0)]
theorem W_X12_between_n {k : Nat} (h : wlk [(0, 0)] k = false := by rfl) : ∀ i, ¬ W_X12_between k i := WL_n h
set_option maxHeartbeats 4000000 in
set_option maxRecDepth 100000 in
theorem fr_X12_between {l1 : Int} {l2 : Int} {P Q : Int → Ii → Jj → Prop} {I0 : Ii} {J0 : Jj} (h : wp_X12_between l1 l2 I0 J0 P) (hq : ∀ (v : Int) (I' : Ii) (J' : Jj), P v I' J' → Same (W_X12_between) I0 J0 I' J' → Q v I' J') : wp_X12_between l1 l2 I0 J0 Q := by
  have hs := Same.rf (W := (W_X12_between)) I0 J0
  unfold wp_X12_between at h ⊢
  refine fr_X12_areVertices h (fun v h => ?_)
  refine fr_X12_goes h (fun v I2 J2 h hs2 => ?_)
  replace hs := hs.trans hs2 (WL_sub rfl)
  refine ⟨fun c => ?_, fun c => ?_⟩
  · replace h := h.1 c
    refine fr_X12_edgeOf h (fun v h => ?_)
    obtain ⟨g, h⟩ := h
    refine ⟨g, ?_⟩
    refine ⟨fun c => ?_, fun c => ?_⟩
    · replace h := h.1 c
      obtain ⟨g, h⟩ := h
      refine ⟨g, ?_⟩
      exact hq _ _ _ h hs
    · replace h := h.2 c
      exact hq _ _ _ h hs
  · replace h := h.2 c
    exact hq _ _ _ h hs
theorem ls_X12_outOf_4 {l1 : Int} {Q : Int → Ii → Jj → Prop} {n : Nat} {l2 : Int} {l3 : Int} {I : Ii} {J : Jj} (h : Lb_X12_outOf_4 l1 Q (L_X12_outOf_4 l1 Q n) l2 l3 I J) : L_X12_outOf_4 l1 Q (n + 1) l2 l3 I J := h
set_option maxHeartbeats 4000000 in
set_option maxRecDepth 100000 in
theorem fl_X12_outOf_4 {l1 : Int} {P Q : Int → Ii → Jj → Prop} {I : Ii} {J : Jj} (hq : ∀ (v : Int), P v I J → Q v I J) : ∀ (n : Nat) (l2 : Int) (l3 : Int), L_X12_outOf_4 l1 P n l2 l3 I J → L_X12_outOf_4 l1 Q n l2 l3 I J := by
  intro n
  induction n with
  | zero => intro l2 l3 h; exact h
  | succ n ih =>
    intro l2 l3 h
    have h : Lb_X12_outOf_4 l1 P (L_X12_outOf_4 l1 P n) l2 l3 I J := h
    show Lb_X12_outOf_4 l1 Q (L_X12_outOf_4 l1 Q n) l2 l3 I J
    have hr4 := ih
    clear ih
    unfold Lb_X12_outOf_4 at h ⊢
    obtain ⟨g, h⟩ := h
    refine ⟨g, ?_⟩
    obtain ⟨g, h⟩ := h
    refine ⟨g, ?_⟩
    refine ⟨fun c => ?_, fun c => ?_⟩
    · replace h := h.1 c
      exact hq _ h
    · replace h := h.2 c
      obtain ⟨g, h⟩ := h
      refine ⟨g, ?_⟩
      refine fr_X12_hasBit h (fun v h => ?_)
      obtain ⟨g, h⟩ := h
      refine ⟨g, ?_⟩
      refine fr_X12_hasBit h (fun v h => ?_)
      refine ⟨fun c => ?_, fun c => ?_⟩
      · replace h := h.1 c
        exact hr4 _ _ h
      · replace h := h.2 c
        obtain ⟨g, h⟩ := h
        refine ⟨g, ?_⟩
        exact hr4 _ _ h
set_option maxHeartbeats 4000000 in
set_option maxRecDepth 100000 in
theorem fr_X12_outOf {l1 : Int} {P Q : Int → Ii → Jj → Prop} {I : Ii} {J : Jj} (h : wp_X12_outOf l1 I J P) (hq : ∀ (v : Int), P v I J → Q v I J) : wp_X12_outOf l1 I J Q := by
  unfold wp_X12_outOf at h ⊢
  obtain ⟨n, h⟩ := h
  exact ⟨n, fl_X12_outOf_4 hq n _ _ h⟩
def W_X12_flows : Nat → Nat → Prop := WL [(0, 26), (0, 27)]
theorem W_X12_flows_n {k : Nat} (h : wlk [(0, 26), (0, 27)] k = false := by rfl) : ∀ i, ¬ W_X12_flows k i := WL_n h
set_option maxHeartbeats 4000000 in
set_option maxRecDepth 100000 in
theorem fb_X12_flows_63 {l1 : Int} {l2 : Int} {P Q : Ii → Jj → Prop} {I0 : Ii} {J0 : Jj} (hq : ∀ (I' : Ii) (J' : Jj), P I' J' → Same (W_X12_flows) I0 J0 I' J' → Q I' J') {r12 q12 : Int → Ii → Jj → Prop} (hr12 : ∀ (l3 : Int) (I' : Ii) (J' : Jj), r12 l3 I' J' → Same (W_X12_flows) I0 J0 I' J' → q12 l3 I' J') {l3 : Int} {l4 : Int} {I : Ii} {J : Jj} (h : B_X12_flows_63 l1 l2 P r12 l3 l4 I J) (hs : Same (W_X12_flows) I0 J0 I J) : B_X12_flows_63 l1 l2 Q q12 l3 l4 I J := by
  unfold B_X12_flows_63 at h ⊢
  intro I1 e1
  replace h := h I1 e1
  replace hs := hs.upI e1 rfl
  intro I1 e1
  replace h := h I1 e1
  replace hs := hs.upI e1 rfl
  exact hr12 _ _ _ h hs
theorem ls_X12_flows_12 {l1 : Int} {l2 : Int} {Q : Ii → Jj → Prop} {n : Nat} {l3 : Int} {I : Ii} {J : Jj} (h : Lb_X12_flows_12 l1 l2 Q (L_X12_flows_12 l1 l2 Q n) l3 I J) : L_X12_flows_12 l1 l2 Q (n + 1) l3 I J := h
set_option maxHeartbeats 4000000 in
set_option maxRecDepth 100000 in
theorem fl_X12_flows_12 {l1 : Int} {l2 : Int} {P Q : Ii → Jj → Prop} {I0 : Ii} {J0 : Jj} (hq : ∀ (I' : Ii) (J' : Jj), P I' J' → Same (W_X12_flows) I0 J0 I' J' → Q I' J') : ∀ (n : Nat) (l3 : Int) (I : Ii) (J : Jj), L_X12_flows_12 l1 l2 P n l3 I J → Same (W_X12_flows) I0 J0 I J → L_X12_flows_12 l1 l2 Q n l3 I J := by
  intro n
  induction n with
  | zero => intro l3 I J h _; exact h
  | succ n ih =>
    intro l3 I J h hs
    have h : Lb_X12_flows_12 l1 l2 P (L_X12_flows_12 l1 l2 P n) l3 I J := h
    show Lb_X12_flows_12 l1 l2 Q (L_X12_flows_12 l1 l2 Q n) l3 I J
    have hr12 := ih
    clear ih
    unfold Lb_X12_flows_12 at h ⊢
    refine fr_X12_everything h (fun v h => ?_)
    obtain ⟨g, h⟩ := h
    refine ⟨g, ?_⟩
    obtain ⟨g, h⟩ := h
    refine ⟨g, ?_⟩
    refine ⟨fun c => ?_, fun c => ?_⟩
    · replace h := h.1 c
      exact hq _ _ h hs
    · replace h := h.2 c
      refine fr_X12_hasBit h (fun v h => ?_)
      refine ⟨fun c => ?_, fun c => ?_⟩
      · replace h := h.1 c
        exact hr12 _ _ _ h hs
      · replace h := h.2 c
        refine fr_X12_hasBit h (fun v h => ?_)
        refine ⟨fun c => ?_, fun c => ?_⟩
        · replace h := h.1 c
          refine fr_X12_outOf h (fun v h => ?_)
          obtain ⟨g, h⟩ := h
          refine ⟨g, ?_⟩
          refine ⟨fun c => ?_, fun c => ?_⟩
          · replace h := h.1 c
            exact fb_X12_flows_63 hq hr12 h hs
          · replace h := h.2 c
            obtain ⟨g, h⟩ := h
            refine ⟨g, ?_⟩
            refine ⟨fun c => ?_, fun c => ?_⟩
            · replace h := h.1 c
              refine ⟨fun c => ?_, fun c => ?_⟩
              · replace h := h.1 c
                exact hr12 _ _ _ h hs
              · replace h := h.2 c
                intro I1 e1
                replace h := h I1 e1
                replace hs := hs.upI e1 rfl
                exact hr12 _ _ _ h hs
            · replace h := h.2 c
              exact fb_X12_flows_63 hq hr12 h hs
        · replace h := h.2 c
          exact hr12 _ _ _ h hs
set_option maxHeartbeats 4000000 in
set_option maxRecDepth 100000 in
theorem fr_X12_flows {l1 : Int} {l2 : Int} {P Q : Ii → Jj → Prop} {I0 : Ii} {J0 : Jj} (h : wp_X12_flows l1 l2 I0 J0 P) (hq : ∀ (I' : Ii) (J' : Jj), P I' J' → Same (W_X12_flows) I0 J0 I' J' → Q I' J') : wp_X12_flows l1 l2 I0 J0 Q := by
  have hs := Same.rf (W := (W_X12_flows)) I0 J0
  unfold wp_X12_flows at h ⊢
  intro I1 e1
  replace h := h I1 e1
  replace hs := hs.upI e1 rfl
  intro I1 e1
  replace h := h I1 e1
  replace hs := hs.upI e1 rfl
  obtain ⟨n, h⟩ := h
  exact ⟨n, fl_X12_flows_12 hq n _ _ _ h hs⟩
def W_X12_flow : Nat → Nat → Prop := WL [(0, 0), (0, 26), (0, 27)]
theorem W_X12_flow_n {k : Nat} (h : wlk [(0, 0), (0, 26), (0, 27)] k = false := by rfl) : ∀ i, ¬ W_X12_flow k i := WL_n h
set_option maxHeartbeats 4000000 in
set_option maxRecDepth 100000 in
theorem fr_X12_flow {l1 : Int} {l2 : Int} {P Q : Int → Ii → Jj → Prop} {I0 : Ii} {J0 : Jj} (h : wp_X12_flow l1 l2 I0 J0 P) (hq : ∀ (v : Int) (I' : Ii) (J' : Jj), P v I' J' → Same (W_X12_flow) I0 J0 I' J' → Q v I' J') : wp_X12_flow l1 l2 I0 J0 Q := by
  have hs := Same.rf (W := (W_X12_flow)) I0 J0
  unfold wp_X12_flow at h ⊢
  refine fr_X12_areVertices h (fun v h => ?_)
  refine fr_X12_goes h (fun v I2 J2 h hs2 => ?_)
  replace hs := hs.trans hs2 (WL_sub rfl)
  refine ⟨fun c => ?_, fun c => ?_⟩
  · replace h := h.1 c
    obtain ⟨g, h⟩ := h
    refine ⟨g, ?_⟩
    obtain ⟨g, h⟩ := h
    refine ⟨g, ?_⟩
    refine ⟨fun c => ?_, fun c => ?_⟩
    · replace h := h.1 c
      refine fr_X12_flows h (fun I2 J2 h hs2 => ?_)
      replace hs := hs.trans hs2 (WL_sub rfl)
      exact hq _ _ _ h hs
    · replace h := h.2 c
      exact hq _ _ _ h hs
  · replace h := h.2 c
    exact hq _ _ _ h hs
def W_X12_side : Nat → Nat → Prop := WL [(0, 0), (0, 26), (0, 27)]
theorem W_X12_side_n {k : Nat} (h : wlk [(0, 0), (0, 26), (0, 27)] k = false := by rfl) : ∀ i, ¬ W_X12_side k i := WL_n h
set_option maxHeartbeats 4000000 in
set_option maxRecDepth 100000 in
theorem fr_X12_side {l1 : Int} {l2 : Int} {P Q : Int → Ii → Jj → Prop} {I0 : Ii} {J0 : Jj} (h : wp_X12_side l1 l2 I0 J0 P) (hq : ∀ (v : Int) (I' : Ii) (J' : Jj), P v I' J' → Same (W_X12_side) I0 J0 I' J' → Q v I' J') : wp_X12_side l1 l2 I0 J0 Q := by
  have hs := Same.rf (W := (W_X12_side)) I0 J0
  unfold wp_X12_side at h ⊢
  refine fr_X12_areVertices h (fun v h => ?_)
  refine fr_X12_goes h (fun v I2 J2 h hs2 => ?_)
  replace hs := hs.trans hs2 (WL_sub rfl)
  refine ⟨fun c => ?_, fun c => ?_⟩
  · replace h := h.1 c
    obtain ⟨g, h⟩ := h
    refine ⟨g, ?_⟩
    obtain ⟨g, h⟩ := h
    refine ⟨g, ?_⟩
    refine ⟨fun c => ?_, fun c => ?_⟩
    · replace h := h.1 c
      refine fr_X12_flows h (fun I2 J2 h hs2 => ?_)
      replace hs := hs.trans hs2 (WL_sub rfl)
      exact hq _ _ _ h hs
    · replace h := h.2 c
      exact hq _ _ _ h hs
  · replace h := h.2 c
    exact hq _ _ _ h hs
def W_X12_leastFlow : Nat → Nat → Prop := WL [(0, 0)]
theorem W_X12_leastFlow_n {k : Nat} (h : wlk [(0, 0)] k = false := by rfl) : ∀ i, ¬ W_X12_leastFlow k i := WL_n h
theorem ls_X12_leastFlow_9 {Q : Int → Ii → Jj → Prop} {n : Nat} {l1 : Int} {l2 : Int} {I : Ii} {J : Jj} (h : Lb_X12_leastFlow_9 Q (L_X12_leastFlow_9 Q n) l1 l2 I J) : L_X12_leastFlow_9 Q (n + 1) l1 l2 I J := h
set_option maxHeartbeats 4000000 in
set_option maxRecDepth 100000 in
theorem fl_X12_leastFlow_9 {P Q : Int → Ii → Jj → Prop} {I0 : Ii} {J0 : Jj} (hq : ∀ (v : Int) (I' : Ii) (J' : Jj), P v I' J' → Same (W_X12_leastFlow) I0 J0 I' J' → Q v I' J') : ∀ (n : Nat) (l1 : Int) (l2 : Int) (I : Ii) (J : Jj), L_X12_leastFlow_9 P n l1 l2 I J → Same (W_X12_leastFlow) I0 J0 I J → L_X12_leastFlow_9 Q n l1 l2 I J := by
  intro n
  induction n with
  | zero => intro l1 l2 I J h _; exact h
  | succ n ih =>
    intro l1 l2 I J h hs
    have h : Lb_X12_leastFlow_9 P (L_X12_leastFlow_9 P n) l1 l2 I J := h
    show Lb_X12_leastFlow_9 Q (L_X12_leastFlow_9 Q n) l1 l2 I J
    have hr9 := ih
    clear ih
    unfold Lb_X12_leastFlow_9 at h ⊢
    refine fr_X12_everything h (fun v h => ?_)
    obtain ⟨g, h⟩ := h
    refine ⟨g, ?_⟩
    obtain ⟨g, h⟩ := h
    refine ⟨g, ?_⟩
    refine ⟨fun c => ?_, fun c => ?_⟩
    · replace h := h.1 c
      exact hq _ _ _ h hs
    · replace h := h.2 c
      refine fr_X12_outOf h (fun v h => ?_)
      obtain ⟨g, h⟩ := h
      refine ⟨g, ?_⟩
      refine ⟨fun c => ?_, fun c => ?_⟩
      · replace h := h.1 c
        exact hr9 _ _ _ _ h hs
      · replace h := h.2 c
        obtain ⟨g, h⟩ := h
        refine ⟨g, ?_⟩
        refine ⟨fun c => ?_, fun c => ?_⟩
        · replace h := h.1 c
          exact hr9 _ _ _ _ h hs
        · replace h := h.2 c
          exact hr9 _ _ _ _ h hs
set_option maxHeartbeats 4000000 in
set_option maxRecDepth 100000 in
theorem fr_X12_leastFlow {P Q : Int → Ii → Jj → Prop} {I0 : Ii} {J0 : Jj} (h : wp_X12_leastFlow I0 J0 P) (hq : ∀ (v : Int) (I' : Ii) (J' : Jj), P v I' J' → Same (W_X12_leastFlow) I0 J0 I' J' → Q v I' J') : wp_X12_leastFlow I0 J0 Q := by
  have hs := Same.rf (W := (W_X12_leastFlow)) I0 J0
  unfold wp_X12_leastFlow at h ⊢
  intro I1 e1
  replace h := h I1 e1
  replace hs := hs.upI e1 rfl
  obtain ⟨n, h⟩ := h
  exact ⟨n, fl_X12_leastFlow_9 hq n _ _ _ _ h hs⟩
theorem ls_X12_weightOf_4 {l1 : Int} {Q : Int → Ii → Jj → Prop} {n : Nat} {l2 : Int} {l3 : Int} {I : Ii} {J : Jj} (h : Lb_X12_weightOf_4 l1 Q (L_X12_weightOf_4 l1 Q n) l2 l3 I J) : L_X12_weightOf_4 l1 Q (n + 1) l2 l3 I J := h
set_option maxHeartbeats 4000000 in
set_option maxRecDepth 100000 in
theorem fl_X12_weightOf_4 {l1 : Int} {P Q : Int → Ii → Jj → Prop} {I : Ii} {J : Jj} (hq : ∀ (v : Int), P v I J → Q v I J) : ∀ (n : Nat) (l2 : Int) (l3 : Int), L_X12_weightOf_4 l1 P n l2 l3 I J → L_X12_weightOf_4 l1 Q n l2 l3 I J := by
  intro n
  induction n with
  | zero => intro l2 l3 h; exact h
  | succ n ih =>
    intro l2 l3 h
    have h : Lb_X12_weightOf_4 l1 P (L_X12_weightOf_4 l1 P n) l2 l3 I J := h
    show Lb_X12_weightOf_4 l1 Q (L_X12_weightOf_4 l1 Q n) l2 l3 I J
    have hr4 := ih
    clear ih
    unfold Lb_X12_weightOf_4 at h ⊢
    obtain ⟨g, h⟩ := h
    refine ⟨g, ?_⟩
    obtain ⟨g, h⟩ := h
    refine ⟨g, ?_⟩
    refine ⟨fun c => ?_, fun c => ?_⟩
    · replace h := h.1 c
      exact hq _ h
    · replace h := h.2 c
      obtain ⟨g, h⟩ := h
      refine ⟨g, ?_⟩
      obtain ⟨g, h⟩ := h
      refine ⟨g, ?_⟩
      obtain ⟨g, h⟩ := h
      refine ⟨g, ?_⟩
      refine ⟨fun c => ?_, fun c => ?_⟩
      · replace h := h.1 c
        exact hr4 _ _ h
      · replace h := h.2 c
        obtain ⟨g, h⟩ := h
        refine ⟨g, ?_⟩
        exact hr4 _ _ h
set_option maxHeartbeats 4000000 in
set_option maxRecDepth 100000 in
theorem fr_X12_weightOf {l1 : Int} {P Q : Int → Ii → Jj → Prop} {I : Ii} {J : Jj} (h : wp_X12_weightOf l1 I J P) (hq : ∀ (v : Int), P v I J → Q v I J) : wp_X12_weightOf l1 I J Q := by
  unfold wp_X12_weightOf at h ⊢
  obtain ⟨n, h⟩ := h
  exact ⟨n, fl_X12_weightOf_4 hq n _ _ h⟩
set_option maxHeartbeats 4000000 in
set_option maxRecDepth 100000 in
theorem fr_X12_debtOf {l1 : Int} {P Q : Int → Ii → Jj → Prop} {I : Ii} {J : Jj} (h : wp_X12_debtOf l1 I J P) (hq : ∀ (v : Int), P v I J → Q v I J) : wp_X12_debtOf l1 I J Q := by
  unfold wp_X12_debtOf at h ⊢
  refine fr_X12_weightOf h (fun v h => ?_)
  refine fr_X12_limit h (fun v h => ?_)
  obtain ⟨g, h⟩ := h
  refine ⟨g, ?_⟩
  refine ⟨fun c => ?_, fun c => ?_⟩
  · replace h := h.1 c
    exact hq _ h
  · replace h := h.2 c
    exact hq _ h
theorem ls_X12_debtsNow_4 {Q : Int → Ii → Jj → Prop} {n : Nat} {l1 : Int} {l2 : Int} {I : Ii} {J : Jj} (h : Lb_X12_debtsNow_4 Q (L_X12_debtsNow_4 Q n) l1 l2 I J) : L_X12_debtsNow_4 Q (n + 1) l1 l2 I J := h
set_option maxHeartbeats 4000000 in
set_option maxRecDepth 100000 in
theorem fl_X12_debtsNow_4 {P Q : Int → Ii → Jj → Prop} {I : Ii} {J : Jj} (hq : ∀ (v : Int), P v I J → Q v I J) : ∀ (n : Nat) (l1 : Int) (l2 : Int), L_X12_debtsNow_4 P n l1 l2 I J → L_X12_debtsNow_4 Q n l1 l2 I J := by
  intro n
  induction n with
  | zero => intro l1 l2 h; exact h
  | succ n ih =>
    intro l1 l2 h
    have h : Lb_X12_debtsNow_4 P (L_X12_debtsNow_4 P n) l1 l2 I J := h
    show Lb_X12_debtsNow_4 Q (L_X12_debtsNow_4 Q n) l1 l2 I J
    have hr4 := ih
    clear ih
    unfold Lb_X12_debtsNow_4 at h ⊢
    obtain ⟨g, h⟩ := h
    refine ⟨g, ?_⟩
    obtain ⟨g, h⟩ := h
    refine ⟨g, ?_⟩
    refine ⟨fun c => ?_, fun c => ?_⟩
    · replace h := h.1 c
      exact hq _ h
    · replace h := h.2 c
      refine fr_X12_debtOf h (fun v h => ?_)
      exact hr4 _ _ h
set_option maxHeartbeats 4000000 in
set_option maxRecDepth 100000 in
theorem fr_X12_debtsNow {P Q : Int → Ii → Jj → Prop} {I : Ii} {J : Jj} (h : wp_X12_debtsNow I J P) (hq : ∀ (v : Int), P v I J → Q v I J) : wp_X12_debtsNow I J Q := by
  unfold wp_X12_debtsNow at h ⊢
  obtain ⟨n, h⟩ := h
  exact ⟨n, fl_X12_debtsNow_4 hq n _ _ h⟩
theorem ls_X12_cutNow_4 {Q : Int → Ii → Jj → Prop} {n : Nat} {l1 : Int} {l2 : Int} {I : Ii} {J : Jj} (h : Lb_X12_cutNow_4 Q (L_X12_cutNow_4 Q n) l1 l2 I J) : L_X12_cutNow_4 Q (n + 1) l1 l2 I J := h
set_option maxHeartbeats 4000000 in
set_option maxRecDepth 100000 in
theorem fl_X12_cutNow_4 {P Q : Int → Ii → Jj → Prop} {I : Ii} {J : Jj} (hq : ∀ (v : Int), P v I J → Q v I J) : ∀ (n : Nat) (l1 : Int) (l2 : Int), L_X12_cutNow_4 P n l1 l2 I J → L_X12_cutNow_4 Q n l1 l2 I J := by
  intro n
  induction n with
  | zero => intro l1 l2 h; exact h
  | succ n ih =>
    intro l1 l2 h
    have h : Lb_X12_cutNow_4 P (L_X12_cutNow_4 P n) l1 l2 I J := h
    show Lb_X12_cutNow_4 Q (L_X12_cutNow_4 Q n) l1 l2 I J
    have hr4 := ih
    clear ih
    unfold Lb_X12_cutNow_4 at h ⊢
    obtain ⟨g, h⟩ := h
    refine ⟨g, ?_⟩
    obtain ⟨g, h⟩ := h
    refine ⟨g, ?_⟩
    refine ⟨fun c => ?_, fun c => ?_⟩
    · replace h := h.1 c
      exact hq _ h
    · replace h := h.2 c
      refine fr_X12_isCut h (fun v h => ?_)
      refine ⟨fun c => ?_, fun c => ?_⟩
      · replace h := h.1 c
        exact hr4 _ _ h
      · replace h := h.2 c
        obtain ⟨g, h⟩ := h
        refine ⟨g, ?_⟩
        exact hr4 _ _ h
set_option maxHeartbeats 4000000 in
set_option maxRecDepth 100000 in
theorem fr_X12_cutNow {P Q : Int → Ii → Jj → Prop} {I : Ii} {J : Jj} (h : wp_X12_cutNow I J P) (hq : ∀ (v : Int), P v I J → Q v I J) : wp_X12_cutNow I J Q := by
  unfold wp_X12_cutNow at h ⊢
  obtain ⟨n, h⟩ := h
  exact ⟨n, fl_X12_cutNow_4 hq n _ _ h⟩
def W_X12_partOf : Nat → Nat → Prop := WL [(0, 0)]
theorem W_X12_partOf_n {k : Nat} (h : wlk [(0, 0)] k = false := by rfl) : ∀ i, ¬ W_X12_partOf k i := WL_n h
set_option maxHeartbeats 4000000 in
set_option maxRecDepth 100000 in
theorem fr_X12_partOf {l1 : Int} {P Q : Int → Ii → Jj → Prop} {I0 : Ii} {J0 : Jj} (h : wp_X12_partOf l1 I0 J0 P) (hq : ∀ (v : Int) (I' : Ii) (J' : Jj), P v I' J' → Same (W_X12_partOf) I0 J0 I' J' → Q v I' J') : wp_X12_partOf l1 I0 J0 Q := by
  have hs := Same.rf (W := (W_X12_partOf)) I0 J0
  unfold wp_X12_partOf at h ⊢
  refine fr_X12_isVertex h (fun v h => ?_)
  refine fr_X12_goes h (fun v I2 J2 h hs2 => ?_)
  replace hs := hs.trans hs2 (WL_sub rfl)
  refine ⟨fun c => ?_, fun c => ?_⟩
  · replace h := h.1 c
    exact hq _ _ _ h hs
  · replace h := h.2 c
    obtain ⟨g, h⟩ := h
    refine ⟨g, ?_⟩
    exact hq _ _ _ h hs
set_option maxHeartbeats 4000000 in
set_option maxRecDepth 100000 in
theorem fb_X12_inPart_33 {l1 : Int} {P Q : Int → Ii → Jj → Prop} {I : Ii} {J : Jj} (hq : ∀ (v : Int), P v I J → Q v I J) {r4 q4 : Int → Int → Ii → Jj → Prop} (hr4 : ∀ (l2 : Int) (l3 : Int), r4 l2 l3 I J → q4 l2 l3 I J) {l3 : Int} {t0 : Int} {t1 : Int} (h : B_X12_inPart_33 l1 P r4 l3 t0 t1 I J) : B_X12_inPart_33 l1 Q q4 l3 t0 t1 I J := by
  unfold B_X12_inPart_33 at h ⊢
  refine fr_X12_truth h (fun v h => ?_)
  exact hr4 _ _ h
theorem ls_X12_inPart_4 {l1 : Int} {Q : Int → Ii → Jj → Prop} {n : Nat} {l2 : Int} {l3 : Int} {I : Ii} {J : Jj} (h : Lb_X12_inPart_4 l1 Q (L_X12_inPart_4 l1 Q n) l2 l3 I J) : L_X12_inPart_4 l1 Q (n + 1) l2 l3 I J := h
set_option maxHeartbeats 4000000 in
set_option maxRecDepth 100000 in
theorem fl_X12_inPart_4 {l1 : Int} {P Q : Int → Ii → Jj → Prop} {I : Ii} {J : Jj} (hq : ∀ (v : Int), P v I J → Q v I J) : ∀ (n : Nat) (l2 : Int) (l3 : Int), L_X12_inPart_4 l1 P n l2 l3 I J → L_X12_inPart_4 l1 Q n l2 l3 I J := by
  intro n
  induction n with
  | zero => intro l2 l3 h; exact h
  | succ n ih =>
    intro l2 l3 h
    have h : Lb_X12_inPart_4 l1 P (L_X12_inPart_4 l1 P n) l2 l3 I J := h
    show Lb_X12_inPart_4 l1 Q (L_X12_inPart_4 l1 Q n) l2 l3 I J
    have hr4 := ih
    clear ih
    unfold Lb_X12_inPart_4 at h ⊢
    obtain ⟨g, h⟩ := h
    refine ⟨g, ?_⟩
    obtain ⟨g, h⟩ := h
    refine ⟨g, ?_⟩
    refine ⟨fun c => ?_, fun c => ?_⟩
    · replace h := h.1 c
      exact hq _ h
    · replace h := h.2 c
      obtain ⟨g, h⟩ := h
      refine ⟨g, ?_⟩
      obtain ⟨g, h⟩ := h
      refine ⟨g, ?_⟩
      obtain ⟨g, h⟩ := h
      refine ⟨g, ?_⟩
      refine ⟨fun c => ?_, fun c => ?_⟩
      · replace h := h.1 c
        exact fb_X12_inPart_33 hq hr4 h
      · replace h := h.2 c
        exact fb_X12_inPart_33 hq hr4 h
set_option maxHeartbeats 4000000 in
set_option maxRecDepth 100000 in
theorem fr_X12_inPart {l1 : Int} {P Q : Int → Ii → Jj → Prop} {I : Ii} {J : Jj} (h : wp_X12_inPart l1 I J P) (hq : ∀ (v : Int), P v I J → Q v I J) : wp_X12_inPart l1 I J Q := by
  unfold wp_X12_inPart at h ⊢
  obtain ⟨n, h⟩ := h
  exact ⟨n, fl_X12_inPart_4 hq n _ _ h⟩
theorem ls_X12_pieces_14 {l1 : Int} {Q : Int → Ii → Jj → Prop} {n : Nat} {l2 : Int} {l3 : Int} {l4 : Int} {l5 : Int} {I : Ii} {J : Jj} (h : Lb_X12_pieces_14 l1 Q (L_X12_pieces_14 l1 Q n) l2 l3 l4 l5 I J) : L_X12_pieces_14 l1 Q (n + 1) l2 l3 l4 l5 I J := h
set_option maxHeartbeats 4000000 in
set_option maxRecDepth 100000 in
theorem fl_X12_pieces_14 {l1 : Int} {P Q : Int → Ii → Jj → Prop} {I : Ii} {J : Jj} (hq : ∀ (v : Int), P v I J → Q v I J) : ∀ (n : Nat) (l2 : Int) (l3 : Int) (l4 : Int) (l5 : Int), L_X12_pieces_14 l1 P n l2 l3 l4 l5 I J → L_X12_pieces_14 l1 Q n l2 l3 l4 l5 I J := by
  intro n
  induction n with
  | zero => intro l2 l3 l4 l5 h; exact h
  | succ n ih =>
    intro l2 l3 l4 l5 h
    have h : Lb_X12_pieces_14 l1 P (L_X12_pieces_14 l1 P n) l2 l3 l4 l5 I J := h
    show Lb_X12_pieces_14 l1 Q (L_X12_pieces_14 l1 Q n) l2 l3 l4 l5 I J
    have hr14 := ih
    clear ih
    unfold Lb_X12_pieces_14 at h ⊢
    obtain ⟨g, h⟩ := h
    refine ⟨g, ?_⟩
    obtain ⟨g, h⟩ := h
    refine ⟨g, ?_⟩
    refine ⟨fun c => ?_, fun c => ?_⟩
    · replace h := h.1 c
      exact hq _ h
    · replace h := h.2 c
      refine fr_X12_hasBit h (fun v h => ?_)
      refine ⟨fun c => ?_, fun c => ?_⟩
      · replace h := h.1 c
        refine fr_X12_together h (fun v h => ?_)
        exact hr14 _ _ _ _ h
      · replace h := h.2 c
        exact hr14 _ _ _ _ h
set_option maxHeartbeats 4000000 in
set_option maxRecDepth 100000 in
theorem fr_X12_pieces {l1 : Int} {P Q : Int → Ii → Jj → Prop} {I : Ii} {J : Jj} (h : wp_X12_pieces l1 I J P) (hq : ∀ (v : Int), P v I J → Q v I J) : wp_X12_pieces l1 I J Q := by
  unfold wp_X12_pieces at h ⊢
  refine fr_X12_inPart h (fun v h => ?_)
  obtain ⟨n, h⟩ := h
  exact ⟨n, fl_X12_pieces_14 hq n _ _ _ _ h⟩
def W_X12_part : Nat → Nat → Prop := WL [(0, 0)]
theorem W_X12_part_n {k : Nat} (h : wlk [(0, 0)] k = false := by rfl) : ∀ i, ¬ W_X12_part k i := WL_n h
set_option maxHeartbeats 4000000 in
set_option maxRecDepth 100000 in
theorem fr_X12_part {l1 : Int} {l2 : Int} {P Q : Int → Ii → Jj → Prop} {I0 : Ii} {J0 : Jj} (h : wp_X12_part l1 l2 I0 J0 P) (hq : ∀ (v : Int) (I' : Ii) (J' : Jj), P v I' J' → Same (W_X12_part) I0 J0 I' J' → Q v I' J') : wp_X12_part l1 l2 I0 J0 Q := by
  have hs := Same.rf (W := (W_X12_part)) I0 J0
  unfold wp_X12_part at h ⊢
  refine fr_X12_isPart h (fun v h => ?_)
  refine fr_X12_isIn h (fun v h => ?_)
  refine fr_X12_goesBoth h (fun v I2 J2 h hs2 => ?_)
  replace hs := hs.trans hs2 (WL_sub rfl)
  refine ⟨fun c => ?_, fun c => ?_⟩
  · replace h := h.1 c
    obtain ⟨g, h⟩ := h
    refine ⟨g, ?_⟩
    refine ⟨fun c => ?_, fun c => ?_, fun c => ?_, fun c => ?_, fun c => ?_⟩
    · replace h := h.1 c
      refine fr_X12_inPart h (fun v h => ?_)
      refine fr_X12_outOf h (fun v h => ?_)
      exact hq _ _ _ h hs
    · replace h := h.2.1 c
      refine fr_X12_weightOf h (fun v h => ?_)
      exact hq _ _ _ h hs
    · replace h := h.2.2.1 c
      refine fr_X12_debtOf h (fun v h => ?_)
      exact hq _ _ _ h hs
    · replace h := h.2.2.2.1 c
      refine fr_X12_inPart h (fun v h => ?_)
      exact hq _ _ _ h hs
    · replace h := h.2.2.2.2 c
      refine fr_X12_pieces h (fun v h => ?_)
      exact hq _ _ _ h hs
  · replace h := h.2 c
    exact hq _ _ _ h hs
def W_X12_cut : Nat → Nat → Prop := WL [(0, 0)]
theorem W_X12_cut_n {k : Nat} (h : wlk [(0, 0)] k = false := by rfl) : ∀ i, ¬ W_X12_cut k i := WL_n h
set_option maxHeartbeats 4000000 in
set_option maxRecDepth 100000 in
theorem fr_X12_cut {P Q : Int → Ii → Jj → Prop} {I0 : Ii} {J0 : Jj} (h : wp_X12_cut I0 J0 P) (hq : ∀ (v : Int) (I' : Ii) (J' : Jj), P v I' J' → Same (W_X12_cut) I0 J0 I' J' → Q v I' J') : wp_X12_cut I0 J0 Q := by
  have hs := Same.rf (W := (W_X12_cut)) I0 J0
  unfold wp_X12_cut at h ⊢
  intro I1 e1
  replace h := h I1 e1
  replace hs := hs.upI e1 rfl
  refine fr_X12_cutNow h (fun v h => ?_)
  exact hq _ _ _ h hs
def W_X12_debts : Nat → Nat → Prop := WL [(0, 0)]
theorem W_X12_debts_n {k : Nat} (h : wlk [(0, 0)] k = false := by rfl) : ∀ i, ¬ W_X12_debts k i := WL_n h
set_option maxHeartbeats 4000000 in
set_option maxRecDepth 100000 in
theorem fr_X12_debts {P Q : Int → Ii → Jj → Prop} {I0 : Ii} {J0 : Jj} (h : wp_X12_debts I0 J0 P) (hq : ∀ (v : Int) (I' : Ii) (J' : Jj), P v I' J' → Same (W_X12_debts) I0 J0 I' J' → Q v I' J') : wp_X12_debts I0 J0 Q := by
  have hs := Same.rf (W := (W_X12_debts)) I0 J0
  unfold wp_X12_debts at h ⊢
  intro I1 e1
  replace h := h I1 e1
  replace hs := hs.upI e1 rfl
  refine fr_X12_debtsNow h (fun v h => ?_)
  exact hq _ _ _ h hs
theorem ls_X12_borderNow_4 {Q : Int → Ii → Jj → Prop} {n : Nat} {l1 : Int} {l2 : Int} {I : Ii} {J : Jj} (h : Lb_X12_borderNow_4 Q (L_X12_borderNow_4 Q n) l1 l2 I J) : L_X12_borderNow_4 Q (n + 1) l1 l2 I J := h
set_option maxHeartbeats 4000000 in
set_option maxRecDepth 100000 in
theorem fl_X12_borderNow_4 {P Q : Int → Ii → Jj → Prop} {I : Ii} {J : Jj} (hq : ∀ (v : Int), P v I J → Q v I J) : ∀ (n : Nat) (l1 : Int) (l2 : Int), L_X12_borderNow_4 P n l1 l2 I J → L_X12_borderNow_4 Q n l1 l2 I J := by
  intro n
  induction n with
  | zero => intro l1 l2 h; exact h
  | succ n ih =>
    intro l1 l2 h
    have h : Lb_X12_borderNow_4 P (L_X12_borderNow_4 P n) l1 l2 I J := h
    show Lb_X12_borderNow_4 Q (L_X12_borderNow_4 Q n) l1 l2 I J
    have hr4 := ih
    clear ih
    unfold Lb_X12_borderNow_4 at h ⊢
    obtain ⟨g, h⟩ := h
    refine ⟨g, ?_⟩
    obtain ⟨g, h⟩ := h
    refine ⟨g, ?_⟩
    refine ⟨fun c => ?_, fun c => ?_⟩
    · replace h := h.1 c
      exact hq _ h
    · replace h := h.2 c
      refine fr_X12_isCut h (fun v h => ?_)
      refine ⟨fun c => ?_, fun c => ?_⟩
      · replace h := h.1 c
        exact hr4 _ _ h
      · replace h := h.2 c
        obtain ⟨g, h⟩ := h
        refine ⟨g, ?_⟩
        obtain ⟨g, h⟩ := h
        refine ⟨g, ?_⟩
        exact hr4 _ _ h
set_option maxHeartbeats 4000000 in
set_option maxRecDepth 100000 in
theorem fr_X12_borderNow {P Q : Int → Ii → Jj → Prop} {I : Ii} {J : Jj} (h : wp_X12_borderNow I J P) (hq : ∀ (v : Int), P v I J → Q v I J) : wp_X12_borderNow I J Q := by
  unfold wp_X12_borderNow at h ⊢
  obtain ⟨n, h⟩ := h
  exact ⟨n, fl_X12_borderNow_4 hq n _ _ h⟩
def W_X12_border : Nat → Nat → Prop := WL [(0, 0)]
theorem W_X12_border_n {k : Nat} (h : wlk [(0, 0)] k = false := by rfl) : ∀ i, ¬ W_X12_border k i := WL_n h
set_option maxHeartbeats 4000000 in
set_option maxRecDepth 100000 in
theorem fr_X12_border {P Q : Int → Ii → Jj → Prop} {I0 : Ii} {J0 : Jj} (h : wp_X12_border I0 J0 P) (hq : ∀ (v : Int) (I' : Ii) (J' : Jj), P v I' J' → Same (W_X12_border) I0 J0 I' J' → Q v I' J') : wp_X12_border I0 J0 Q := by
  have hs := Same.rf (W := (W_X12_border)) I0 J0
  unfold wp_X12_border at h ⊢
  intro I1 e1
  replace h := h I1 e1
  replace hs := hs.upI e1 rfl
  refine fr_X12_borderNow h (fun v h => ?_)
  exact hq _ _ _ h hs
theorem ls_X12_heaviestNow_4 {Q : Int → Ii → Jj → Prop} {n : Nat} {l1 : Int} {l2 : Int} {I : Ii} {J : Jj} (h : Lb_X12_heaviestNow_4 Q (L_X12_heaviestNow_4 Q n) l1 l2 I J) : L_X12_heaviestNow_4 Q (n + 1) l1 l2 I J := h
set_option maxHeartbeats 4000000 in
set_option maxRecDepth 100000 in
theorem fl_X12_heaviestNow_4 {P Q : Int → Ii → Jj → Prop} {I : Ii} {J : Jj} (hq : ∀ (v : Int), P v I J → Q v I J) : ∀ (n : Nat) (l1 : Int) (l2 : Int), L_X12_heaviestNow_4 P n l1 l2 I J → L_X12_heaviestNow_4 Q n l1 l2 I J := by
  intro n
  induction n with
  | zero => intro l1 l2 h; exact h
  | succ n ih =>
    intro l1 l2 h
    have h : Lb_X12_heaviestNow_4 P (L_X12_heaviestNow_4 P n) l1 l2 I J := h
    show Lb_X12_heaviestNow_4 Q (L_X12_heaviestNow_4 Q n) l1 l2 I J
    have hr4 := ih
    clear ih
    unfold Lb_X12_heaviestNow_4 at h ⊢
    obtain ⟨g, h⟩ := h
    refine ⟨g, ?_⟩
    obtain ⟨g, h⟩ := h
    refine ⟨g, ?_⟩
    refine ⟨fun c => ?_, fun c => ?_⟩
    · replace h := h.1 c
      exact hq _ h
    · replace h := h.2 c
      refine fr_X12_weightOf h (fun v h => ?_)
      refine fr_X12_weightOf h (fun v h => ?_)
      obtain ⟨g, h⟩ := h
      refine ⟨g, ?_⟩
      obtain ⟨g, h⟩ := h
      refine ⟨g, ?_⟩
      refine ⟨fun c => ?_, fun c => ?_⟩
      · replace h := h.1 c
        exact hr4 _ _ h
      · replace h := h.2 c
        exact hr4 _ _ h
set_option maxHeartbeats 4000000 in
set_option maxRecDepth 100000 in
theorem fr_X12_heaviestNow {P Q : Int → Ii → Jj → Prop} {I : Ii} {J : Jj} (h : wp_X12_heaviestNow I J P) (hq : ∀ (v : Int), P v I J → Q v I J) : wp_X12_heaviestNow I J Q := by
  unfold wp_X12_heaviestNow at h ⊢
  obtain ⟨n, h⟩ := h
  exact ⟨n, fl_X12_heaviestNow_4 hq n _ _ h⟩
def W_X12_heaviest : Nat → Nat → Prop := WL [(0, 0)]
theorem W_X12_heaviest_n {k : Nat} (h : wlk [(0, 0)] k = false := by rfl) : ∀ i, ¬ W_X12_heaviest k i := WL_n h
set_option maxHeartbeats 4000000 in
set_option maxRecDepth 100000 in
theorem fr_X12_heaviest {P Q : Int → Ii → Jj → Prop} {I0 : Ii} {J0 : Jj} (h : wp_X12_heaviest I0 J0 P) (hq : ∀ (v : Int) (I' : Ii) (J' : Jj), P v I' J' → Same (W_X12_heaviest) I0 J0 I' J' → Q v I' J') : wp_X12_heaviest I0 J0 Q := by
  have hs := Same.rf (W := (W_X12_heaviest)) I0 J0
  unfold wp_X12_heaviest at h ⊢
  intro I1 e1
  replace h := h I1 e1
  replace hs := hs.upI e1 rfl
  refine fr_X12_heaviestNow h (fun v h => ?_)
  exact hq _ _ _ h hs
set_option maxHeartbeats 4000000 in
set_option maxRecDepth 100000 in
theorem fb_X12_membersOf_29 {l1 : Int} {P Q : Int → Ii → Jj → Prop} {I : Ii} {J : Jj} (hq : ∀ (v : Int), P v I J → Q v I J) {r4 q4 : Int → Int → Ii → Jj → Prop} (hr4 : ∀ (l2 : Int) (l3 : Int), r4 l2 l3 I J → q4 l2 l3 I J) {l3 : Int} {t0 : Int} {t1 : Int} (h : B_X12_membersOf_29 l1 P r4 l3 t0 t1 I J) : B_X12_membersOf_29 l1 Q q4 l3 t0 t1 I J := by
  unfold B_X12_membersOf_29 at h ⊢
  refine fr_X12_truth h (fun v h => ?_)
  exact hr4 _ _ h
theorem ls_X12_membersOf_4 {l1 : Int} {Q : Int → Ii → Jj → Prop} {n : Nat} {l2 : Int} {l3 : Int} {I : Ii} {J : Jj} (h : Lb_X12_membersOf_4 l1 Q (L_X12_membersOf_4 l1 Q n) l2 l3 I J) : L_X12_membersOf_4 l1 Q (n + 1) l2 l3 I J := h
set_option maxHeartbeats 4000000 in
set_option maxRecDepth 100000 in
theorem fl_X12_membersOf_4 {l1 : Int} {P Q : Int → Ii → Jj → Prop} {I : Ii} {J : Jj} (hq : ∀ (v : Int), P v I J → Q v I J) : ∀ (n : Nat) (l2 : Int) (l3 : Int), L_X12_membersOf_4 l1 P n l2 l3 I J → L_X12_membersOf_4 l1 Q n l2 l3 I J := by
  intro n
  induction n with
  | zero => intro l2 l3 h; exact h
  | succ n ih =>
    intro l2 l3 h
    have h : Lb_X12_membersOf_4 l1 P (L_X12_membersOf_4 l1 P n) l2 l3 I J := h
    show Lb_X12_membersOf_4 l1 Q (L_X12_membersOf_4 l1 Q n) l2 l3 I J
    have hr4 := ih
    clear ih
    unfold Lb_X12_membersOf_4 at h ⊢
    obtain ⟨g, h⟩ := h
    refine ⟨g, ?_⟩
    obtain ⟨g, h⟩ := h
    refine ⟨g, ?_⟩
    refine ⟨fun c => ?_, fun c => ?_⟩
    · replace h := h.1 c
      exact hq _ h
    · replace h := h.2 c
      refine fr_X12_groupAt h (fun v h => ?_)
      obtain ⟨g, h⟩ := h
      refine ⟨g, ?_⟩
      obtain ⟨g, h⟩ := h
      refine ⟨g, ?_⟩
      refine ⟨fun c => ?_, fun c => ?_⟩
      · replace h := h.1 c
        exact fb_X12_membersOf_29 hq hr4 h
      · replace h := h.2 c
        exact fb_X12_membersOf_29 hq hr4 h
set_option maxHeartbeats 4000000 in
set_option maxRecDepth 100000 in
theorem fr_X12_membersOf {l1 : Int} {P Q : Int → Ii → Jj → Prop} {I : Ii} {J : Jj} (h : wp_X12_membersOf l1 I J P) (hq : ∀ (v : Int), P v I J → Q v I J) : wp_X12_membersOf l1 I J Q := by
  unfold wp_X12_membersOf at h ⊢
  obtain ⟨n, h⟩ := h
  exact ⟨n, fl_X12_membersOf_4 hq n _ _ h⟩
theorem ls_X12_groupWeight_4 {l1 : Int} {Q : Int → Ii → Jj → Prop} {n : Nat} {l2 : Int} {l3 : Int} {I : Ii} {J : Jj} (h : Lb_X12_groupWeight_4 l1 Q (L_X12_groupWeight_4 l1 Q n) l2 l3 I J) : L_X12_groupWeight_4 l1 Q (n + 1) l2 l3 I J := h
set_option maxHeartbeats 4000000 in
set_option maxRecDepth 100000 in
theorem fl_X12_groupWeight_4 {l1 : Int} {P Q : Int → Ii → Jj → Prop} {I : Ii} {J : Jj} (hq : ∀ (v : Int), P v I J → Q v I J) : ∀ (n : Nat) (l2 : Int) (l3 : Int), L_X12_groupWeight_4 l1 P n l2 l3 I J → L_X12_groupWeight_4 l1 Q n l2 l3 I J := by
  intro n
  induction n with
  | zero => intro l2 l3 h; exact h
  | succ n ih =>
    intro l2 l3 h
    have h : Lb_X12_groupWeight_4 l1 P (L_X12_groupWeight_4 l1 P n) l2 l3 I J := h
    show Lb_X12_groupWeight_4 l1 Q (L_X12_groupWeight_4 l1 Q n) l2 l3 I J
    have hr4 := ih
    clear ih
    unfold Lb_X12_groupWeight_4 at h ⊢
    obtain ⟨g, h⟩ := h
    refine ⟨g, ?_⟩
    obtain ⟨g, h⟩ := h
    refine ⟨g, ?_⟩
    refine ⟨fun c => ?_, fun c => ?_⟩
    · replace h := h.1 c
      exact hq _ h
    · replace h := h.2 c
      refine fr_X12_groupAt h (fun v h => ?_)
      obtain ⟨g, h⟩ := h
      refine ⟨g, ?_⟩
      obtain ⟨g, h⟩ := h
      refine ⟨g, ?_⟩
      refine ⟨fun c => ?_, fun c => ?_⟩
      · replace h := h.1 c
        exact hr4 _ _ h
      · replace h := h.2 c
        obtain ⟨g, h⟩ := h
        refine ⟨g, ?_⟩
        exact hr4 _ _ h
set_option maxHeartbeats 4000000 in
set_option maxRecDepth 100000 in
theorem fr_X12_groupWeight {l1 : Int} {P Q : Int → Ii → Jj → Prop} {I : Ii} {J : Jj} (h : wp_X12_groupWeight l1 I J P) (hq : ∀ (v : Int), P v I J → Q v I J) : wp_X12_groupWeight l1 I J Q := by
  unfold wp_X12_groupWeight at h ⊢
  obtain ⟨n, h⟩ := h
  exact ⟨n, fl_X12_groupWeight_4 hq n _ _ h⟩
theorem ls_X12_groupPart_2 {l1 : Int} {Q : Int → Ii → Jj → Prop} {n : Nat} {l2 : Int} {I : Ii} {J : Jj} (h : Lb_X12_groupPart_2 l1 Q (L_X12_groupPart_2 l1 Q n) l2 I J) : L_X12_groupPart_2 l1 Q (n + 1) l2 I J := h
set_option maxHeartbeats 4000000 in
set_option maxRecDepth 100000 in
theorem fl_X12_groupPart_2 {l1 : Int} {P Q : Int → Ii → Jj → Prop} {I : Ii} {J : Jj} (hq : ∀ (v : Int), P v I J → Q v I J) : ∀ (n : Nat) (l2 : Int), L_X12_groupPart_2 l1 P n l2 I J → L_X12_groupPart_2 l1 Q n l2 I J := by
  intro n
  induction n with
  | zero => intro l2 h; exact h
  | succ n ih =>
    intro l2 h
    have h : Lb_X12_groupPart_2 l1 P (L_X12_groupPart_2 l1 P n) l2 I J := h
    show Lb_X12_groupPart_2 l1 Q (L_X12_groupPart_2 l1 Q n) l2 I J
    have hr2 := ih
    clear ih
    unfold Lb_X12_groupPart_2 at h ⊢
    refine fr_X12_groupAt h (fun v h => ?_)
    obtain ⟨g, h⟩ := h
    refine ⟨g, ?_⟩
    obtain ⟨g, h⟩ := h
    refine ⟨g, ?_⟩
    refine ⟨fun c => ?_, fun c => ?_⟩
    · replace h := h.1 c
      obtain ⟨g, h⟩ := h
      refine ⟨g, ?_⟩
      exact hq _ h
    · replace h := h.2 c
      exact hr2 _ h
set_option maxHeartbeats 4000000 in
set_option maxRecDepth 100000 in
theorem fr_X12_groupPart {l1 : Int} {P Q : Int → Ii → Jj → Prop} {I : Ii} {J : Jj} (h : wp_X12_groupPart l1 I J P) (hq : ∀ (v : Int), P v I J → Q v I J) : wp_X12_groupPart l1 I J Q := by
  unfold wp_X12_groupPart at h ⊢
  obtain ⟨n, h⟩ := h
  exact ⟨n, fl_X12_groupPart_2 hq n _ h⟩
set_option maxHeartbeats 4000000 in
set_option maxRecDepth 100000 in
theorem fb_X12_joined_74 {l1 : Int} {l2 : Int} {P Q : Int → Ii → Jj → Prop} {I : Ii} {J : Jj} (hq : ∀ (v : Int), P v I J → Q v I J) {r5 q5 : Int → Int → Ii → Jj → Prop} (hr5 : ∀ (l3 : Int) (l4 : Int), r5 l3 l4 I J → q5 l3 l4 I J) {l4 : Int} {t0 : Int} (h : B_X12_joined_74 l1 l2 P r5 l4 t0 I J) : B_X12_joined_74 l1 l2 Q q5 l4 t0 I J := by
  unfold B_X12_joined_74 at h ⊢
  obtain ⟨g, h⟩ := h
  refine ⟨g, ?_⟩
  exact hr5 _ _ h
set_option maxHeartbeats 4000000 in
set_option maxRecDepth 100000 in
theorem fb_X12_joined_62 {l1 : Int} {l2 : Int} {P Q : Int → Ii → Jj → Prop} {I : Ii} {J : Jj} (hq : ∀ (v : Int), P v I J → Q v I J) {r5 q5 : Int → Int → Ii → Jj → Prop} (hr5 : ∀ (l3 : Int) (l4 : Int), r5 l3 l4 I J → q5 l3 l4 I J) {l4 : Int} {l5 : Int} {l6 : Int} {t0 : Int} (h : B_X12_joined_62 l1 l2 P r5 l4 l5 l6 t0 I J) : B_X12_joined_62 l1 l2 Q q5 l4 l5 l6 t0 I J := by
  unfold B_X12_joined_62 at h ⊢
  obtain ⟨g, h⟩ := h
  refine ⟨g, ?_⟩
  obtain ⟨g, h⟩ := h
  refine ⟨g, ?_⟩
  refine ⟨fun c => ?_, fun c => ?_⟩
  · replace h := h.1 c
    exact hr5 _ _ h
  · replace h := h.2 c
    obtain ⟨g, h⟩ := h
    refine ⟨g, ?_⟩
    obtain ⟨g, h⟩ := h
    refine ⟨g, ?_⟩
    refine ⟨fun c => ?_, fun c => ?_⟩
    · replace h := h.1 c
      exact hr5 _ _ h
    · replace h := h.2 c
      exact fb_X12_joined_74 hq hr5 h
theorem ls_X12_joined_5 {l1 : Int} {l2 : Int} {Q : Int → Ii → Jj → Prop} {n : Nat} {l3 : Int} {l4 : Int} {I : Ii} {J : Jj} (h : Lb_X12_joined_5 l1 l2 Q (L_X12_joined_5 l1 l2 Q n) l3 l4 I J) : L_X12_joined_5 l1 l2 Q (n + 1) l3 l4 I J := h
set_option maxHeartbeats 4000000 in
set_option maxRecDepth 100000 in
theorem fl_X12_joined_5 {l1 : Int} {l2 : Int} {P Q : Int → Ii → Jj → Prop} {I : Ii} {J : Jj} (hq : ∀ (v : Int), P v I J → Q v I J) : ∀ (n : Nat) (l3 : Int) (l4 : Int), L_X12_joined_5 l1 l2 P n l3 l4 I J → L_X12_joined_5 l1 l2 Q n l3 l4 I J := by
  intro n
  induction n with
  | zero => intro l3 l4 h; exact h
  | succ n ih =>
    intro l3 l4 h
    have h : Lb_X12_joined_5 l1 l2 P (L_X12_joined_5 l1 l2 P n) l3 l4 I J := h
    show Lb_X12_joined_5 l1 l2 Q (L_X12_joined_5 l1 l2 Q n) l3 l4 I J
    have hr5 := ih
    clear ih
    unfold Lb_X12_joined_5 at h ⊢
    obtain ⟨g, h⟩ := h
    refine ⟨g, ?_⟩
    obtain ⟨g, h⟩ := h
    refine ⟨g, ?_⟩
    refine ⟨fun c => ?_, fun c => ?_⟩
    · replace h := h.1 c
      exact hq _ h
    · replace h := h.2 c
      obtain ⟨g, h⟩ := h
      refine ⟨g, ?_⟩
      refine fr_X12_groupAt h (fun v h => ?_)
      obtain ⟨g, h⟩ := h
      refine ⟨g, ?_⟩
      refine fr_X12_groupAt h (fun v h => ?_)
      obtain ⟨g, h⟩ := h
      refine ⟨g, ?_⟩
      obtain ⟨g, h⟩ := h
      refine ⟨g, ?_⟩
      refine ⟨fun c => ?_, fun c => ?_⟩
      · replace h := h.1 c
        exact fb_X12_joined_62 hq hr5 h
      · replace h := h.2 c
        obtain ⟨g, h⟩ := h
        refine ⟨g, ?_⟩
        obtain ⟨g, h⟩ := h
        refine ⟨g, ?_⟩
        refine ⟨fun c => ?_, fun c => ?_⟩
        · replace h := h.1 c
          exact fb_X12_joined_74 hq hr5 h
        · replace h := h.2 c
          exact fb_X12_joined_62 hq hr5 h
set_option maxHeartbeats 4000000 in
set_option maxRecDepth 100000 in
theorem fr_X12_joined {l1 : Int} {l2 : Int} {P Q : Int → Ii → Jj → Prop} {I : Ii} {J : Jj} (h : wp_X12_joined l1 l2 I J P) (hq : ∀ (v : Int), P v I J → Q v I J) : wp_X12_joined l1 l2 I J Q := by
  unfold wp_X12_joined at h ⊢
  obtain ⟨n, h⟩ := h
  exact ⟨n, fl_X12_joined_5 hq n _ _ h⟩
def W_X12_group : Nat → Nat → Prop := WL [(0, 0)]
theorem W_X12_group_n {k : Nat} (h : wlk [(0, 0)] k = false := by rfl) : ∀ i, ¬ W_X12_group k i := WL_n h
set_option maxHeartbeats 4000000 in
set_option maxRecDepth 100000 in
theorem fr_X12_group {l1 : Int} {l2 : Int} {P Q : Int → Ii → Jj → Prop} {I0 : Ii} {J0 : Jj} (h : wp_X12_group l1 l2 I0 J0 P) (hq : ∀ (v : Int) (I' : Ii) (J' : Jj), P v I' J' → Same (W_X12_group) I0 J0 I' J' → Q v I' J') : wp_X12_group l1 l2 I0 J0 Q := by
  have hs := Same.rf (W := (W_X12_group)) I0 J0
  unfold wp_X12_group at h ⊢
  refine fr_X12_isGroup h (fun v h => ?_)
  refine fr_X12_isIn h (fun v h => ?_)
  refine fr_X12_goesBoth h (fun v I2 J2 h hs2 => ?_)
  replace hs := hs.trans hs2 (WL_sub rfl)
  refine ⟨fun c => ?_, fun c => ?_⟩
  · replace h := h.1 c
    obtain ⟨g, h⟩ := h
    refine ⟨g, ?_⟩
    refine ⟨fun c => ?_, fun c => ?_, fun c => ?_, fun c => ?_⟩
    · replace h := h.1 c
      refine fr_X12_membersOf h (fun v h => ?_)
      refine fr_X12_outOf h (fun v h => ?_)
      exact hq _ _ _ h hs
    · replace h := h.2.1 c
      refine fr_X12_membersOf h (fun v h => ?_)
      exact hq _ _ _ h hs
    · replace h := h.2.2.1 c
      refine fr_X12_groupWeight h (fun v h => ?_)
      exact hq _ _ _ h hs
    · replace h := h.2.2.2 c
      refine fr_X12_groupPart h (fun v h => ?_)
      exact hq _ _ _ h hs
  · replace h := h.2 c
    exact hq _ _ _ h hs
def W_X12_groupOf : Nat → Nat → Prop := WL [(0, 0)]
theorem W_X12_groupOf_n {k : Nat} (h : wlk [(0, 0)] k = false := by rfl) : ∀ i, ¬ W_X12_groupOf k i := WL_n h
set_option maxHeartbeats 4000000 in
set_option maxRecDepth 100000 in
theorem fr_X12_groupOf {l1 : Int} {P Q : Int → Ii → Jj → Prop} {I0 : Ii} {J0 : Jj} (h : wp_X12_groupOf l1 I0 J0 P) (hq : ∀ (v : Int) (I' : Ii) (J' : Jj), P v I' J' → Same (W_X12_groupOf) I0 J0 I' J' → Q v I' J') : wp_X12_groupOf l1 I0 J0 Q := by
  have hs := Same.rf (W := (W_X12_groupOf)) I0 J0
  unfold wp_X12_groupOf at h ⊢
  refine fr_X12_isVertex h (fun v h => ?_)
  refine fr_X12_goes h (fun v I2 J2 h hs2 => ?_)
  replace hs := hs.trans hs2 (WL_sub rfl)
  refine ⟨fun c => ?_, fun c => ?_⟩
  · replace h := h.1 c
    exact hq _ _ _ h hs
  · replace h := h.2 c
    refine fr_X12_groupAt h (fun v h => ?_)
    exact hq _ _ _ h hs
theorem ls_X12_mateBehind_9 {l1 : Int} {Q : Int → Ii → Jj → Prop} {n : Nat} {l2 : Int} {l3 : Int} {l4 : Int} {I : Ii} {J : Jj} (h : Lb_X12_mateBehind_9 l1 Q (L_X12_mateBehind_9 l1 Q n) l2 l3 l4 I J) : L_X12_mateBehind_9 l1 Q (n + 1) l2 l3 l4 I J := h
set_option maxHeartbeats 4000000 in
set_option maxRecDepth 100000 in
theorem fl_X12_mateBehind_9 {l1 : Int} {P Q : Int → Ii → Jj → Prop} {I : Ii} {J : Jj} (hq : ∀ (v : Int), P v I J → Q v I J) : ∀ (n : Nat) (l2 : Int) (l3 : Int) (l4 : Int), L_X12_mateBehind_9 l1 P n l2 l3 l4 I J → L_X12_mateBehind_9 l1 Q n l2 l3 l4 I J := by
  intro n
  induction n with
  | zero => intro l2 l3 l4 h; exact h
  | succ n ih =>
    intro l2 l3 l4 h
    have h : Lb_X12_mateBehind_9 l1 P (L_X12_mateBehind_9 l1 P n) l2 l3 l4 I J := h
    show Lb_X12_mateBehind_9 l1 Q (L_X12_mateBehind_9 l1 Q n) l2 l3 l4 I J
    have hr9 := ih
    clear ih
    unfold Lb_X12_mateBehind_9 at h ⊢
    refine fr_X12_groups h (fun v h => ?_)
    obtain ⟨g, h⟩ := h
    refine ⟨g, ?_⟩
    obtain ⟨g, h⟩ := h
    refine ⟨g, ?_⟩
    refine ⟨fun c => ?_, fun c => ?_⟩
    · replace h := h.1 c
      exact hq _ h
    · replace h := h.2 c
      refine fr_X12_joined h (fun v h => ?_)
      obtain ⟨g, h⟩ := h
      refine ⟨g, ?_⟩
      obtain ⟨g, h⟩ := h
      refine ⟨g, ?_⟩
      refine ⟨fun c => ?_, fun c => ?_⟩
      · replace h := h.1 c
        exact hr9 _ _ _ h
      · replace h := h.2 c
        obtain ⟨g, h⟩ := h
        refine ⟨g, ?_⟩
        obtain ⟨g, h⟩ := h
        refine ⟨g, ?_⟩
        refine ⟨fun c => ?_, fun c => ?_⟩
        · replace h := h.1 c
          exact hr9 _ _ _ h
        · replace h := h.2 c
          refine fr_X12_groupPart h (fun v h => ?_)
          refine fr_X12_groupPart h (fun v h => ?_)
          obtain ⟨g, h⟩ := h
          refine ⟨g, ?_⟩
          obtain ⟨g, h⟩ := h
          refine ⟨g, ?_⟩
          refine ⟨fun c => ?_, fun c => ?_⟩
          · replace h := h.1 c
            exact hr9 _ _ _ h
          · replace h := h.2 c
            refine fr_X12_groupWeight h (fun v h => ?_)
            refine fr_X12_groupWeight h (fun v h => ?_)
            refine fr_X12_limit h (fun v h => ?_)
            obtain ⟨g, h⟩ := h
            refine ⟨g, ?_⟩
            obtain ⟨g, h⟩ := h
            refine ⟨g, ?_⟩
            refine ⟨fun c => ?_, fun c => ?_⟩
            · replace h := h.1 c
              exact hr9 _ _ _ h
            · replace h := h.2 c
              exact hr9 _ _ _ h
set_option maxHeartbeats 4000000 in
set_option maxRecDepth 100000 in
theorem fr_X12_mateBehind {l1 : Int} {P Q : Int → Ii → Jj → Prop} {I : Ii} {J : Jj} (h : wp_X12_mateBehind l1 I J P) (hq : ∀ (v : Int), P v I J → Q v I J) : wp_X12_mateBehind l1 I J Q := by
  unfold wp_X12_mateBehind at h ⊢
  obtain ⟨n, h⟩ := h
  exact ⟨n, fl_X12_mateBehind_9 hq n _ _ _ h⟩
