def W_X2_clear (k0 : Nat) : Nat → Nat → Prop := WL [(k0, 0), (k0, 1), (k0, 2), (k0, 3), (k0, 4), (k0, 5), (k0, 6)]
theorem W_X2_clear_n {k0 : Nat} {k : Nat} (h : wlk [(k0, 0), (k0, 1), (k0, 2), (k0, 3), (k0, 4), (k0, 5), (k0, 6)] k = false := by rfl) : ∀ i, ¬ W_X2_clear k0 k i := WL_n h
set_option maxHeartbeats 4000000 in
set_option maxRecDepth 100000 in
theorem fr_X2_clear {k0 : Nat} {P Q : Ii → Jj → Prop} {I0 : Ii} {J0 : Jj} (h : wp_X2_clear k0 I0 J0 P) (hq : ∀ (I' : Ii) (J' : Jj), P I' J' → Same (W_X2_clear k0) I0 J0 I' J' → Q I' J') : wp_X2_clear k0 I0 J0 Q := by
  have hs := Same.rf (W := (W_X2_clear k0)) I0 J0
  unfold wp_X2_clear at h ⊢
  obtain ⟨g, h⟩ := h
  refine ⟨g, ?_⟩
  intro I1 e1
  replace h := h I1 e1
  replace hs := hs.upI e1 (by first | rfl | simp [W_X2_clear, WL, wl])
  intro I1 e1
  replace h := h I1 e1
  replace hs := hs.upI e1 (by first | rfl | simp [W_X2_clear, WL, wl])
  intro I1 e1
  replace h := h I1 e1
  replace hs := hs.upI e1 (by first | rfl | simp [W_X2_clear, WL, wl])
  intro I1 e1
  replace h := h I1 e1
  replace hs := hs.upI e1 (by first | rfl | simp [W_X2_clear, WL, wl])
  intro I1 e1
  replace h := h I1 e1
  replace hs := hs.upI e1 (by first | rfl | simp [W_X2_clear, WL, wl])
  intro I1 e1
  replace h := h I1 e1
  replace hs := hs.upI e1 (by first | rfl | simp [W_X2_clear, WL, wl])
  intro I1 e1
  replace h := h I1 e1
  replace hs := hs.upI e1 (by first | rfl | simp [W_X2_clear, WL, wl])
  exact hq _ _ h hs
set_option maxHeartbeats 4000000 in
set_option maxRecDepth 100000 in
theorem fr_X2_nameOf {k0 : Nat} {l1 : Int} {P Q : Int64 → Ii → Jj → Prop} {I : Ii} {J : Jj} (h : wp_X2_nameOf k0 l1 I J P) (hq : ∀ (v : Int64), P v I J → Q v I J) : wp_X2_nameOf k0 l1 I J Q := by
  unfold wp_X2_nameOf at h ⊢
  obtain ⟨g, h⟩ := h
  refine ⟨g, ?_⟩
  obtain ⟨g, h⟩ := h
  refine ⟨g, ?_⟩
  refine ⟨fun c => ?_, fun c => ?_⟩
  · replace h := h.1 c
    exact hq _ h
  · replace h := h.2 c
    refine ⟨fun c => ?_, fun c => ?_⟩
    · replace h := h.1 c
      exact hq _ h
    · replace h := h.2 c
      obtain ⟨g, h⟩ := h
      refine ⟨g, ?_⟩
      exact hq _ h
theorem ls_X2_vertexNamed_2 {k0 : Nat} {l1 : Int64} {Q : Int → Ii → Jj → Prop} {n : Nat} {l3 : Int} {I : Ii} {J : Jj} (h : Lb_X2_vertexNamed_2 k0 l1 Q (L_X2_vertexNamed_2 k0 l1 Q n) l3 I J) : L_X2_vertexNamed_2 k0 l1 Q (n + 1) l3 I J := h
set_option maxHeartbeats 4000000 in
set_option maxRecDepth 100000 in
theorem fl_X2_vertexNamed_2 {k0 : Nat} {l1 : Int64} {P Q : Int → Ii → Jj → Prop} {I : Ii} {J : Jj} (hq : ∀ (v : Int), P v I J → Q v I J) : ∀ (n : Nat) (l3 : Int), L_X2_vertexNamed_2 k0 l1 P n l3 I J → L_X2_vertexNamed_2 k0 l1 Q n l3 I J := by
  intro n
  induction n with
  | zero => intro l3 h; exact h
  | succ n ih =>
    intro l3 h
    have h : Lb_X2_vertexNamed_2 k0 l1 P (L_X2_vertexNamed_2 k0 l1 P n) l3 I J := h
    show Lb_X2_vertexNamed_2 k0 l1 Q (L_X2_vertexNamed_2 k0 l1 Q n) l3 I J
    have hr2 := ih
    clear ih
    unfold Lb_X2_vertexNamed_2 at h ⊢
    obtain ⟨g, h⟩ := h
    refine ⟨g, ?_⟩
    obtain ⟨g, h⟩ := h
    refine ⟨g, ?_⟩
    refine ⟨fun c => ?_, fun c => ?_⟩
    · replace h := h.1 c
      exact hq _ h
    · replace h := h.2 c
      refine fr_X2_nameOf h (fun v h => ?_)
      refine ⟨fun c => ?_, fun c => ?_⟩
      · replace h := h.1 c
        exact hr2 _ h
      · replace h := h.2 c
        exact hq _ h
set_option maxHeartbeats 4000000 in
set_option maxRecDepth 100000 in
theorem fr_X2_vertexNamed {k0 : Nat} {l1 : Int64} {P Q : Int → Ii → Jj → Prop} {I : Ii} {J : Jj} (h : wp_X2_vertexNamed k0 l1 I J P) (hq : ∀ (v : Int), P v I J → Q v I J) : wp_X2_vertexNamed k0 l1 I J Q := by
  unfold wp_X2_vertexNamed at h ⊢
  obtain ⟨g, h⟩ := h
  refine ⟨g, ?_⟩
  obtain ⟨n, h⟩ := h
  exact ⟨n, fl_X2_vertexNamed_2 hq n _ h⟩
set_option maxHeartbeats 4000000 in
set_option maxRecDepth 100000 in
theorem fr_X2_limit {k0 : Nat} {P Q : Int → Ii → Jj → Prop} {I : Ii} {J : Jj} (h : wp_X2_limit k0 I J P) (hq : ∀ (v : Int), P v I J → Q v I J) : wp_X2_limit k0 I J Q := by
  unfold wp_X2_limit at h ⊢
  obtain ⟨g, h⟩ := h
  refine ⟨g, ?_⟩
  obtain ⟨g, h⟩ := h
  refine ⟨g, ?_⟩
  refine ⟨fun c => ?_, fun c => ?_⟩
  · replace h := h.1 c
    obtain ⟨g, h⟩ := h
    refine ⟨g, ?_⟩
    exact hq _ h
  · replace h := h.2 c
    exact hq _ h
def W_X3_forget : Nat → Nat → Prop := WL [(111, 2)]
theorem W_X3_forget_n {k : Nat} (h : wlk [(111, 2)] k = false := by rfl) : ∀ i, ¬ W_X3_forget k i := WL_n h
set_option maxHeartbeats 4000000 in
set_option maxRecDepth 100000 in
theorem fr_X3_forget {P Q : Ii → Jj → Prop} {I0 : Ii} {J0 : Jj} (h : wp_X3_forget I0 J0 P) (hq : ∀ (I' : Ii) (J' : Jj), P I' J' → Same (W_X3_forget) I0 J0 I' J' → Q I' J') : wp_X3_forget I0 J0 Q := by
  have hs := Same.rf (W := (W_X3_forget)) I0 J0
  unfold wp_X3_forget at h ⊢
  intro I1 e1
  replace h := h I1 e1
  replace hs := hs.upI e1 rfl
  exact hq _ _ h hs
set_option maxHeartbeats 4000000 in
set_option maxRecDepth 100000 in
theorem fr_X3_entry {l1 : Int} {P Q : Option Nat → Ii → Jj → Prop} {I : Ii} {J : Jj} (h : wp_X3_entry l1 I J P) (hq : ∀ (v : Option Nat), P v I J → Q v I J) : wp_X3_entry l1 I J Q := by
  unfold wp_X3_entry at h ⊢
  obtain ⟨g, h⟩ := h
  refine ⟨g, ?_⟩
  refine ⟨fun c => ?_, fun c => ?_⟩
  · replace h := h.1 c
    exact hq _ h
  · replace h := h.2 c
    refine ⟨fun c => ?_, fun c => ?_⟩
    · replace h := h.1 c
      exact hq _ h
    · replace h := h.2 c
      obtain ⟨g, h⟩ := h
      refine ⟨g, ?_⟩
      exact hq _ h
set_option maxHeartbeats 4000000 in
set_option maxRecDepth 100000 in
theorem fr_X4_debtAt {l1 : Int} {P Q : Int → Ii → Jj → Prop} {I : Ii} {J : Jj} (h : wp_X4_debtAt l1 I J P) (hq : ∀ (v : Int), P v I J → Q v I J) : wp_X4_debtAt l1 I J Q := by
  unfold wp_X4_debtAt at h ⊢
  obtain ⟨g, h⟩ := h
  refine ⟨g, ?_⟩
  obtain ⟨g, h⟩ := h
  refine ⟨g, ?_⟩
  refine ⟨fun c => ?_, fun c => ?_⟩
  · replace h := h.1 c
    exact hq _ h
  · replace h := h.2 c
    exact hq _ h
set_option maxHeartbeats 4000000 in
set_option maxRecDepth 100000 in
theorem fr_X4_isTooMuch {l1 : Int} {P Q : Int → Ii → Jj → Prop} {I : Ii} {J : Jj} (h : wp_X4_isTooMuch l1 I J P) (hq : ∀ (v : Int), P v I J → Q v I J) : wp_X4_isTooMuch l1 I J Q := by
  unfold wp_X4_isTooMuch at h ⊢
  obtain ⟨g, h⟩ := h
  refine ⟨g, ?_⟩
  obtain ⟨g, h⟩ := h
  refine ⟨g, ?_⟩
  refine ⟨fun c => ?_, fun c => ?_⟩
  · replace h := h.1 c
    exact hq _ h
  · replace h := h.2 c
    obtain ⟨g, h⟩ := h
    refine ⟨g, ?_⟩
    refine ⟨fun c => ?_, fun c => ?_⟩
    · replace h := h.1 c
      exact hq _ h
    · replace h := h.2 c
      exact hq _ h
def W_X6_clear : Nat → Nat → Prop := WL [(106, 4), (106, 5)]
theorem W_X6_clear_n {k : Nat} (h : wlk [(106, 4), (106, 5)] k = false := by rfl) : ∀ i, ¬ W_X6_clear k i := WL_n h
set_option maxHeartbeats 4000000 in
set_option maxRecDepth 100000 in
theorem fr_X6_clear {P Q : Ii → Jj → Prop} {I0 : Ii} {J0 : Jj} (h : wp_X6_clear I0 J0 P) (hq : ∀ (I' : Ii) (J' : Jj), P I' J' → Same (W_X6_clear) I0 J0 I' J' → Q I' J') : wp_X6_clear I0 J0 Q := by
  have hs := Same.rf (W := (W_X6_clear)) I0 J0
  unfold wp_X6_clear at h ⊢
  intro I1 e1
  replace h := h I1 e1
  replace hs := hs.upI e1 rfl
  intro I1 e1
  replace h := h I1 e1
  replace hs := hs.upI e1 rfl
  exact hq _ _ h hs
set_option maxHeartbeats 4000000 in
set_option maxRecDepth 100000 in
theorem fr_X8_groupRow {k0 : Nat} {P Q : Int → Ii → Jj → Prop} {I : Ii} {J : Jj} (h : wp_X8_groupRow k0 I J P) (hq : ∀ (v : Int), P v I J → Q v I J) : wp_X8_groupRow k0 I J Q := by
  unfold wp_X8_groupRow at h ⊢
  obtain ⟨g, h⟩ := h
  refine ⟨g, ?_⟩
  exact hq _ h
def W_X10_begin : Nat → Nat → Prop := WL [(101, 1), (101, 2), (101, 3), (101, 4), (101, 5), (101, 8), (101, 9), (101, 10), (101, 11)]
theorem W_X10_begin_n {k : Nat} (h : wlk [(101, 1), (101, 2), (101, 3), (101, 4), (101, 5), (101, 8), (101, 9), (101, 10), (101, 11)] k = false := by rfl) : ∀ i, ¬ W_X10_begin k i := WL_n h
set_option maxHeartbeats 4000000 in
set_option maxRecDepth 100000 in
theorem fr_X10_begin {P Q : Ii → Jj → Prop} {I0 : Ii} {J0 : Jj} (h : wp_X10_begin I0 J0 P) (hq : ∀ (I' : Ii) (J' : Jj), P I' J' → Same (W_X10_begin) I0 J0 I' J' → Q I' J') : wp_X10_begin I0 J0 Q := by
  have hs := Same.rf (W := (W_X10_begin)) I0 J0
  unfold wp_X10_begin at h ⊢
  intro I1 e1
  replace h := h I1 e1
  replace hs := hs.upI e1 rfl
  intro I1 e1
  replace h := h I1 e1
  replace hs := hs.upI e1 rfl
  intro I1 e1
  replace h := h I1 e1
  replace hs := hs.upI e1 rfl
  intro I1 e1
  replace h := h I1 e1
  replace hs := hs.upI e1 rfl
  intro I1 e1
  replace h := h I1 e1
  replace hs := hs.upI e1 rfl
  intro I1 e1
  replace h := h I1 e1
  replace hs := hs.upI e1 rfl
  intro I1 e1
  replace h := h I1 e1
  replace hs := hs.upI e1 rfl
  intro I1 e1
  replace h := h I1 e1
  replace hs := hs.upI e1 rfl
  intro I1 e1
  replace h := h I1 e1
  replace hs := hs.upI e1 rfl
  exact hq _ _ h hs
set_option maxHeartbeats 4000000 in
set_option maxRecDepth 100000 in
theorem fr_X10_signKind {l0 : Int} {P Q : Int → Ii → Jj → Prop} {I : Ii} {J : Jj} (h : wp_X10_signKind l0 I J P) (hq : ∀ (v : Int), P v I J → Q v I J) : wp_X10_signKind l0 I J Q := by
  unfold wp_X10_signKind at h ⊢
  obtain ⟨g, h⟩ := h
  refine ⟨g, ?_⟩
  refine ⟨fun c => ?_, fun c => ?_, fun c => ?_, fun c => ?_⟩
  · replace h := h.1 c
    exact hq _ h
  · replace h := h.2.1 c
    exact hq _ h
  · replace h := h.2.2.1 c
    exact hq _ h
  · replace h := h.2.2.2 c
    exact hq _ h
set_option maxHeartbeats 4000000 in
set_option maxRecDepth 100000 in
theorem fr_X10_isBlank {l0 : Int} {P Q : Int → Ii → Jj → Prop} {I : Ii} {J : Jj} (h : wp_X10_isBlank l0 I J P) (hq : ∀ (v : Int), P v I J → Q v I J) : wp_X10_isBlank l0 I J Q := by
  unfold wp_X10_isBlank at h ⊢
  obtain ⟨g, h⟩ := h
  refine ⟨g, ?_⟩
  refine ⟨fun c => ?_, fun c => ?_⟩
  · replace h := h.1 c
    exact hq _ h
  · replace h := h.2 c
    refine ⟨fun c => ?_, fun c => ?_⟩
    · replace h := h.1 c
      exact hq _ h
    · replace h := h.2 c
      exact hq _ h
set_option maxHeartbeats 4000000 in
set_option maxRecDepth 100000 in
theorem fr_X10_isLetter {l0 : Int} {P Q : Int → Ii → Jj → Prop} {I : Ii} {J : Jj} (h : wp_X10_isLetter l0 I J P) (hq : ∀ (v : Int), P v I J → Q v I J) : wp_X10_isLetter l0 I J Q := by
  unfold wp_X10_isLetter at h ⊢
  obtain ⟨g, h⟩ := h
  refine ⟨g, ?_⟩
  refine ⟨fun c => ?_, fun c => ?_⟩
  · replace h := h.1 c
    exact hq _ h
  · replace h := h.2 c
    refine ⟨fun c => ?_, fun c => ?_⟩
    · replace h := h.1 c
      exact hq _ h
    · replace h := h.2 c
      exact hq _ h
set_option maxHeartbeats 4000000 in
set_option maxRecDepth 100000 in
theorem fr_X10_isDigit {l0 : Int} {P Q : Int → Ii → Jj → Prop} {I : Ii} {J : Jj} (h : wp_X10_isDigit l0 I J P) (hq : ∀ (v : Int), P v I J → Q v I J) : wp_X10_isDigit l0 I J Q := by
  unfold wp_X10_isDigit at h ⊢
  obtain ⟨g, h⟩ := h
  refine ⟨g, ?_⟩
  refine ⟨fun c => ?_, fun c => ?_⟩
  · replace h := h.1 c
    exact hq _ h
  · replace h := h.2 c
    refine ⟨fun c => ?_, fun c => ?_⟩
    · replace h := h.1 c
      exact hq _ h
    · replace h := h.2 c
      exact hq _ h
set_option maxHeartbeats 4000000 in
set_option maxRecDepth 100000 in
theorem fr_X10_withLetter {l0 : Int64} {l2 : Int} {P Q : Int64 → Ii → Jj → Prop} {I : Ii} {J : Jj} (h : wp_X10_withLetter l0 l2 I J P) (hq : ∀ (v : Int64), P v I J → Q v I J) : wp_X10_withLetter l0 l2 I J Q := by
  unfold wp_X10_withLetter at h ⊢
  exact hq _ h
set_option maxHeartbeats 4000000 in
set_option maxRecDepth 100000 in
theorem fr_X10_letterAt {l0 : Int64} {l2 : Int} {P Q : Int → Ii → Jj → Prop} {I : Ii} {J : Jj} (h : wp_X10_letterAt l0 l2 I J P) (hq : ∀ (v : Int), P v I J → Q v I J) : wp_X10_letterAt l0 l2 I J Q := by
  unfold wp_X10_letterAt at h ⊢
  refine ⟨fun c => ?_, fun c => ?_⟩
  · replace h := h.1 c
    exact hq _ h
  · replace h := h.2 c
    exact hq _ h
def W_X10_fail : Nat → Nat → Prop := WL [(101, 9), (101, 10), (101, 11)]
theorem W_X10_fail_n {k : Nat} (h : wlk [(101, 9), (101, 10), (101, 11)] k = false := by rfl) : ∀ i, ¬ W_X10_fail k i := WL_n h
set_option maxHeartbeats 4000000 in
set_option maxRecDepth 100000 in
theorem fr_X10_fail {l1 : Int} {P Q : Int → Ii → Jj → Prop} {I0 : Ii} {J0 : Jj} (h : wp_X10_fail l1 I0 J0 P) (hq : ∀ (v : Int) (I' : Ii) (J' : Jj), P v I' J' → Same (W_X10_fail) I0 J0 I' J' → Q v I' J') : wp_X10_fail l1 I0 J0 Q := by
  have hs := Same.rf (W := (W_X10_fail)) I0 J0
  unfold wp_X10_fail at h ⊢
  intro I1 e1
  replace h := h I1 e1
  replace hs := hs.upI e1 rfl
  intro I1 e1
  replace h := h I1 e1
  replace hs := hs.upI e1 rfl
  intro I1 e1
  replace h := h I1 e1
  replace hs := hs.upI e1 rfl
  exact hq _ _ _ h hs
def W_X11_truncate : Nat → Nat → Prop := WL [(101, 1)]
theorem W_X11_truncate_n {k : Nat} (h : wlk [(101, 1)] k = false := by rfl) : ∀ i, ¬ W_X11_truncate k i := WL_n h
set_option maxHeartbeats 4000000 in
set_option maxRecDepth 100000 in
theorem fb_X11_truncate_15 {l1 : Int} {P Q : Int → Ii → Jj → Prop} {I0 : Ii} {J0 : Jj} (hq : ∀ (v : Int) (I' : Ii) (J' : Jj), P v I' J' → Same (W_X11_truncate) I0 J0 I' J' → Q v I' J') {I : Ii} {J : Jj} (h : B_X11_truncate_15 l1 P  I J) (hs : Same (W_X11_truncate) I0 J0 I J) : B_X11_truncate_15 l1 Q  I J := by
  unfold B_X11_truncate_15 at h ⊢
  exact False.elim h
set_option maxHeartbeats 4000000 in
set_option maxRecDepth 100000 in
theorem fr_X11_truncate {l1 : Int} {P Q : Int → Ii → Jj → Prop} {I0 : Ii} {J0 : Jj} (h : wp_X11_truncate l1 I0 J0 P) (hq : ∀ (v : Int) (I' : Ii) (J' : Jj), P v I' J' → Same (W_X11_truncate) I0 J0 I' J' → Q v I' J') : wp_X11_truncate l1 I0 J0 Q := by
  have hs := Same.rf (W := (W_X11_truncate)) I0 J0
  unfold wp_X11_truncate at h ⊢
  obtain ⟨g, h⟩ := h
  refine ⟨g, ?_⟩
  refine ⟨fun c => ?_, fun c => ?_⟩
  · replace h := h.1 c
    exact fb_X11_truncate_15 hq h hs
  · replace h := h.2 c
    obtain ⟨g, h⟩ := h
    refine ⟨g, ?_⟩
    refine ⟨fun c => ?_, fun c => ?_⟩
    · replace h := h.1 c
      intro I1 e1
      replace h := h I1 e1
      replace hs := hs.upI e1 rfl
      exact hq _ _ _ h hs
    · replace h := h.2 c
      exact fb_X11_truncate_15 hq h hs
set_option maxHeartbeats 4000000 in
set_option maxRecDepth 100000 in
theorem fr_X11_error {l1 : Int} {P Q : Int → Ii → Jj → Prop} {I : Ii} {J : Jj} (h : wp_X11_error l1 I J P) (hq : ∀ (v : Int), P v I J → Q v I J) : wp_X11_error l1 I J Q := by
  unfold wp_X11_error at h ⊢
  obtain ⟨g, h⟩ := h
  refine ⟨g, ?_⟩
  refine ⟨fun c => ?_, fun c => ?_, fun c => ?_, fun c => ?_⟩
  · replace h := h.1 c
    exact False.elim h
  · replace h := h.2.1 c
    exact hq _ h
  · replace h := h.2.2.1 c
    exact hq _ h
  · replace h := h.2.2.2 c
    exact hq _ h
set_option maxHeartbeats 4000000 in
set_option maxRecDepth 100000 in
theorem fr_X11_hasVertex {l1 : Int} {P Q : Int → Ii → Jj → Prop} {I : Ii} {J : Jj} (h : wp_X11_hasVertex l1 I J P) (hq : ∀ (v : Int), P v I J → Q v I J) : wp_X11_hasVertex l1 I J Q := by
  unfold wp_X11_hasVertex at h ⊢
  obtain ⟨g, h⟩ := h
  refine ⟨g, ?_⟩
  refine ⟨fun c => ?_, fun c => ?_⟩
  · replace h := h.1 c
    exact hq _ h
  · replace h := h.2 c
    obtain ⟨g, h⟩ := h
    refine ⟨g, ?_⟩
    refine ⟨fun c => ?_, fun c => ?_⟩
    · replace h := h.1 c
      exact hq _ h
    · replace h := h.2 c
      exact hq _ h
set_option maxHeartbeats 4000000 in
set_option maxRecDepth 100000 in
theorem fr_X11_hasPart {l1 : Int} {P Q : Int → Ii → Jj → Prop} {I : Ii} {J : Jj} (h : wp_X11_hasPart l1 I J P) (hq : ∀ (v : Int), P v I J → Q v I J) : wp_X11_hasPart l1 I J Q := by
  unfold wp_X11_hasPart at h ⊢
  obtain ⟨g, h⟩ := h
  refine ⟨g, ?_⟩
  refine ⟨fun c => ?_, fun c => ?_⟩
  · replace h := h.1 c
    exact hq _ h
  · replace h := h.2 c
    obtain ⟨g, h⟩ := h
    refine ⟨g, ?_⟩
    refine ⟨fun c => ?_, fun c => ?_⟩
    · replace h := h.1 c
      exact hq _ h
    · replace h := h.2 c
      exact hq _ h
set_option maxHeartbeats 4000000 in
set_option maxRecDepth 100000 in
theorem fr_X11_requireVertex {l1 : Int} {P Q : Ii → Jj → Prop} {I : Ii} {J : Jj} (h : wp_X11_requireVertex l1 I J P) (hq : P I J → Q I J) : wp_X11_requireVertex l1 I J Q := by
  unfold wp_X11_requireVertex at h ⊢
  refine fr_X11_hasVertex h (fun v h => ?_)
  refine ⟨fun c => ?_, fun c => ?_⟩
  · replace h := h.1 c
    exact hq h
  · replace h := h.2 c
    exact False.elim h
set_option maxHeartbeats 4000000 in
set_option maxRecDepth 100000 in
theorem fr_X11_requirePart {l1 : Int} {P Q : Ii → Jj → Prop} {I : Ii} {J : Jj} (h : wp_X11_requirePart l1 I J P) (hq : P I J → Q I J) : wp_X11_requirePart l1 I J Q := by
  unfold wp_X11_requirePart at h ⊢
  refine fr_X11_hasPart h (fun v h => ?_)
  refine ⟨fun c => ?_, fun c => ?_⟩
  · replace h := h.1 c
    exact hq h
  · replace h := h.2 c
    exact False.elim h
set_option maxHeartbeats 4000000 in
set_option maxRecDepth 100000 in
theorem fb_X11_requireTriedSteps_11 {l1 : Int} {P Q : Ii → Jj → Prop} {I : Ii} {J : Jj} (hq : P I J → Q I J) (h : B_X11_requireTriedSteps_11 l1 P  I J) : B_X11_requireTriedSteps_11 l1 Q  I J := by
  unfold B_X11_requireTriedSteps_11 at h ⊢
  exact False.elim h
set_option maxHeartbeats 4000000 in
set_option maxRecDepth 100000 in
theorem fr_X11_requireTriedSteps {l1 : Int} {P Q : Ii → Jj → Prop} {I : Ii} {J : Jj} (h : wp_X11_requireTriedSteps l1 I J P) (hq : P I J → Q I J) : wp_X11_requireTriedSteps l1 I J Q := by
  unfold wp_X11_requireTriedSteps at h ⊢
  obtain ⟨g, h⟩ := h
  refine ⟨g, ?_⟩
  refine ⟨fun c => ?_, fun c => ?_⟩
  · replace h := h.1 c
    exact fb_X11_requireTriedSteps_11 hq h
  · replace h := h.2 c
    refine ⟨fun c => ?_, fun c => ?_⟩
    · replace h := h.1 c
      exact hq h
    · replace h := h.2 c
      exact fb_X11_requireTriedSteps_11 hq h
set_option maxHeartbeats 4000000 in
set_option maxRecDepth 100000 in
theorem fr_X11_events {P Q : Int → Ii → Jj → Prop} {I : Ii} {J : Jj} (h : wp_X11_events I J P) (hq : ∀ (v : Int), P v I J → Q v I J) : wp_X11_events I J Q := by
  unfold wp_X11_events at h ⊢
  exact hq _ h
set_option maxHeartbeats 4000000 in
set_option maxRecDepth 100000 in
theorem fr_X11_isStepCount {l1 : Int} {P Q : Int → Ii → Jj → Prop} {I : Ii} {J : Jj} (h : wp_X11_isStepCount l1 I J P) (hq : ∀ (v : Int), P v I J → Q v I J) : wp_X11_isStepCount l1 I J Q := by
  unfold wp_X11_isStepCount at h ⊢
  obtain ⟨g, h⟩ := h
  refine ⟨g, ?_⟩
  refine ⟨fun c => ?_, fun c => ?_⟩
  · replace h := h.1 c
    exact hq _ h
  · replace h := h.2 c
    refine ⟨fun c => ?_, fun c => ?_⟩
    · replace h := h.1 c
      exact hq _ h
    · replace h := h.2 c
      exact hq _ h
set_option maxHeartbeats 4000000 in
set_option maxRecDepth 100000 in
theorem fr_X11_canTakeApart {P Q : Int → Ii → Jj → Prop} {I : Ii} {J : Jj} (h : wp_X11_canTakeApart I J P) (hq : ∀ (v : Int), P v I J → Q v I J) : wp_X11_canTakeApart I J Q := by
  unfold wp_X11_canTakeApart at h ⊢
  obtain ⟨g, h⟩ := h
  refine ⟨g, ?_⟩
  refine ⟨fun c => ?_, fun c => ?_⟩
  · replace h := h.1 c
    exact hq _ h
  · replace h := h.2 c
    obtain ⟨g, h⟩ := h
    refine ⟨g, ?_⟩
    refine ⟨fun c => ?_, fun c => ?_⟩
    · replace h := h.1 c
      exact hq _ h
    · replace h := h.2 c
      exact hq _ h
set_option maxHeartbeats 4000000 in
set_option maxRecDepth 100000 in
theorem fr_X11_isAllowance {l1 : Int} {P Q : Int → Ii → Jj → Prop} {I : Ii} {J : Jj} (h : wp_X11_isAllowance l1 I J P) (hq : ∀ (v : Int), P v I J → Q v I J) : wp_X11_isAllowance l1 I J Q := by
  unfold wp_X11_isAllowance at h ⊢
  obtain ⟨g, h⟩ := h
  refine ⟨g, ?_⟩
  refine ⟨fun c => ?_, fun c => ?_⟩
  · replace h := h.1 c
    exact hq _ h
  · replace h := h.2 c
    refine ⟨fun c => ?_, fun c => ?_⟩
    · replace h := h.1 c
      exact hq _ h
    · replace h := h.2 c
      exact hq _ h
set_option maxHeartbeats 4000000 in
set_option maxRecDepth 100000 in
theorem fr_X11_at {k0 : Nat} {l1 : Int} {P Q : Int → Ii → Jj → Prop} {I : Ii} {J : Jj} (h : wp_X11_at k0 l1 I J P) (hq : ∀ (v : Int), P v I J → Q v I J) : wp_X11_at k0 l1 I J Q := by
  unfold wp_X11_at at h ⊢
  obtain ⟨g, h⟩ := h
  refine ⟨g, ?_⟩
  obtain ⟨g, h⟩ := h
  refine ⟨g, ?_⟩
  refine ⟨fun c => ?_, fun c => ?_⟩
  · replace h := h.1 c
    exact hq _ h
  · replace h := h.2 c
    refine ⟨fun c => ?_, fun c => ?_⟩
    · replace h := h.1 c
      exact hq _ h
    · replace h := h.2 c
      obtain ⟨g, h⟩ := h
      refine ⟨g, ?_⟩
      exact hq _ h
def W_X11_put (k0 : Nat) : Nat → Nat → Prop := WL [(k0, 1000)]
theorem W_X11_put_n {k0 : Nat} {k : Nat} (h : wlk [(k0, 1000)] k = false := by rfl) : ∀ i, ¬ W_X11_put k0 k i := WL_n h
set_option maxHeartbeats 4000000 in
set_option maxRecDepth 100000 in
theorem fr_X11_put {k0 : Nat} {l1 : Int} {l2 : Int} {P Q : Ii → Jj → Prop} {I0 : Ii} {J0 : Jj} (h : wp_X11_put k0 l1 l2 I0 J0 P) (hq : ∀ (I' : Ii) (J' : Jj), P I' J' → Same (W_X11_put k0) I0 J0 I' J' → Q I' J') : wp_X11_put k0 l1 l2 I0 J0 Q := by
  have hs := Same.rf (W := (W_X11_put k0)) I0 J0
  unfold wp_X11_put at h ⊢
  obtain ⟨g, h⟩ := h
  refine ⟨g, ?_⟩
  obtain ⟨g, h⟩ := h
  refine ⟨g, ?_⟩
  refine ⟨fun c => ?_, fun c => ?_⟩
  · replace h := h.1 c
    exact hq _ _ h hs
  · replace h := h.2 c
    refine ⟨fun c => ?_, fun c => ?_⟩
    · replace h := h.1 c
      exact hq _ _ h hs
    · replace h := h.2 c
      obtain ⟨g, h⟩ := h
      refine ⟨g, ?_⟩
      intro I1 e1
      replace h := h I1 e1
      replace hs := hs.upI e1 (by first | rfl | simp [W_X11_put, WL, wl])
      exact hq _ _ h hs
def W_X11_add (k0 : Nat) : Nat → Nat → Prop := WL [(k0, 1000)]
theorem W_X11_add_n {k0 : Nat} {k : Nat} (h : wlk [(k0, 1000)] k = false := by rfl) : ∀ i, ¬ W_X11_add k0 k i := WL_n h
set_option maxHeartbeats 4000000 in
set_option maxRecDepth 100000 in
theorem fr_X11_add {k0 : Nat} {l1 : Int} {l2 : Int} {P Q : Ii → Jj → Prop} {I0 : Ii} {J0 : Jj} (h : wp_X11_add k0 l1 l2 I0 J0 P) (hq : ∀ (I' : Ii) (J' : Jj), P I' J' → Same (W_X11_add k0) I0 J0 I' J' → Q I' J') : wp_X11_add k0 l1 l2 I0 J0 Q := by
  have hs := Same.rf (W := (W_X11_add k0)) I0 J0
  unfold wp_X11_add at h ⊢
  obtain ⟨g, h⟩ := h
  refine ⟨g, ?_⟩
  obtain ⟨g, h⟩ := h
  refine ⟨g, ?_⟩
  refine ⟨fun c => ?_, fun c => ?_⟩
  · replace h := h.1 c
    exact hq _ _ h hs
  · replace h := h.2 c
    refine ⟨fun c => ?_, fun c => ?_⟩
    · replace h := h.1 c
      exact hq _ _ h hs
    · replace h := h.2 c
      obtain ⟨g, h⟩ := h
      refine ⟨g, ?_⟩
      obtain ⟨g, h⟩ := h
      refine ⟨g, ?_⟩
      intro I1 e1
      replace h := h I1 e1
      replace hs := hs.upI e1 (by first | rfl | simp [W_X11_add, WL, wl])
      exact hq _ _ h hs
set_option maxHeartbeats 4000000 in
set_option maxRecDepth 100000 in
theorem fr_X11_isIn {l0 : Int} {l1 : Int} {P Q : Int → Ii → Jj → Prop} {I : Ii} {J : Jj} (h : wp_X11_isIn l0 l1 I J P) (hq : ∀ (v : Int), P v I J → Q v I J) : wp_X11_isIn l0 l1 I J Q := by
  unfold wp_X11_isIn at h ⊢
  refine ⟨fun c => ?_, fun c => ?_⟩
  · replace h := h.1 c
    exact hq _ h
  · replace h := h.2 c
    exact hq _ h
set_option maxHeartbeats 4000000 in
set_option maxRecDepth 100000 in
theorem fr_J6_bitCount_0f7a4 {l0 : Int} {P Q : Int → Ii → Jj → Prop} {I : Ii} {J : Jj} (h : wp_J6_bitCount_0f7a4 l0 I J P) (hq : ∀ (v : Int), P v I J → Q v I J) : wp_J6_bitCount_0f7a4 l0 I J Q := by
  unfold wp_J6_bitCount_0f7a4 at h ⊢
  exact hq _ h
set_option maxHeartbeats 4000000 in
set_option maxRecDepth 100000 in
theorem fr_J9_max_7cf53 {l0 : Int} {l1 : Int} {P Q : Int → Ii → Jj → Prop} {I : Ii} {J : Jj} (h : wp_J9_max_7cf53 l0 l1 I J P) (hq : ∀ (v : Int), P v I J → Q v I J) : wp_J9_max_7cf53 l0 l1 I J Q := by
  unfold wp_J9_max_7cf53 at h ⊢
  obtain ⟨g, h⟩ := h
  refine ⟨g, ?_⟩
  obtain ⟨g, h⟩ := h
  refine ⟨g, ?_⟩
  refine ⟨fun c => ?_, fun c => ?_⟩
  · replace h := h.1 c
    exact hq _ h
  · replace h := h.2 c
    exact hq _ h
set_option maxHeartbeats 4000000 in
set_option maxRecDepth 100000 in
theorem fr_J9_min_7cf53 {l0 : Int} {l1 : Int} {P Q : Int → Ii → Jj → Prop} {I : Ii} {J : Jj} (h : wp_J9_min_7cf53 l0 l1 I J P) (hq : ∀ (v : Int), P v I J → Q v I J) : wp_J9_min_7cf53 l0 l1 I J Q := by
  unfold wp_J9_min_7cf53 at h ⊢
  obtain ⟨g, h⟩ := h
  refine ⟨g, ?_⟩
  obtain ⟨g, h⟩ := h
  refine ⟨g, ?_⟩
  refine ⟨fun c => ?_, fun c => ?_⟩
  · replace h := h.1 c
    exact hq _ h
  · replace h := h.2 c
    exact hq _ h
def W_J7_fill_53178 (k0 : Nat) : Nat → Nat → Prop := WL [(k0, 1000)]
theorem W_J7_fill_53178_n {k0 : Nat} {k : Nat} (h : wlk [(k0, 1000)] k = false := by rfl) : ∀ i, ¬ W_J7_fill_53178 k0 k i := WL_n h
theorem ls_J7_fill_53178_5 {k0 : Nat} {l1 : Int} {Q : Ii → Jj → Prop} {n : Nat} {l2 : Int} {l3 : Int} {I : Ii} {J : Jj} (h : Lb_J7_fill_53178_5 k0 l1 Q (L_J7_fill_53178_5 k0 l1 Q n) l2 l3 I J) : L_J7_fill_53178_5 k0 l1 Q (n + 1) l2 l3 I J := h
set_option maxHeartbeats 4000000 in
set_option maxRecDepth 100000 in
theorem fl_J7_fill_53178_5 {k0 : Nat} {l1 : Int} {P Q : Ii → Jj → Prop} {I0 : Ii} {J0 : Jj} (hq : ∀ (I' : Ii) (J' : Jj), P I' J' → Same (W_J7_fill_53178 k0) I0 J0 I' J' → Q I' J') : ∀ (n : Nat) (l2 : Int) (l3 : Int) (I : Ii) (J : Jj), L_J7_fill_53178_5 k0 l1 P n l2 l3 I J → Same (W_J7_fill_53178 k0) I0 J0 I J → L_J7_fill_53178_5 k0 l1 Q n l2 l3 I J := by
  intro n
  induction n with
  | zero => intro l2 l3 I J h _; exact h
  | succ n ih =>
    intro l2 l3 I J h hs
    have h : Lb_J7_fill_53178_5 k0 l1 P (L_J7_fill_53178_5 k0 l1 P n) l2 l3 I J := h
    show Lb_J7_fill_53178_5 k0 l1 Q (L_J7_fill_53178_5 k0 l1 Q n) l2 l3 I J
    have hr5 := ih
    clear ih
    unfold Lb_J7_fill_53178_5 at h ⊢
    obtain ⟨g, h⟩ := h
    refine ⟨g, ?_⟩
    obtain ⟨g, h⟩ := h
    refine ⟨g, ?_⟩
    refine ⟨fun c => ?_, fun c => ?_⟩
    · replace h := h.1 c
      exact hq _ _ h hs
    · replace h := h.2 c
      obtain ⟨g, h⟩ := h
      refine ⟨g, ?_⟩
      intro I1 e1
      replace h := h I1 e1
      replace hs := hs.upI e1 (by first | rfl | simp [W_J7_fill_53178, WL, wl])
      exact hr5 _ _ _ _ h hs
set_option maxHeartbeats 4000000 in
set_option maxRecDepth 100000 in
theorem fr_J7_fill_53178 {k0 : Nat} {l1 : Int} {P Q : Ii → Jj → Prop} {I0 : Ii} {J0 : Jj} (h : wp_J7_fill_53178 k0 l1 I0 J0 P) (hq : ∀ (I' : Ii) (J' : Jj), P I' J' → Same (W_J7_fill_53178 k0) I0 J0 I' J' → Q I' J') : wp_J7_fill_53178 k0 l1 I0 J0 Q := by
  have hs := Same.rf (W := (W_J7_fill_53178 k0)) I0 J0
  unfold wp_J7_fill_53178 at h ⊢
  obtain ⟨g, h⟩ := h
  refine ⟨g, ?_⟩
  obtain ⟨n, h⟩ := h
  exact ⟨n, fl_J7_fill_53178_5 hq n _ _ _ _ h hs⟩
def W_X0_triedDebts : Nat → Nat → Prop := WL [(127, 1000)]
theorem W_X0_triedDebts_n {k : Nat} (h : wlk [(127, 1000)] k = false := by rfl) : ∀ i, ¬ W_X0_triedDebts k i := WL_n h
theorem ls_X0_triedDebts_51 {Q : Int → Ii → Jj → Prop} {n : Nat} {l2 : Int} {l3 : Int} {I : Ii} {J : Jj} (h : Lb_X0_triedDebts_51 Q (L_X0_triedDebts_51 Q n) l2 l3 I J) : L_X0_triedDebts_51 Q (n + 1) l2 l3 I J := h
set_option maxHeartbeats 4000000 in
set_option maxRecDepth 100000 in
theorem fl_X0_triedDebts_51 {P Q : Int → Ii → Jj → Prop} {I0 : Ii} {J0 : Jj} (hq : ∀ (v : Int) (I' : Ii) (J' : Jj), P v I' J' → Same (W_X0_triedDebts) I0 J0 I' J' → Q v I' J') : ∀ (n : Nat) (l2 : Int) (l3 : Int) (I : Ii) (J : Jj), L_X0_triedDebts_51 P n l2 l3 I J → Same (W_X0_triedDebts) I0 J0 I J → L_X0_triedDebts_51 Q n l2 l3 I J := by
  intro n
  induction n with
  | zero => intro l2 l3 I J h _; exact h
  | succ n ih =>
    intro l2 l3 I J h hs
    have h : Lb_X0_triedDebts_51 P (L_X0_triedDebts_51 P n) l2 l3 I J := h
    show Lb_X0_triedDebts_51 Q (L_X0_triedDebts_51 Q n) l2 l3 I J
    have hr51 := ih
    clear ih
    unfold Lb_X0_triedDebts_51 at h ⊢
    obtain ⟨g, h⟩ := h
    refine ⟨g, ?_⟩
    obtain ⟨g, h⟩ := h
    refine ⟨g, ?_⟩
    refine ⟨fun c => ?_, fun c => ?_⟩
    · replace h := h.1 c
      exact hq _ _ _ h hs
    · replace h := h.2 c
      refine fr_X11_at h (fun v h => ?_)
      refine fr_X4_debtAt h (fun v h => ?_)
      exact hr51 _ _ _ _ h hs
theorem ls_X0_triedDebts_10 {Q : Int → Ii → Jj → Prop} {n : Nat} {l2 : Int} {I : Ii} {J : Jj} (h : Lb_X0_triedDebts_10 Q (L_X0_triedDebts_10 Q n) l2 I J) : L_X0_triedDebts_10 Q (n + 1) l2 I J := h
set_option maxHeartbeats 4000000 in
set_option maxRecDepth 100000 in
theorem fl_X0_triedDebts_10 {P Q : Int → Ii → Jj → Prop} {I0 : Ii} {J0 : Jj} (hq : ∀ (v : Int) (I' : Ii) (J' : Jj), P v I' J' → Same (W_X0_triedDebts) I0 J0 I' J' → Q v I' J') : ∀ (n : Nat) (l2 : Int) (I : Ii) (J : Jj), L_X0_triedDebts_10 P n l2 I J → Same (W_X0_triedDebts) I0 J0 I J → L_X0_triedDebts_10 Q n l2 I J := by
  intro n
  induction n with
  | zero => intro l2 I J h _; exact h
  | succ n ih =>
    intro l2 I J h hs
    have h : Lb_X0_triedDebts_10 P (L_X0_triedDebts_10 P n) l2 I J := h
    show Lb_X0_triedDebts_10 Q (L_X0_triedDebts_10 Q n) l2 I J
    have hr10 := ih
    clear ih
    unfold Lb_X0_triedDebts_10 at h ⊢
    obtain ⟨g, h⟩ := h
    refine ⟨g, ?_⟩
    obtain ⟨g, h⟩ := h
    refine ⟨g, ?_⟩
    refine ⟨fun c => ?_, fun c => ?_⟩
    · replace h := h.1 c
      obtain ⟨n, h⟩ := h
      exact ⟨n, fl_X0_triedDebts_51 hq n _ _ _ _ h hs⟩
    · replace h := h.2 c
      refine fr_X11_at h (fun v h => ?_)
      refine fr_X11_at h (fun v h => ?_)
      refine fr_X11_add h (fun I2 J2 h hs2 => ?_)
      replace hs := hs.trans hs2 (WL_sub rfl)
      exact hr10 _ _ _ h hs
set_option maxHeartbeats 4000000 in
set_option maxRecDepth 100000 in
theorem fr_X0_triedDebts {P Q : Int → Ii → Jj → Prop} {I0 : Ii} {J0 : Jj} (h : wp_X0_triedDebts I0 J0 P) (hq : ∀ (v : Int) (I' : Ii) (J' : Jj), P v I' J' → Same (W_X0_triedDebts) I0 J0 I' J' → Q v I' J') : wp_X0_triedDebts I0 J0 Q := by
  have hs := Same.rf (W := (W_X0_triedDebts)) I0 J0
  unfold wp_X0_triedDebts at h ⊢
  refine fr_J7_fill_53178 h (fun I2 J2 h hs2 => ?_)
  replace hs := hs.trans hs2 (WL_sub rfl)
  obtain ⟨n, h⟩ := h
  exact ⟨n, fl_X0_triedDebts_10 hq n _ _ _ h hs⟩
theorem ls_X0_triedCut_17 {l1 : Int} {Q : Int → Ii → Jj → Prop} {r5 : Int → Int → Ii → Jj → Prop} {n : Nat} {l3 : Int} {l4 : Int} {l5 : Int} {I : Ii} {J : Jj} (h : Lb_X0_triedCut_17 l1 Q r5 (L_X0_triedCut_17 l1 Q r5 n) l3 l4 l5 I J) : L_X0_triedCut_17 l1 Q r5 (n + 1) l3 l4 l5 I J := h
set_option maxHeartbeats 4000000 in
set_option maxRecDepth 100000 in
theorem fl_X0_triedCut_17 {l1 : Int} {P Q : Int → Ii → Jj → Prop} {I : Ii} {J : Jj} (hq : ∀ (v : Int), P v I J → Q v I J) {r5 q5 : Int → Int → Ii → Jj → Prop} (hr5 : ∀ (l3 : Int) (l4 : Int), r5 l3 l4 I J → q5 l3 l4 I J) : ∀ (n : Nat) (l3 : Int) (l4 : Int) (l5 : Int), L_X0_triedCut_17 l1 P r5 n l3 l4 l5 I J → L_X0_triedCut_17 l1 Q q5 n l3 l4 l5 I J := by
  intro n
  induction n with
  | zero => intro l3 l4 l5 h; exact h
  | succ n ih =>
    intro l3 l4 l5 h
    have h : Lb_X0_triedCut_17 l1 P r5 (L_X0_triedCut_17 l1 P r5 n) l3 l4 l5 I J := h
    show Lb_X0_triedCut_17 l1 Q q5 (L_X0_triedCut_17 l1 Q q5 n) l3 l4 l5 I J
    have hr17 := ih
    clear ih
    unfold Lb_X0_triedCut_17 at h ⊢
    obtain ⟨g, h⟩ := h
    refine ⟨g, ?_⟩
    obtain ⟨g, h⟩ := h
    refine ⟨g, ?_⟩
    refine ⟨fun c => ?_, fun c => ?_⟩
    · replace h := h.1 c
      exact hr5 _ _ h
    · replace h := h.2 c
      refine fr_X11_at h (fun v h => ?_)
      refine fr_X11_at h (fun v h => ?_)
      obtain ⟨g, h⟩ := h
      refine ⟨g, ?_⟩
      obtain ⟨g, h⟩ := h
      refine ⟨g, ?_⟩
      refine ⟨fun c => ?_, fun c => ?_⟩
      · replace h := h.1 c
        exact hr17 _ _ _ h
      · replace h := h.2 c
        refine fr_X11_at h (fun v h => ?_)
        exact hr17 _ _ _ h
theorem ls_X0_triedCut_5 {l1 : Int} {Q : Int → Ii → Jj → Prop} {n : Nat} {l3 : Int} {l4 : Int} {I : Ii} {J : Jj} (h : Lb_X0_triedCut_5 l1 Q (L_X0_triedCut_5 l1 Q n) l3 l4 I J) : L_X0_triedCut_5 l1 Q (n + 1) l3 l4 I J := h
set_option maxHeartbeats 4000000 in
set_option maxRecDepth 100000 in
theorem fl_X0_triedCut_5 {l1 : Int} {P Q : Int → Ii → Jj → Prop} {I : Ii} {J : Jj} (hq : ∀ (v : Int), P v I J → Q v I J) : ∀ (n : Nat) (l3 : Int) (l4 : Int), L_X0_triedCut_5 l1 P n l3 l4 I J → L_X0_triedCut_5 l1 Q n l3 l4 I J := by
  intro n
  induction n with
  | zero => intro l3 l4 h; exact h
  | succ n ih =>
    intro l3 l4 h
    have h : Lb_X0_triedCut_5 l1 P (L_X0_triedCut_5 l1 P n) l3 l4 I J := h
    show Lb_X0_triedCut_5 l1 Q (L_X0_triedCut_5 l1 Q n) l3 l4 I J
    have hr5 := ih
    clear ih
    unfold Lb_X0_triedCut_5 at h ⊢
    obtain ⟨g, h⟩ := h
    refine ⟨g, ?_⟩
    obtain ⟨g, h⟩ := h
    refine ⟨g, ?_⟩
    refine ⟨fun c => ?_, fun c => ?_⟩
    · replace h := h.1 c
      exact hq _ h
    · replace h := h.2 c
      obtain ⟨n, h⟩ := h
      exact ⟨n, fl_X0_triedCut_17 hq hr5 n _ _ _ h⟩
set_option maxHeartbeats 4000000 in
set_option maxRecDepth 100000 in
theorem fr_X0_triedCut {l1 : Int} {P Q : Int → Ii → Jj → Prop} {I : Ii} {J : Jj} (h : wp_X0_triedCut l1 I J P) (hq : ∀ (v : Int), P v I J → Q v I J) : wp_X0_triedCut l1 I J Q := by
  unfold wp_X0_triedCut at h ⊢
  obtain ⟨n, h⟩ := h
  exact ⟨n, fl_X0_triedCut_5 hq n _ _ h⟩
theorem ls_X0_highestBefore_4 {l1 : Int} {Q : Int → Ii → Jj → Prop} {n : Nat} {l2 : Int} {l3 : Int} {I : Ii} {J : Jj} (h : Lb_X0_highestBefore_4 l1 Q (L_X0_highestBefore_4 l1 Q n) l2 l3 I J) : L_X0_highestBefore_4 l1 Q (n + 1) l2 l3 I J := h
set_option maxHeartbeats 4000000 in
set_option maxRecDepth 100000 in
theorem fl_X0_highestBefore_4 {l1 : Int} {P Q : Int → Ii → Jj → Prop} {I : Ii} {J : Jj} (hq : ∀ (v : Int), P v I J → Q v I J) : ∀ (n : Nat) (l2 : Int) (l3 : Int), L_X0_highestBefore_4 l1 P n l2 l3 I J → L_X0_highestBefore_4 l1 Q n l2 l3 I J := by
  intro n
  induction n with
  | zero => intro l2 l3 h; exact h
  | succ n ih =>
    intro l2 l3 h
    have h : Lb_X0_highestBefore_4 l1 P (L_X0_highestBefore_4 l1 P n) l2 l3 I J := h
    show Lb_X0_highestBefore_4 l1 Q (L_X0_highestBefore_4 l1 Q n) l2 l3 I J
    have hr4 := ih
    clear ih
    unfold Lb_X0_highestBefore_4 at h ⊢
    obtain ⟨g, h⟩ := h
    refine ⟨g, ?_⟩
    obtain ⟨g, h⟩ := h
    refine ⟨g, ?_⟩
    refine ⟨fun c => ?_, fun c => ?_⟩
    · replace h := h.1 c
      exact hq _ h
    · replace h := h.2 c
      refine fr_X11_at h (fun v h => ?_)
      refine fr_J9_max_7cf53 h (fun v h => ?_)
      exact hr4 _ _ h
set_option maxHeartbeats 4000000 in
set_option maxRecDepth 100000 in
theorem fr_X0_highestBefore {l1 : Int} {P Q : Int → Ii → Jj → Prop} {I : Ii} {J : Jj} (h : wp_X0_highestBefore l1 I J P) (hq : ∀ (v : Int), P v I J → Q v I J) : wp_X0_highestBefore l1 I J Q := by
  unfold wp_X0_highestBefore at h ⊢
  obtain ⟨n, h⟩ := h
  exact ⟨n, fl_X0_highestBefore_4 hq n _ _ h⟩
def W_X1_fillRooms (k1 : Nat) : Nat → Nat → Prop := WL [(128, 3), (129, 1000)]
theorem W_X1_fillRooms_n {k1 : Nat} {k : Nat} (h : wlk [(128, 3), (129, 1000)] k = false := by rfl) : ∀ i, ¬ W_X1_fillRooms k1 k i := WL_n h
theorem ls_X1_fillRooms_18 {k1 : Nat} {Q : Ii → Jj → Prop} {n : Nat} {l2 : Int} {I : Ii} {J : Jj} (h : Lb_X1_fillRooms_18 k1 Q (L_X1_fillRooms_18 k1 Q n) l2 I J) : L_X1_fillRooms_18 k1 Q (n + 1) l2 I J := h
set_option maxHeartbeats 4000000 in
set_option maxRecDepth 100000 in
theorem fl_X1_fillRooms_18 {k1 : Nat} {P Q : Ii → Jj → Prop} {I0 : Ii} {J0 : Jj} (hq : ∀ (I' : Ii) (J' : Jj), P I' J' → Same (W_X1_fillRooms k1) I0 J0 I' J' → Q I' J') : ∀ (n : Nat) (l2 : Int) (I : Ii) (J : Jj), L_X1_fillRooms_18 k1 P n l2 I J → Same (W_X1_fillRooms k1) I0 J0 I J → L_X1_fillRooms_18 k1 Q n l2 I J := by
  intro n
  induction n with
  | zero => intro l2 I J h _; exact h
  | succ n ih =>
    intro l2 I J h hs
    have h : Lb_X1_fillRooms_18 k1 P (L_X1_fillRooms_18 k1 P n) l2 I J := h
    show Lb_X1_fillRooms_18 k1 Q (L_X1_fillRooms_18 k1 Q n) l2 I J
    have hr18 := ih
    clear ih
    unfold Lb_X1_fillRooms_18 at h ⊢
    obtain ⟨g, h⟩ := h
    refine ⟨g, ?_⟩
    obtain ⟨g, h⟩ := h
    refine ⟨g, ?_⟩
    refine ⟨fun c => ?_, fun c => ?_⟩
    · replace h := h.1 c
      exact hq _ _ h hs
    · replace h := h.2 c
      refine fr_X11_at h (fun v h => ?_)
      refine fr_X11_at h (fun v h => ?_)
      refine fr_X11_at h (fun v h => ?_)
      refine fr_X11_add h (fun I2 J2 h hs2 => ?_)
      replace hs := hs.trans hs2 (by first | exact WL_sub rfl | exact WL_any (by simp [wls, wl, WL]))
      refine fr_X11_at h (fun v h => ?_)
      refine fr_X11_add h (fun I2 J2 h hs2 => ?_)
      replace hs := hs.trans hs2 (by first | exact WL_sub rfl | exact WL_any (by simp [wls, wl, WL]))
      exact hr18 _ _ _ h hs
set_option maxHeartbeats 4000000 in
set_option maxRecDepth 100000 in
theorem fr_X1_fillRooms {k1 : Nat} {P Q : Ii → Jj → Prop} {I0 : Ii} {J0 : Jj} (h : wp_X1_fillRooms k1 I0 J0 P) (hq : ∀ (I' : Ii) (J' : Jj), P I' J' → Same (W_X1_fillRooms k1) I0 J0 I' J' → Q I' J') : wp_X1_fillRooms k1 I0 J0 Q := by
  have hs := Same.rf (W := (W_X1_fillRooms k1)) I0 J0
  unfold wp_X1_fillRooms at h ⊢
  obtain ⟨g, h⟩ := h
  refine ⟨g, ?_⟩
  intro I1 e1
  replace h := h I1 e1
  replace hs := hs.upI e1 (by first | rfl | simp [W_X1_fillRooms, WL, wl])
  refine fr_J7_fill_53178 h (fun I2 J2 h hs2 => ?_)
  replace hs := hs.trans hs2 (by first | exact WL_sub rfl | exact WL_any (by simp [wls, wl, WL]))
  obtain ⟨n, h⟩ := h
  exact ⟨n, fl_X1_fillRooms_18 hq n _ _ _ h hs⟩
def W_X1_findWay : Nat → Nat → Prop := WL [(128, 5), (130, 1000), (131, 1000)]
theorem W_X1_findWay_n {k : Nat} (h : wlk [(128, 5), (130, 1000), (131, 1000)] k = false := by rfl) : ∀ i, ¬ W_X1_findWay k i := WL_n h
theorem ls_X1_findWay_48 {l1 : Int} {l2 : Int} {Q : Int → Ii → Jj → Prop} {r21 : Int → Int → Ii → Jj → Prop} {n : Nat} {l3 : Int} {l4 : Int} {l5 : Int} {l6 : Int} {I : Ii} {J : Jj} (h : Lb_X1_findWay_48 l1 l2 Q r21 (L_X1_findWay_48 l1 l2 Q r21 n) l3 l4 l5 l6 I J) : L_X1_findWay_48 l1 l2 Q r21 (n + 1) l3 l4 l5 l6 I J := h
set_option maxHeartbeats 4000000 in
set_option maxRecDepth 100000 in
theorem fl_X1_findWay_48 {l1 : Int} {l2 : Int} {P Q : Int → Ii → Jj → Prop} {I0 : Ii} {J0 : Jj} (hq : ∀ (v : Int) (I' : Ii) (J' : Jj), P v I' J' → Same (W_X1_findWay) I0 J0 I' J' → Q v I' J') {r21 q21 : Int → Int → Ii → Jj → Prop} (hr21 : ∀ (l3 : Int) (l4 : Int) (I' : Ii) (J' : Jj), r21 l3 l4 I' J' → Same (W_X1_findWay) I0 J0 I' J' → q21 l3 l4 I' J') : ∀ (n : Nat) (l3 : Int) (l4 : Int) (l5 : Int) (l6 : Int) (I : Ii) (J : Jj), L_X1_findWay_48 l1 l2 P r21 n l3 l4 l5 l6 I J → Same (W_X1_findWay) I0 J0 I J → L_X1_findWay_48 l1 l2 Q q21 n l3 l4 l5 l6 I J := by
  intro n
  induction n with
  | zero => intro l3 l4 l5 l6 I J h _; exact h
  | succ n ih =>
    intro l3 l4 l5 l6 I J h hs
    have h : Lb_X1_findWay_48 l1 l2 P r21 (L_X1_findWay_48 l1 l2 P r21 n) l3 l4 l5 l6 I J := h
    show Lb_X1_findWay_48 l1 l2 Q q21 (L_X1_findWay_48 l1 l2 Q q21 n) l3 l4 l5 l6 I J
    have hr48 := ih
    clear ih
    unfold Lb_X1_findWay_48 at h ⊢
    obtain ⟨g, h⟩ := h
    refine ⟨g, ?_⟩
    obtain ⟨g, h⟩ := h
    refine ⟨g, ?_⟩
    refine ⟨fun c => ?_, fun c => ?_⟩
    · replace h := h.1 c
      exact hr21 _ _ _ _ h hs
    · replace h := h.2 c
      refine fr_X11_isIn h (fun v h => ?_)
      refine ⟨fun c => ?_, fun c => ?_⟩
      · replace h := h.1 c
        exact hr48 _ _ _ _ _ _ h hs
      · replace h := h.2 c
        refine fr_X11_at h (fun v h => ?_)
        obtain ⟨g, h⟩ := h
        refine ⟨g, ?_⟩
        refine ⟨fun c => ?_, fun c => ?_⟩
        · replace h := h.1 c
          exact hr48 _ _ _ _ _ _ h hs
        · replace h := h.2 c
          intro I1 e1
          replace h := h I1 e1
          replace hs := hs.upI e1 rfl
          refine fr_X11_put h (fun I2 J2 h hs2 => ?_)
          replace hs := hs.trans hs2 (WL_sub rfl)
          refine fr_X11_put h (fun I2 J2 h hs2 => ?_)
          replace hs := hs.trans hs2 (WL_sub rfl)
          exact hr48 _ _ _ _ _ _ h hs
set_option maxHeartbeats 4000000 in
set_option maxRecDepth 100000 in
theorem fb_X1_findWay_136 {l1 : Int} {l2 : Int} {P Q : Int → Ii → Jj → Prop} {I0 : Ii} {J0 : Jj} (hq : ∀ (v : Int) (I' : Ii) (J' : Jj), P v I' J' → Same (W_X1_findWay) I0 J0 I' J' → Q v I' J') {I : Ii} {J : Jj} (h : B_X1_findWay_136 l1 l2 P  I J) (hs : Same (W_X1_findWay) I0 J0 I J) : B_X1_findWay_136 l1 l2 Q  I J := by
  unfold B_X1_findWay_136 at h ⊢
  refine fr_X11_isIn h (fun v h => ?_)
  obtain ⟨g, h⟩ := h
  refine ⟨g, ?_⟩
  exact hq _ _ _ h hs
theorem ls_X1_findWay_21 {l1 : Int} {l2 : Int} {Q : Int → Ii → Jj → Prop} {n : Nat} {l3 : Int} {l4 : Int} {I : Ii} {J : Jj} (h : Lb_X1_findWay_21 l1 l2 Q (L_X1_findWay_21 l1 l2 Q n) l3 l4 I J) : L_X1_findWay_21 l1 l2 Q (n + 1) l3 l4 I J := h
set_option maxHeartbeats 4000000 in
set_option maxRecDepth 100000 in
theorem fl_X1_findWay_21 {l1 : Int} {l2 : Int} {P Q : Int → Ii → Jj → Prop} {I0 : Ii} {J0 : Jj} (hq : ∀ (v : Int) (I' : Ii) (J' : Jj), P v I' J' → Same (W_X1_findWay) I0 J0 I' J' → Q v I' J') : ∀ (n : Nat) (l3 : Int) (l4 : Int) (I : Ii) (J : Jj), L_X1_findWay_21 l1 l2 P n l3 l4 I J → Same (W_X1_findWay) I0 J0 I J → L_X1_findWay_21 l1 l2 Q n l3 l4 I J := by
  intro n
  induction n with
  | zero => intro l3 l4 I J h _; exact h
  | succ n ih =>
    intro l3 l4 I J h hs
    have h : Lb_X1_findWay_21 l1 l2 P (L_X1_findWay_21 l1 l2 P n) l3 l4 I J := h
    show Lb_X1_findWay_21 l1 l2 Q (L_X1_findWay_21 l1 l2 Q n) l3 l4 I J
    have hr21 := ih
    clear ih
    unfold Lb_X1_findWay_21 at h ⊢
    obtain ⟨g, h⟩ := h
    refine ⟨g, ?_⟩
    obtain ⟨g, h⟩ := h
    refine ⟨g, ?_⟩
    refine ⟨fun c => ?_, fun c => ?_⟩
    · replace h := h.1 c
      exact fb_X1_findWay_136 hq h hs
    · replace h := h.2 c
      refine ⟨fun c => ?_, fun c => ?_⟩
      · replace h := h.1 c
        exact fb_X1_findWay_136 hq h hs
      · replace h := h.2 c
        refine fr_X11_at h (fun v h => ?_)
        obtain ⟨n, h⟩ := h
        exact ⟨n, fl_X1_findWay_48 hq hr21 n _ _ _ _ _ _ h hs⟩
set_option maxHeartbeats 4000000 in
set_option maxRecDepth 100000 in
theorem fr_X1_findWay {l1 : Int} {l2 : Int} {P Q : Int → Ii → Jj → Prop} {I0 : Ii} {J0 : Jj} (h : wp_X1_findWay l1 l2 I0 J0 P) (hq : ∀ (v : Int) (I' : Ii) (J' : Jj), P v I' J' → Same (W_X1_findWay) I0 J0 I' J' → Q v I' J') : wp_X1_findWay l1 l2 I0 J0 Q := by
  have hs := Same.rf (W := (W_X1_findWay)) I0 J0
  unfold wp_X1_findWay at h ⊢
  intro I1 e1
  replace h := h I1 e1
  replace hs := hs.upI e1 rfl
  refine fr_X11_put h (fun I2 J2 h hs2 => ?_)
  replace hs := hs.trans hs2 (WL_sub rfl)
  obtain ⟨n, h⟩ := h
  exact ⟨n, fl_X1_findWay_21 hq n _ _ _ _ h hs⟩
def W_X1_useWay : Nat → Nat → Prop := WL [(129, 1000)]
theorem W_X1_useWay_n {k : Nat} (h : wlk [(129, 1000)] k = false := by rfl) : ∀ i, ¬ W_X1_useWay k i := WL_n h
theorem ls_X1_useWay_72 {l1 : Int} {l2 : Int} {Q : Int → Ii → Jj → Prop} {n : Nat} {l3 : Int} {l4 : Int} {l5 : Int} {I : Ii} {J : Jj} (h : Lb_X1_useWay_72 l1 l2 Q (L_X1_useWay_72 l1 l2 Q n) l3 l4 l5 I J) : L_X1_useWay_72 l1 l2 Q (n + 1) l3 l4 l5 I J := h
set_option maxHeartbeats 4000000 in
set_option maxRecDepth 100000 in
theorem fl_X1_useWay_72 {l1 : Int} {l2 : Int} {P Q : Int → Ii → Jj → Prop} {I0 : Ii} {J0 : Jj} (hq : ∀ (v : Int) (I' : Ii) (J' : Jj), P v I' J' → Same (W_X1_useWay) I0 J0 I' J' → Q v I' J') : ∀ (n : Nat) (l3 : Int) (l4 : Int) (l5 : Int) (I : Ii) (J : Jj), L_X1_useWay_72 l1 l2 P n l3 l4 l5 I J → Same (W_X1_useWay) I0 J0 I J → L_X1_useWay_72 l1 l2 Q n l3 l4 l5 I J := by
  intro n
  induction n with
  | zero => intro l3 l4 l5 I J h _; exact h
  | succ n ih =>
    intro l3 l4 l5 I J h hs
    have h : Lb_X1_useWay_72 l1 l2 P (L_X1_useWay_72 l1 l2 P n) l3 l4 l5 I J := h
    show Lb_X1_useWay_72 l1 l2 Q (L_X1_useWay_72 l1 l2 Q n) l3 l4 l5 I J
    have hr72 := ih
    clear ih
    unfold Lb_X1_useWay_72 at h ⊢
    obtain ⟨g, h⟩ := h
    refine ⟨g, ?_⟩
    refine ⟨fun c => ?_, fun c => ?_⟩
    · replace h := h.1 c
      exact hq _ _ _ h hs
    · replace h := h.2 c
      obtain ⟨g, h⟩ := h
      refine ⟨g, ?_⟩
      obtain ⟨g, h⟩ := h
      refine ⟨g, ?_⟩
      refine ⟨fun c => ?_, fun c => ?_⟩
      · replace h := h.1 c
        exact hq _ _ _ h hs
      · replace h := h.2 c
        refine fr_X11_at h (fun v h => ?_)
        refine fr_X11_add h (fun I2 J2 h hs2 => ?_)
        replace hs := hs.trans hs2 (WL_sub rfl)
        refine fr_X11_at h (fun v h => ?_)
        refine fr_X11_add h (fun I2 J2 h hs2 => ?_)
        replace hs := hs.trans hs2 (WL_sub rfl)
        refine fr_X11_at h (fun v h => ?_)
        exact hr72 _ _ _ _ _ h hs
theorem ls_X1_useWay_9 {l1 : Int} {l2 : Int} {Q : Int → Ii → Jj → Prop} {n : Nat} {l3 : Int} {l4 : Int} {l5 : Int} {I : Ii} {J : Jj} (h : Lb_X1_useWay_9 l1 l2 Q (L_X1_useWay_9 l1 l2 Q n) l3 l4 l5 I J) : L_X1_useWay_9 l1 l2 Q (n + 1) l3 l4 l5 I J := h
set_option maxHeartbeats 4000000 in
set_option maxRecDepth 100000 in
theorem fl_X1_useWay_9 {l1 : Int} {l2 : Int} {P Q : Int → Ii → Jj → Prop} {I0 : Ii} {J0 : Jj} (hq : ∀ (v : Int) (I' : Ii) (J' : Jj), P v I' J' → Same (W_X1_useWay) I0 J0 I' J' → Q v I' J') : ∀ (n : Nat) (l3 : Int) (l4 : Int) (l5 : Int) (I : Ii) (J : Jj), L_X1_useWay_9 l1 l2 P n l3 l4 l5 I J → Same (W_X1_useWay) I0 J0 I J → L_X1_useWay_9 l1 l2 Q n l3 l4 l5 I J := by
  intro n
  induction n with
  | zero => intro l3 l4 l5 I J h _; exact h
  | succ n ih =>
    intro l3 l4 l5 I J h hs
    have h : Lb_X1_useWay_9 l1 l2 P (L_X1_useWay_9 l1 l2 P n) l3 l4 l5 I J := h
    show Lb_X1_useWay_9 l1 l2 Q (L_X1_useWay_9 l1 l2 Q n) l3 l4 l5 I J
    have hr9 := ih
    clear ih
    unfold Lb_X1_useWay_9 at h ⊢
    obtain ⟨g, h⟩ := h
    refine ⟨g, ?_⟩
    refine ⟨fun c => ?_, fun c => ?_⟩
    · replace h := h.1 c
      obtain ⟨n, h⟩ := h
      exact ⟨n, fl_X1_useWay_72 hq n _ _ _ _ _ h hs⟩
    · replace h := h.2 c
      obtain ⟨g, h⟩ := h
      refine ⟨g, ?_⟩
      obtain ⟨g, h⟩ := h
      refine ⟨g, ?_⟩
      refine ⟨fun c => ?_, fun c => ?_⟩
      · replace h := h.1 c
        obtain ⟨n, h⟩ := h
        exact ⟨n, fl_X1_useWay_72 hq n _ _ _ _ _ h hs⟩
      · replace h := h.2 c
        refine fr_X11_at h (fun v h => ?_)
        refine fr_X11_at h (fun v h => ?_)
        refine fr_J9_min_7cf53 h (fun v h => ?_)
        refine fr_X11_at h (fun v h => ?_)
        exact hr9 _ _ _ _ _ h hs
set_option maxHeartbeats 4000000 in
set_option maxRecDepth 100000 in
theorem fr_X1_useWay {l1 : Int} {l2 : Int} {P Q : Int → Ii → Jj → Prop} {I0 : Ii} {J0 : Jj} (h : wp_X1_useWay l1 l2 I0 J0 P) (hq : ∀ (v : Int) (I' : Ii) (J' : Jj), P v I' J' → Same (W_X1_useWay) I0 J0 I' J' → Q v I' J') : wp_X1_useWay l1 l2 I0 J0 Q := by
  have hs := Same.rf (W := (W_X1_useWay)) I0 J0
  unfold wp_X1_useWay at h ⊢
  obtain ⟨n, h⟩ := h
  exact ⟨n, fl_X1_useWay_9 hq n _ _ _ _ _ h hs⟩
def W_X2_addVertex (k0 : Nat) : Nat → Nat → Prop := WL [(k0, 0), (k0, 5), (k0 + 1, 1000), (k0 + 2, 1000)]
theorem W_X2_addVertex_n {k0 : Nat} {k : Nat} (h : wlk [(k0, 0), (k0, 5), (k0 + 1, 1000), (k0 + 2, 1000)] k = false := by rfl) : ∀ i, ¬ W_X2_addVertex k0 k i := WL_n h
set_option maxHeartbeats 4000000 in
set_option maxRecDepth 100000 in
theorem fr_X2_addVertex {k0 : Nat} {l1 : Int64} {l3 : Int} {P Q : Ii → Jj → Prop} {I0 : Ii} {J0 : Jj} (h : wp_X2_addVertex k0 l1 l3 I0 J0 P) (hq : ∀ (I' : Ii) (J' : Jj), P I' J' → Same (W_X2_addVertex k0) I0 J0 I' J' → Q I' J') : wp_X2_addVertex k0 l1 l3 I0 J0 Q := by
  have hs := Same.rf (W := (W_X2_addVertex k0)) I0 J0
  unfold wp_X2_addVertex at h ⊢
  obtain ⟨g, h⟩ := h
  refine ⟨g, ?_⟩
  obtain ⟨g, h⟩ := h
  refine ⟨g, ?_⟩
  refine ⟨fun c => ?_, fun c => ?_⟩
  · replace h := h.1 c
    exact hq _ _ h hs
  · replace h := h.2 c
    obtain ⟨g, h⟩ := h
    refine ⟨g, ?_⟩
    intro I1 e1
    replace h := h I1 e1
    replace hs := hs.upJ e1 (by first | rfl | simp [W_X2_addVertex, WL, wl])
    refine fr_X11_put h (fun I2 J2 h hs2 => ?_)
    replace hs := hs.trans hs2 (by first | exact WL_sub rfl | exact WL_any (by simp [wls, wl, WL]))
    intro I1 e1
    replace h := h I1 e1
    replace hs := hs.upI e1 (by first | rfl | simp [W_X2_addVertex, WL, wl])
    intro I1 e1
    replace h := h I1 e1
    replace hs := hs.upI e1 (by first | rfl | simp [W_X2_addVertex, WL, wl])
    exact hq _ _ h hs
def W_X2_addEdge (k0 : Nat) : Nat → Nat → Prop := WL [(k0, 1), (k0, 6), (k0 + 3, 1000), (k0 + 4, 1000), (k0 + 5, 1000)]
theorem W_X2_addEdge_n {k0 : Nat} {k : Nat} (h : wlk [(k0, 1), (k0, 6), (k0 + 3, 1000), (k0 + 4, 1000), (k0 + 5, 1000)] k = false := by rfl) : ∀ i, ¬ W_X2_addEdge k0 k i := WL_n h
set_option maxHeartbeats 4000000 in
set_option maxRecDepth 100000 in
theorem fr_X2_addEdge {k0 : Nat} {l1 : Int} {l2 : Int} {l3 : Int} {P Q : Ii → Jj → Prop} {I0 : Ii} {J0 : Jj} (h : wp_X2_addEdge k0 l1 l2 l3 I0 J0 P) (hq : ∀ (I' : Ii) (J' : Jj), P I' J' → Same (W_X2_addEdge k0) I0 J0 I' J' → Q I' J') : wp_X2_addEdge k0 l1 l2 l3 I0 J0 Q := by
  have hs := Same.rf (W := (W_X2_addEdge k0)) I0 J0
  unfold wp_X2_addEdge at h ⊢
  obtain ⟨g, h⟩ := h
  refine ⟨g, ?_⟩
  refine fr_X11_put h (fun I2 J2 h hs2 => ?_)
  replace hs := hs.trans hs2 (by first | exact WL_sub rfl | exact WL_any (by simp [wls, wl, WL]))
  refine fr_X11_put h (fun I2 J2 h hs2 => ?_)
  replace hs := hs.trans hs2 (by first | exact WL_sub rfl | exact WL_any (by simp [wls, wl, WL]))
  refine fr_X11_put h (fun I2 J2 h hs2 => ?_)
  replace hs := hs.trans hs2 (by first | exact WL_sub rfl | exact WL_any (by simp [wls, wl, WL]))
  intro I1 e1
  replace h := h I1 e1
  replace hs := hs.upI e1 (by first | rfl | simp [W_X2_addEdge, WL, wl])
  intro I1 e1
  replace h := h I1 e1
  replace hs := hs.upI e1 (by first | rfl | simp [W_X2_addEdge, WL, wl])
  exact hq _ _ h hs
set_option maxHeartbeats 4000000 in
set_option maxRecDepth 100000 in
theorem fr_X2_endsOf {k0 : Nat} {l1 : Int} {P Q : Int → Ii → Jj → Prop} {I : Ii} {J : Jj} (h : wp_X2_endsOf k0 l1 I J P) (hq : ∀ (v : Int), P v I J → Q v I J) : wp_X2_endsOf k0 l1 I J Q := by
  unfold wp_X2_endsOf at h ⊢
  obtain ⟨g, h⟩ := h
  refine ⟨g, ?_⟩
  refine fr_X11_at h (fun v h => ?_)
  refine fr_X11_at h (fun v h => ?_)
  exact hq _ h
theorem ls_X2_spread_18 {k0 : Nat} {l1 : Int} {l2 : Int} {Q : Int → Ii → Jj → Prop} {r5 : Int → Int → Ii → Jj → Prop} {n : Nat} {l3 : Int} {l4 : Int} {l5 : Int} {l6 : Int} {I : Ii} {J : Jj} (h : Lb_X2_spread_18 k0 l1 l2 Q r5 (L_X2_spread_18 k0 l1 l2 Q r5 n) l3 l4 l5 l6 I J) : L_X2_spread_18 k0 l1 l2 Q r5 (n + 1) l3 l4 l5 l6 I J := h
set_option maxHeartbeats 4000000 in
set_option maxRecDepth 100000 in
theorem fl_X2_spread_18 {k0 : Nat} {l1 : Int} {l2 : Int} {P Q : Int → Ii → Jj → Prop} {I : Ii} {J : Jj} (hq : ∀ (v : Int), P v I J → Q v I J) {r5 q5 : Int → Int → Ii → Jj → Prop} (hr5 : ∀ (l3 : Int) (l4 : Int), r5 l3 l4 I J → q5 l3 l4 I J) : ∀ (n : Nat) (l3 : Int) (l4 : Int) (l5 : Int) (l6 : Int), L_X2_spread_18 k0 l1 l2 P r5 n l3 l4 l5 l6 I J → L_X2_spread_18 k0 l1 l2 Q q5 n l3 l4 l5 l6 I J := by
  intro n
  induction n with
  | zero => intro l3 l4 l5 l6 h; exact h
  | succ n ih =>
    intro l3 l4 l5 l6 h
    have h : Lb_X2_spread_18 k0 l1 l2 P r5 (L_X2_spread_18 k0 l1 l2 P r5 n) l3 l4 l5 l6 I J := h
    show Lb_X2_spread_18 k0 l1 l2 Q q5 (L_X2_spread_18 k0 l1 l2 Q q5 n) l3 l4 l5 l6 I J
    have hr18 := ih
    clear ih
    unfold Lb_X2_spread_18 at h ⊢
    obtain ⟨g, h⟩ := h
    refine ⟨g, ?_⟩
    obtain ⟨g, h⟩ := h
    refine ⟨g, ?_⟩
    refine ⟨fun c => ?_, fun c => ?_⟩
    · replace h := h.1 c
      obtain ⟨g, h⟩ := h
      refine ⟨g, ?_⟩
      obtain ⟨g, h⟩ := h
      refine ⟨g, ?_⟩
      refine ⟨fun c => ?_, fun c => ?_⟩
      · replace h := h.1 c
        exact hr5 _ _ h
      · replace h := h.2 c
        exact hq _ h
    · replace h := h.2 c
      refine fr_X2_endsOf h (fun v h => ?_)
      refine ⟨fun c => ?_, fun c => ?_⟩
      · replace h := h.1 c
        exact hr18 _ _ _ _ h
      · replace h := h.2 c
        refine ⟨fun c => ?_, fun c => ?_⟩
        · replace h := h.1 c
          exact hr18 _ _ _ _ h
        · replace h := h.2 c
          exact hr18 _ _ _ _ h
theorem ls_X2_spread_5 {k0 : Nat} {l1 : Int} {l2 : Int} {Q : Int → Ii → Jj → Prop} {n : Nat} {l3 : Int} {l4 : Int} {I : Ii} {J : Jj} (h : Lb_X2_spread_5 k0 l1 l2 Q (L_X2_spread_5 k0 l1 l2 Q n) l3 l4 I J) : L_X2_spread_5 k0 l1 l2 Q (n + 1) l3 l4 I J := h
set_option maxHeartbeats 4000000 in
set_option maxRecDepth 100000 in
theorem fl_X2_spread_5 {k0 : Nat} {l1 : Int} {l2 : Int} {P Q : Int → Ii → Jj → Prop} {I : Ii} {J : Jj} (hq : ∀ (v : Int), P v I J → Q v I J) : ∀ (n : Nat) (l3 : Int) (l4 : Int), L_X2_spread_5 k0 l1 l2 P n l3 l4 I J → L_X2_spread_5 k0 l1 l2 Q n l3 l4 I J := by
  intro n
  induction n with
  | zero => intro l3 l4 h; exact h
  | succ n ih =>
    intro l3 l4 h
    have h : Lb_X2_spread_5 k0 l1 l2 P (L_X2_spread_5 k0 l1 l2 P n) l3 l4 I J := h
    show Lb_X2_spread_5 k0 l1 l2 Q (L_X2_spread_5 k0 l1 l2 Q n) l3 l4 I J
    have hr5 := ih
    clear ih
    unfold Lb_X2_spread_5 at h ⊢
    obtain ⟨g, h⟩ := h
    refine ⟨g, ?_⟩
    refine ⟨fun c => ?_, fun c => ?_⟩
    · replace h := h.1 c
      exact hq _ h
    · replace h := h.2 c
      obtain ⟨n, h⟩ := h
      exact ⟨n, fl_X2_spread_18 hq hr5 n _ _ _ _ h⟩
set_option maxHeartbeats 4000000 in
set_option maxRecDepth 100000 in
theorem fr_X2_spread {k0 : Nat} {l1 : Int} {l2 : Int} {P Q : Int → Ii → Jj → Prop} {I : Ii} {J : Jj} (h : wp_X2_spread k0 l1 l2 I J P) (hq : ∀ (v : Int), P v I J → Q v I J) : wp_X2_spread k0 l1 l2 I J Q := by
  unfold wp_X2_spread at h ⊢
  obtain ⟨g, h⟩ := h
  refine ⟨g, ?_⟩
  obtain ⟨n, h⟩ := h
  exact ⟨n, fl_X2_spread_5 hq n _ _ h⟩
theorem ls_X2_pieces_7 {k0 : Nat} {l1 : Int} {Q : Int → Ii → Jj → Prop} {n : Nat} {l2 : Int} {l3 : Int} {l4 : Int} {I : Ii} {J : Jj} (h : Lb_X2_pieces_7 k0 l1 Q (L_X2_pieces_7 k0 l1 Q n) l2 l3 l4 I J) : L_X2_pieces_7 k0 l1 Q (n + 1) l2 l3 l4 I J := h
set_option maxHeartbeats 4000000 in
set_option maxRecDepth 100000 in
theorem fl_X2_pieces_7 {k0 : Nat} {l1 : Int} {P Q : Int → Ii → Jj → Prop} {I : Ii} {J : Jj} (hq : ∀ (v : Int), P v I J → Q v I J) : ∀ (n : Nat) (l2 : Int) (l3 : Int) (l4 : Int), L_X2_pieces_7 k0 l1 P n l2 l3 l4 I J → L_X2_pieces_7 k0 l1 Q n l2 l3 l4 I J := by
  intro n
  induction n with
  | zero => intro l2 l3 l4 h; exact h
  | succ n ih =>
    intro l2 l3 l4 h
    have h : Lb_X2_pieces_7 k0 l1 P (L_X2_pieces_7 k0 l1 P n) l2 l3 l4 I J := h
    show Lb_X2_pieces_7 k0 l1 Q (L_X2_pieces_7 k0 l1 Q n) l2 l3 l4 I J
    have hr7 := ih
    clear ih
    unfold Lb_X2_pieces_7 at h ⊢
    obtain ⟨g, h⟩ := h
    refine ⟨g, ?_⟩
    obtain ⟨g, h⟩ := h
    refine ⟨g, ?_⟩
    refine ⟨fun c => ?_, fun c => ?_⟩
    · replace h := h.1 c
      exact hq _ h
    · replace h := h.2 c
      refine fr_X11_isIn h (fun v h => ?_)
      refine ⟨fun c => ?_, fun c => ?_⟩
      · replace h := h.1 c
        exact hr7 _ _ _ h
      · replace h := h.2 c
        refine fr_X2_spread h (fun v h => ?_)
        exact hr7 _ _ _ h
set_option maxHeartbeats 4000000 in
set_option maxRecDepth 100000 in
theorem fr_X2_pieces {k0 : Nat} {l1 : Int} {P Q : Int → Ii → Jj → Prop} {I : Ii} {J : Jj} (h : wp_X2_pieces k0 l1 I J P) (hq : ∀ (v : Int), P v I J → Q v I J) : wp_X2_pieces k0 l1 I J Q := by
  unfold wp_X2_pieces at h ⊢
  obtain ⟨g, h⟩ := h
  refine ⟨g, ?_⟩
  obtain ⟨n, h⟩ := h
  exact ⟨n, fl_X2_pieces_7 hq n _ _ _ h⟩
theorem ls_X2_largestPiece_13 {k0 : Nat} {Q : Int → Ii → Jj → Prop} {n : Nat} {l1 : Int} {l2 : Int} {l3 : Int} {I : Ii} {J : Jj} (h : Lb_X2_largestPiece_13 k0 Q (L_X2_largestPiece_13 k0 Q n) l1 l2 l3 I J) : L_X2_largestPiece_13 k0 Q (n + 1) l1 l2 l3 I J := h
set_option maxHeartbeats 4000000 in
set_option maxRecDepth 100000 in
theorem fl_X2_largestPiece_13 {k0 : Nat} {P Q : Int → Ii → Jj → Prop} {I : Ii} {J : Jj} (hq : ∀ (v : Int), P v I J → Q v I J) : ∀ (n : Nat) (l1 : Int) (l2 : Int) (l3 : Int), L_X2_largestPiece_13 k0 P n l1 l2 l3 I J → L_X2_largestPiece_13 k0 Q n l1 l2 l3 I J := by
  intro n
  induction n with
  | zero => intro l1 l2 l3 h; exact h
  | succ n ih =>
    intro l1 l2 l3 h
    have h : Lb_X2_largestPiece_13 k0 P (L_X2_largestPiece_13 k0 P n) l1 l2 l3 I J := h
    show Lb_X2_largestPiece_13 k0 Q (L_X2_largestPiece_13 k0 Q n) l1 l2 l3 I J
    have hr13 := ih
    clear ih
    unfold Lb_X2_largestPiece_13 at h ⊢
    obtain ⟨g, h⟩ := h
    refine ⟨g, ?_⟩
    obtain ⟨g, h⟩ := h
    refine ⟨g, ?_⟩
    refine ⟨fun c => ?_, fun c => ?_⟩
    · replace h := h.1 c
      exact hq _ h
    · replace h := h.2 c
      refine fr_X2_spread h (fun v h => ?_)
      refine fr_J6_bitCount_0f7a4 h (fun v h => ?_)
      refine fr_J9_max_7cf53 h (fun v h => ?_)
      exact hr13 _ _ _ h
set_option maxHeartbeats 4000000 in
set_option maxRecDepth 100000 in
theorem fr_X2_largestPiece {k0 : Nat} {P Q : Int → Ii → Jj → Prop} {I : Ii} {J : Jj} (h : wp_X2_largestPiece k0 I J P) (hq : ∀ (v : Int), P v I J → Q v I J) : wp_X2_largestPiece k0 I J Q := by
  unfold wp_X2_largestPiece at h ⊢
  obtain ⟨g, h⟩ := h
  refine ⟨g, ?_⟩
  obtain ⟨n, h⟩ := h
  exact ⟨n, fl_X2_largestPiece_13 hq n _ _ _ h⟩
def W_X4_takeVertices (k1 : Nat) (k2 : Nat) : Nat → Nat → Prop := WL [(114, 1000), (115, 1000), (116, 1000), (117, 1000), (118, 1000)]
theorem W_X4_takeVertices_n {k1 : Nat} {k2 : Nat} {k : Nat} (h : wlk [(114, 1000), (115, 1000), (116, 1000), (117, 1000), (118, 1000)] k = false := by rfl) : ∀ i, ¬ W_X4_takeVertices k1 k2 k i := WL_n h
theorem ls_X4_takeVertices_40 {k1 : Nat} {k2 : Nat} {Q : Ii → Jj → Prop} {n : Nat} {l3 : Int} {l4 : Int} {I : Ii} {J : Jj} (h : Lb_X4_takeVertices_40 k1 k2 Q (L_X4_takeVertices_40 k1 k2 Q n) l3 l4 I J) : L_X4_takeVertices_40 k1 k2 Q (n + 1) l3 l4 I J := h
set_option maxHeartbeats 4000000 in
set_option maxRecDepth 100000 in
theorem fl_X4_takeVertices_40 {k1 : Nat} {k2 : Nat} {P Q : Ii → Jj → Prop} {I0 : Ii} {J0 : Jj} (hq : ∀ (I' : Ii) (J' : Jj), P I' J' → Same (W_X4_takeVertices k1 k2) I0 J0 I' J' → Q I' J') : ∀ (n : Nat) (l3 : Int) (l4 : Int) (I : Ii) (J : Jj), L_X4_takeVertices_40 k1 k2 P n l3 l4 I J → Same (W_X4_takeVertices k1 k2) I0 J0 I J → L_X4_takeVertices_40 k1 k2 Q n l3 l4 I J := by
  intro n
  induction n with
  | zero => intro l3 l4 I J h _; exact h
  | succ n ih =>
    intro l3 l4 I J h hs
    have h : Lb_X4_takeVertices_40 k1 k2 P (L_X4_takeVertices_40 k1 k2 P n) l3 l4 I J := h
    show Lb_X4_takeVertices_40 k1 k2 Q (L_X4_takeVertices_40 k1 k2 Q n) l3 l4 I J
    have hr40 := ih
    clear ih
    unfold Lb_X4_takeVertices_40 at h ⊢
    obtain ⟨g, h⟩ := h
    refine ⟨g, ?_⟩
    obtain ⟨g, h⟩ := h
    refine ⟨g, ?_⟩
    refine ⟨fun c => ?_, fun c => ?_⟩
    · replace h := h.1 c
      exact hq _ _ h hs
    · replace h := h.2 c
      refine fr_X11_at h (fun v h => ?_)
      refine fr_X11_at h (fun v h => ?_)
      refine fr_X11_add h (fun I2 J2 h hs2 => ?_)
      replace hs := hs.trans hs2 (by first | exact WL_sub rfl | exact WL_any (by simp [wls, wl, WL]))
      refine fr_X11_at h (fun v h => ?_)
      refine fr_X11_add h (fun I2 J2 h hs2 => ?_)
      replace hs := hs.trans hs2 (by first | exact WL_sub rfl | exact WL_any (by simp [wls, wl, WL]))
      refine fr_X11_put h (fun I2 J2 h hs2 => ?_)
      replace hs := hs.trans hs2 (by first | exact WL_sub rfl | exact WL_any (by simp [wls, wl, WL]))
      refine fr_X11_add h (fun I2 J2 h hs2 => ?_)
      replace hs := hs.trans hs2 (by first | exact WL_sub rfl | exact WL_any (by simp [wls, wl, WL]))
      refine fr_X11_at h (fun v h => ?_)
      refine fr_X11_add h (fun I2 J2 h hs2 => ?_)
      replace hs := hs.trans hs2 (by first | exact WL_sub rfl | exact WL_any (by simp [wls, wl, WL]))
      exact hr40 _ _ _ _ h hs
set_option maxHeartbeats 4000000 in
set_option maxRecDepth 100000 in
theorem fr_X4_takeVertices {k1 : Nat} {k2 : Nat} {P Q : Ii → Jj → Prop} {I0 : Ii} {J0 : Jj} (h : wp_X4_takeVertices k1 k2 I0 J0 P) (hq : ∀ (I' : Ii) (J' : Jj), P I' J' → Same (W_X4_takeVertices k1 k2) I0 J0 I' J' → Q I' J') : wp_X4_takeVertices k1 k2 I0 J0 Q := by
  have hs := Same.rf (W := (W_X4_takeVertices k1 k2)) I0 J0
  unfold wp_X4_takeVertices at h ⊢
  obtain ⟨g, h⟩ := h
  refine ⟨g, ?_⟩
  obtain ⟨g, h⟩ := h
  refine ⟨g, ?_⟩
  refine fr_J7_fill_53178 h (fun I2 J2 h hs2 => ?_)
  replace hs := hs.trans hs2 (by first | exact WL_sub rfl | exact WL_any (by simp [wls, wl, WL]))
  refine fr_J7_fill_53178 h (fun I2 J2 h hs2 => ?_)
  replace hs := hs.trans hs2 (by first | exact WL_sub rfl | exact WL_any (by simp [wls, wl, WL]))
  refine fr_J7_fill_53178 h (fun I2 J2 h hs2 => ?_)
  replace hs := hs.trans hs2 (by first | exact WL_sub rfl | exact WL_any (by simp [wls, wl, WL]))
  refine fr_J7_fill_53178 h (fun I2 J2 h hs2 => ?_)
  replace hs := hs.trans hs2 (by first | exact WL_sub rfl | exact WL_any (by simp [wls, wl, WL]))
  refine fr_X8_groupRow h (fun v h => ?_)
  obtain ⟨n, h⟩ := h
  exact ⟨n, fl_X4_takeVertices_40 hq n _ _ _ _ h hs⟩
def W_X4_takeEdges (k1 : Nat) (k2 : Nat) : Nat → Nat → Prop := WL [(113, 5), (119, 1000)]
theorem W_X4_takeEdges_n {k1 : Nat} {k2 : Nat} {k : Nat} (h : wlk [(113, 5), (119, 1000)] k = false := by rfl) : ∀ i, ¬ W_X4_takeEdges k1 k2 k i := WL_n h
theorem ls_X4_takeEdges_21 {k1 : Nat} {k2 : Nat} {Q : Ii → Jj → Prop} {n : Nat} {l3 : Int} {l4 : Int} {I : Ii} {J : Jj} (h : Lb_X4_takeEdges_21 k1 k2 Q (L_X4_takeEdges_21 k1 k2 Q n) l3 l4 I J) : L_X4_takeEdges_21 k1 k2 Q (n + 1) l3 l4 I J := h
set_option maxHeartbeats 4000000 in
set_option maxRecDepth 100000 in
theorem fl_X4_takeEdges_21 {k1 : Nat} {k2 : Nat} {P Q : Ii → Jj → Prop} {I0 : Ii} {J0 : Jj} (hq : ∀ (I' : Ii) (J' : Jj), P I' J' → Same (W_X4_takeEdges k1 k2) I0 J0 I' J' → Q I' J') : ∀ (n : Nat) (l3 : Int) (l4 : Int) (I : Ii) (J : Jj), L_X4_takeEdges_21 k1 k2 P n l3 l4 I J → Same (W_X4_takeEdges k1 k2) I0 J0 I J → L_X4_takeEdges_21 k1 k2 Q n l3 l4 I J := by
  intro n
  induction n with
  | zero => intro l3 l4 I J h _; exact h
  | succ n ih =>
    intro l3 l4 I J h hs
    have h : Lb_X4_takeEdges_21 k1 k2 P (L_X4_takeEdges_21 k1 k2 P n) l3 l4 I J := h
    show Lb_X4_takeEdges_21 k1 k2 Q (L_X4_takeEdges_21 k1 k2 Q n) l3 l4 I J
    have hr21 := ih
    clear ih
    unfold Lb_X4_takeEdges_21 at h ⊢
    obtain ⟨g, h⟩ := h
    refine ⟨g, ?_⟩
    obtain ⟨g, h⟩ := h
    refine ⟨g, ?_⟩
    refine ⟨fun c => ?_, fun c => ?_⟩
    · replace h := h.1 c
      exact hq _ _ h hs
    · replace h := h.2 c
      refine fr_X11_at h (fun v h => ?_)
      refine fr_X11_at h (fun v h => ?_)
      refine fr_X11_at h (fun v h => ?_)
      refine fr_X11_at h (fun v h => ?_)
      obtain ⟨g, h⟩ := h
      refine ⟨g, ?_⟩
      obtain ⟨g, h⟩ := h
      refine ⟨g, ?_⟩
      refine ⟨fun c => ?_, fun c => ?_⟩
      · replace h := h.1 c
        exact hr21 _ _ _ _ h hs
      · replace h := h.2 c
        refine fr_X11_at h (fun v h => ?_)
        refine fr_X11_at h (fun v h => ?_)
        refine fr_X11_add h (fun I2 J2 h hs2 => ?_)
        replace hs := hs.trans hs2 (by first | exact WL_sub rfl | exact WL_any (by simp [wls, wl, WL]))
        refine fr_X11_at h (fun v h => ?_)
        refine fr_X11_add h (fun I2 J2 h hs2 => ?_)
        replace hs := hs.trans hs2 (by first | exact WL_sub rfl | exact WL_any (by simp [wls, wl, WL]))
        refine fr_X11_at h (fun v h => ?_)
        refine fr_X11_at h (fun v h => ?_)
        obtain ⟨g, h⟩ := h
        refine ⟨g, ?_⟩
        obtain ⟨g, h⟩ := h
        refine ⟨g, ?_⟩
        refine ⟨fun c => ?_, fun c => ?_⟩
        · replace h := h.1 c
          intro I1 e1
          replace h := h I1 e1
          replace hs := hs.upI e1 (by first | rfl | simp [W_X4_takeEdges, WL, wl])
          exact hr21 _ _ _ _ h hs
        · replace h := h.2 c
          intro I1 e1
          replace h := h I1 e1
          replace hs := hs.upI e1 (by first | rfl | simp [W_X4_takeEdges, WL, wl])
          exact hr21 _ _ _ _ h hs
set_option maxHeartbeats 4000000 in
set_option maxRecDepth 100000 in
theorem fr_X4_takeEdges {k1 : Nat} {k2 : Nat} {P Q : Ii → Jj → Prop} {I0 : Ii} {J0 : Jj} (h : wp_X4_takeEdges k1 k2 I0 J0 P) (hq : ∀ (I' : Ii) (J' : Jj), P I' J' → Same (W_X4_takeEdges k1 k2) I0 J0 I' J' → Q I' J') : wp_X4_takeEdges k1 k2 I0 J0 Q := by
  have hs := Same.rf (W := (W_X4_takeEdges k1 k2)) I0 J0
  unfold wp_X4_takeEdges at h ⊢
  obtain ⟨g, h⟩ := h
  refine ⟨g, ?_⟩
  obtain ⟨g, h⟩ := h
  refine ⟨g, ?_⟩
  refine fr_J7_fill_53178 h (fun I2 J2 h hs2 => ?_)
  replace hs := hs.trans hs2 (by first | exact WL_sub rfl | exact WL_any (by simp [wls, wl, WL]))
  intro I1 e1
  replace h := h I1 e1
  replace hs := hs.upI e1 (by first | rfl | simp [W_X4_takeEdges, WL, wl])
  refine fr_X8_groupRow h (fun v h => ?_)
  obtain ⟨n, h⟩ := h
  exact ⟨n, fl_X4_takeEdges_21 hq n _ _ _ _ h hs⟩
theorem ls_X4_heaviestPart_4 {Q : Int → Ii → Jj → Prop} {n : Nat} {l1 : Int} {l2 : Int} {I : Ii} {J : Jj} (h : Lb_X4_heaviestPart_4 Q (L_X4_heaviestPart_4 Q n) l1 l2 I J) : L_X4_heaviestPart_4 Q (n + 1) l1 l2 I J := h
set_option maxHeartbeats 4000000 in
set_option maxRecDepth 100000 in
theorem fl_X4_heaviestPart_4 {P Q : Int → Ii → Jj → Prop} {I : Ii} {J : Jj} (hq : ∀ (v : Int), P v I J → Q v I J) : ∀ (n : Nat) (l1 : Int) (l2 : Int), L_X4_heaviestPart_4 P n l1 l2 I J → L_X4_heaviestPart_4 Q n l1 l2 I J := by
  intro n
  induction n with
  | zero => intro l1 l2 h; exact h
  | succ n ih =>
    intro l1 l2 h
    have h : Lb_X4_heaviestPart_4 P (L_X4_heaviestPart_4 P n) l1 l2 I J := h
    show Lb_X4_heaviestPart_4 Q (L_X4_heaviestPart_4 Q n) l1 l2 I J
    have hr4 := ih
    clear ih
    unfold Lb_X4_heaviestPart_4 at h ⊢
    obtain ⟨g, h⟩ := h
    refine ⟨g, ?_⟩
    obtain ⟨g, h⟩ := h
    refine ⟨g, ?_⟩
    refine ⟨fun c => ?_, fun c => ?_⟩
    · replace h := h.1 c
      exact hq _ h
    · replace h := h.2 c
      refine fr_X11_at h (fun v h => ?_)
      refine fr_X11_at h (fun v h => ?_)
      obtain ⟨g, h⟩ := h
      refine ⟨g, ?_⟩
      obtain ⟨g, h⟩ := h
      refine ⟨g, ?_⟩
      refine ⟨fun c => ?_, fun c => ?_⟩
      · replace h := h.1 c
        exact hr4 _ _ h
      · replace h := h.2 c
        exact hr4 _ _ h
set_option maxHeartbeats 4000000 in
set_option maxRecDepth 100000 in
theorem fr_X4_heaviestPart {P Q : Int → Ii → Jj → Prop} {I : Ii} {J : Jj} (h : wp_X4_heaviestPart I J P) (hq : ∀ (v : Int), P v I J → Q v I J) : wp_X4_heaviestPart I J Q := by
  unfold wp_X4_heaviestPart at h ⊢
  obtain ⟨n, h⟩ := h
  exact ⟨n, fl_X4_heaviestPart_4 hq n _ _ h⟩
theorem ls_X4_pullOfAll_4 {l1 : Int} {Q : Int → Ii → Jj → Prop} {n : Nat} {l2 : Int} {l3 : Int} {I : Ii} {J : Jj} (h : Lb_X4_pullOfAll_4 l1 Q (L_X4_pullOfAll_4 l1 Q n) l2 l3 I J) : L_X4_pullOfAll_4 l1 Q (n + 1) l2 l3 I J := h
set_option maxHeartbeats 4000000 in
set_option maxRecDepth 100000 in
theorem fl_X4_pullOfAll_4 {l1 : Int} {P Q : Int → Ii → Jj → Prop} {I : Ii} {J : Jj} (hq : ∀ (v : Int), P v I J → Q v I J) : ∀ (n : Nat) (l2 : Int) (l3 : Int), L_X4_pullOfAll_4 l1 P n l2 l3 I J → L_X4_pullOfAll_4 l1 Q n l2 l3 I J := by
  intro n
  induction n with
  | zero => intro l2 l3 h; exact h
  | succ n ih =>
    intro l2 l3 h
    have h : Lb_X4_pullOfAll_4 l1 P (L_X4_pullOfAll_4 l1 P n) l2 l3 I J := h
    show Lb_X4_pullOfAll_4 l1 Q (L_X4_pullOfAll_4 l1 Q n) l2 l3 I J
    have hr4 := ih
    clear ih
    unfold Lb_X4_pullOfAll_4 at h ⊢
    obtain ⟨g, h⟩ := h
    refine ⟨g, ?_⟩
    obtain ⟨g, h⟩ := h
    refine ⟨g, ?_⟩
    refine ⟨fun c => ?_, fun c => ?_⟩
    · replace h := h.1 c
      exact hq _ h
    · replace h := h.2 c
      refine fr_X11_at h (fun v h => ?_)
      exact hr4 _ _ h
set_option maxHeartbeats 4000000 in
set_option maxRecDepth 100000 in
theorem fr_X4_pullOfAll {l1 : Int} {P Q : Int → Ii → Jj → Prop} {I : Ii} {J : Jj} (h : wp_X4_pullOfAll l1 I J P) (hq : ∀ (v : Int), P v I J → Q v I J) : wp_X4_pullOfAll l1 I J Q := by
  unfold wp_X4_pullOfAll at h ⊢
  obtain ⟨n, h⟩ := h
  exact ⟨n, fl_X4_pullOfAll_4 hq n _ _ h⟩
set_option maxHeartbeats 4000000 in
set_option maxRecDepth 100000 in
theorem fr_X4_gainOf {l1 : Int} {l2 : Int} {P Q : Int → Ii → Jj → Prop} {I : Ii} {J : Jj} (h : wp_X4_gainOf l1 l2 I J P) (hq : ∀ (v : Int), P v I J → Q v I J) : wp_X4_gainOf l1 l2 I J Q := by
  unfold wp_X4_gainOf at h ⊢
  refine fr_X11_at h (fun v h => ?_)
  refine fr_X11_at h (fun v h => ?_)
  refine fr_X11_at h (fun v h => ?_)
  exact hq _ h
set_option maxHeartbeats 4000000 in
set_option maxRecDepth 100000 in
theorem fr_X4_debtsWith {l1 : Int} {l2 : Int} {P Q : Int → Ii → Jj → Prop} {I : Ii} {J : Jj} (h : wp_X4_debtsWith l1 l2 I J P) (hq : ∀ (v : Int), P v I J → Q v I J) : wp_X4_debtsWith l1 l2 I J Q := by
  unfold wp_X4_debtsWith at h ⊢
  refine fr_X11_at h (fun v h => ?_)
  obtain ⟨g, h⟩ := h
  refine ⟨g, ?_⟩
  obtain ⟨g, h⟩ := h
  refine ⟨g, ?_⟩
  refine ⟨fun c => ?_, fun c => ?_⟩
  · replace h := h.1 c
    refine fr_X11_at h (fun v h => ?_)
    refine fr_X11_at h (fun v h => ?_)
    refine fr_X11_at h (fun v h => ?_)
    refine fr_X4_debtAt h (fun v h => ?_)
    refine fr_X4_debtAt h (fun v h => ?_)
    refine fr_X4_debtAt h (fun v h => ?_)
    refine fr_X4_debtAt h (fun v h => ?_)
    exact hq _ h
  · replace h := h.2 c
    exact hq _ h
set_option maxHeartbeats 4000000 in
set_option maxRecDepth 100000 in
theorem fr_X4_reasonAgainst {l1 : Int} {l2 : Int} {P Q : Int → Ii → Jj → Prop} {I : Ii} {J : Jj} (h : wp_X4_reasonAgainst l1 l2 I J P) (hq : ∀ (v : Int), P v I J → Q v I J) : wp_X4_reasonAgainst l1 l2 I J Q := by
  unfold wp_X4_reasonAgainst at h ⊢
  refine fr_X11_at h (fun v h => ?_)
  obtain ⟨g, h⟩ := h
  refine ⟨g, ?_⟩
  obtain ⟨g, h⟩ := h
  refine ⟨g, ?_⟩
  refine ⟨fun c => ?_, fun c => ?_⟩
  · replace h := h.1 c
    refine fr_X4_debtsWith h (fun v h => ?_)
    refine fr_X4_isTooMuch h (fun v h => ?_)
    refine ⟨fun c => ?_, fun c => ?_⟩
    · replace h := h.1 c
      exact hq _ h
    · replace h := h.2 c
      exact hq _ h
  · replace h := h.2 c
    exact hq _ h

