def W_X10_takes : Nat → Nat → Prop := WL [(101, 3), (101, 4), (101, 5), (101, 6), (101, 7), (101, 9), (101, 10), (101, 11)]
theorem W_X10_takes_n {k : Nat} (h : wlk [(101, 3), (101, 4), (101, 5), (101, 6), (101, 7), (101, 9), (101, 10), (101, 11)] k = false := by rfl) : ∀ i, ¬ W_X10_takes k i := WL_n h
set_option maxHeartbeats 4000000 in
set_option maxRecDepth 100000 in
theorem fr_X10_takes {l1 : Int} {P Q : Int → Ii → Jj → Prop} {I0 : Ii} {J0 : Jj} (h : wp_X10_takes l1 I0 J0 P) (hq : ∀ (v : Int) (I' : Ii) (J' : Jj), P v I' J' → Same (W_X10_takes) I0 J0 I' J' → Q v I' J') : wp_X10_takes l1 I0 J0 Q := by
  have hs := Same.rf (W := (W_X10_takes)) I0 J0
  unfold wp_X10_takes at h ⊢
  refine fr_X10_advance h (fun I2 J2 h hs2 => ?_)
  replace hs := hs.trans hs2 (WL_sub rfl)
  obtain ⟨g, h⟩ := h
  refine ⟨g, ?_⟩
  obtain ⟨g, h⟩ := h
  refine ⟨g, ?_⟩
  refine ⟨fun c => ?_, fun c => ?_⟩
  · replace h := h.1 c
    exact hq _ _ _ h hs
  · replace h := h.2 c
    refine fr_X10_fail h (fun v I2 J2 h hs2 => ?_)
    replace hs := hs.trans hs2 (WL_sub rfl)
    refine ⟨fun c => ?_, fun c => ?_⟩
    · replace h := h.1 c
      exact hq _ _ _ h hs
    · replace h := h.2 c
      exact hq _ _ _ h hs
def W_X10_takesNumber : Nat → Nat → Prop := WL [(101, 3), (101, 4), (101, 5), (101, 6), (101, 7), (101, 9), (101, 10), (101, 11)]
theorem W_X10_takesNumber_n {k : Nat} (h : wlk [(101, 3), (101, 4), (101, 5), (101, 6), (101, 7), (101, 9), (101, 10), (101, 11)] k = false := by rfl) : ∀ i, ¬ W_X10_takesNumber k i := WL_n h
set_option maxHeartbeats 4000000 in
set_option maxRecDepth 100000 in
theorem fb_X10_takesNumber_34 {l1 : Int} {l2 : Int} {P Q : Int → Ii → Jj → Prop} {I0 : Ii} {J0 : Jj} (hq : ∀ (v : Int) (I' : Ii) (J' : Jj), P v I' J' → Same (W_X10_takesNumber) I0 J0 I' J' → Q v I' J') {I : Ii} {J : Jj} (h : B_X10_takesNumber_34 l1 l2 P  I J) (hs : Same (W_X10_takesNumber) I0 J0 I J) : B_X10_takesNumber_34 l1 l2 Q  I J := by
  unfold B_X10_takesNumber_34 at h ⊢
  refine fr_X10_fail h (fun v I2 J2 h hs2 => ?_)
  replace hs := hs.trans hs2 (WL_sub rfl)
  refine ⟨fun c => ?_, fun c => ?_⟩
  · replace h := h.1 c
    exact hq _ _ _ h hs
  · replace h := h.2 c
    exact hq _ _ _ h hs
set_option maxHeartbeats 4000000 in
set_option maxRecDepth 100000 in
theorem fr_X10_takesNumber {l1 : Int} {l2 : Int} {P Q : Int → Ii → Jj → Prop} {I0 : Ii} {J0 : Jj} (h : wp_X10_takesNumber l1 l2 I0 J0 P) (hq : ∀ (v : Int) (I' : Ii) (J' : Jj), P v I' J' → Same (W_X10_takesNumber) I0 J0 I' J' → Q v I' J') : wp_X10_takesNumber l1 l2 I0 J0 Q := by
  have hs := Same.rf (W := (W_X10_takesNumber)) I0 J0
  unfold wp_X10_takesNumber at h ⊢
  refine fr_X10_advance h (fun I2 J2 h hs2 => ?_)
  replace hs := hs.trans hs2 (WL_sub rfl)
  obtain ⟨g, h⟩ := h
  refine ⟨g, ?_⟩
  refine ⟨fun c => ?_, fun c => ?_⟩
  · replace h := h.1 c
    obtain ⟨g, h⟩ := h
    refine ⟨g, ?_⟩
    obtain ⟨g, h⟩ := h
    refine ⟨g, ?_⟩
    refine ⟨fun c => ?_, fun c => ?_⟩
    · replace h := h.1 c
      exact fb_X10_takesNumber_34 hq h hs
    · replace h := h.2 c
      obtain ⟨g, h⟩ := h
      refine ⟨g, ?_⟩
      refine ⟨fun c => ?_, fun c => ?_⟩
      · replace h := h.1 c
        exact hq _ _ _ h hs
      · replace h := h.2 c
        exact fb_X10_takesNumber_34 hq h hs
  · replace h := h.2 c
    refine fr_X10_fail h (fun v I2 J2 h hs2 => ?_)
    replace hs := hs.trans hs2 (WL_sub rfl)
    obtain ⟨g, h⟩ := h
    refine ⟨g, ?_⟩
    exact hq _ _ _ h hs
set_option maxHeartbeats 4000000 in
set_option maxRecDepth 100000 in
theorem fb_X11_edge_15 {l1 : Int} {l2 : Int} {P Q : Int → Ii → Jj → Prop} {I : Ii} {J : Jj} (hq : ∀ (v : Int), P v I J → Q v I J) (h : B_X11_edge_15 l1 l2 P  I J) : B_X11_edge_15 l1 l2 Q  I J := by
  unfold B_X11_edge_15 at h ⊢
  exact False.elim h
set_option maxHeartbeats 4000000 in
set_option maxRecDepth 100000 in
theorem fr_X11_edge {l1 : Int} {l2 : Int} {P Q : Int → Ii → Jj → Prop} {I : Ii} {J : Jj} (h : wp_X11_edge l1 l2 I J P) (hq : ∀ (v : Int), P v I J → Q v I J) : wp_X11_edge l1 l2 I J Q := by
  unfold wp_X11_edge at h ⊢
  obtain ⟨g, h⟩ := h
  refine ⟨g, ?_⟩
  refine ⟨fun c => ?_, fun c => ?_⟩
  · replace h := h.1 c
    exact fb_X11_edge_15 hq h
  · replace h := h.2 c
    obtain ⟨g, h⟩ := h
    refine ⟨g, ?_⟩
    refine ⟨fun c => ?_, fun c => ?_⟩
    · replace h := h.1 c
      obtain ⟨g, h⟩ := h
      refine ⟨g, ?_⟩
      refine ⟨fun c => ?_, fun c => ?_, fun c => ?_, fun c => ?_, fun c => ?_⟩
      · replace h := h.1 c
        exact False.elim h
      · replace h := h.2.1 c
        refine fr_X11_at h (fun v h => ?_)
        exact hq _ h
      · replace h := h.2.2.1 c
        refine fr_X11_at h (fun v h => ?_)
        exact hq _ h
      · replace h := h.2.2.2.1 c
        refine fr_X11_at h (fun v h => ?_)
        exact hq _ h
      · replace h := h.2.2.2.2 c
        refine fr_X11_isCut h (fun v h => ?_)
        refine ⟨fun c => ?_, fun c => ?_⟩
        · replace h := h.1 c
          exact hq _ h
        · replace h := h.2 c
          exact hq _ h
    · replace h := h.2 c
      exact fb_X11_edge_15 hq h
set_option maxHeartbeats 4000000 in
set_option maxRecDepth 100000 in
theorem fr_X11_between {l1 : Int} {l2 : Int} {P Q : Int → Ii → Jj → Prop} {I : Ii} {J : Jj} (h : wp_X11_between l1 l2 I J P) (hq : ∀ (v : Int), P v I J → Q v I J) : wp_X11_between l1 l2 I J Q := by
  unfold wp_X11_between at h ⊢
  refine fr_X11_requireVertex h (fun h => ?_)
  refine fr_X11_requireVertex h (fun h => ?_)
  refine fr_X2_edgeOf h (fun v h => ?_)
  obtain ⟨g, h⟩ := h
  refine ⟨g, ?_⟩
  refine ⟨fun c => ?_, fun c => ?_⟩
  · replace h := h.1 c
    refine fr_X11_at h (fun v h => ?_)
    exact hq _ h
  · replace h := h.2 c
    exact hq _ h
def W_X11_flow : Nat → Nat → Prop := WL [(128, 3), (128, 4), (128, 5), (129, 1000), (130, 1000), (131, 1000)]
theorem W_X11_flow_n {k : Nat} (h : wlk [(128, 3), (128, 4), (128, 5), (129, 1000), (130, 1000), (131, 1000)] k = false := by rfl) : ∀ i, ¬ W_X11_flow k i := WL_n h
set_option maxHeartbeats 4000000 in
set_option maxRecDepth 100000 in
theorem fr_X11_flow {l1 : Int} {l2 : Int} {P Q : Int → Ii → Jj → Prop} {I0 : Ii} {J0 : Jj} (h : wp_X11_flow l1 l2 I0 J0 P) (hq : ∀ (v : Int) (I' : Ii) (J' : Jj), P v I' J' → Same (W_X11_flow) I0 J0 I' J' → Q v I' J') : wp_X11_flow l1 l2 I0 J0 Q := by
  have hs := Same.rf (W := (W_X11_flow)) I0 J0
  unfold wp_X11_flow at h ⊢
  refine fr_X11_requireVertex h (fun h => ?_)
  refine fr_X11_requireVertex h (fun h => ?_)
  obtain ⟨g, h⟩ := h
  refine ⟨g, ?_⟩
  obtain ⟨g, h⟩ := h
  refine ⟨g, ?_⟩
  refine ⟨fun c => ?_, fun c => ?_⟩
  · replace h := h.1 c
    refine fr_X1_run h (fun I2 J2 h hs2 => ?_)
    replace hs := hs.trans hs2 (WL_sub rfl)
    exact hq _ _ _ h hs
  · replace h := h.2 c
    exact hq _ _ _ h hs
def W_X11_side : Nat → Nat → Prop := WL [(128, 3), (128, 4), (128, 5), (129, 1000), (130, 1000), (131, 1000)]
theorem W_X11_side_n {k : Nat} (h : wlk [(128, 3), (128, 4), (128, 5), (129, 1000), (130, 1000), (131, 1000)] k = false := by rfl) : ∀ i, ¬ W_X11_side k i := WL_n h
set_option maxHeartbeats 4000000 in
set_option maxRecDepth 100000 in
theorem fr_X11_side {l1 : Int} {l2 : Int} {P Q : Int → Ii → Jj → Prop} {I0 : Ii} {J0 : Jj} (h : wp_X11_side l1 l2 I0 J0 P) (hq : ∀ (v : Int) (I' : Ii) (J' : Jj), P v I' J' → Same (W_X11_side) I0 J0 I' J' → Q v I' J') : wp_X11_side l1 l2 I0 J0 Q := by
  have hs := Same.rf (W := (W_X11_side)) I0 J0
  unfold wp_X11_side at h ⊢
  refine fr_X11_requireVertex h (fun h => ?_)
  refine fr_X11_requireVertex h (fun h => ?_)
  obtain ⟨g, h⟩ := h
  refine ⟨g, ?_⟩
  obtain ⟨g, h⟩ := h
  refine ⟨g, ?_⟩
  refine ⟨fun c => ?_, fun c => ?_⟩
  · replace h := h.1 c
    refine fr_X1_run h (fun I2 J2 h hs2 => ?_)
    replace hs := hs.trans hs2 (WL_sub rfl)
    exact hq _ _ _ h hs
  · replace h := h.2 c
    exact hq _ _ _ h hs
def W_X11_leastFlow : Nat → Nat → Prop := WL [(128, 3), (128, 4), (128, 5), (129, 1000), (130, 1000), (131, 1000)]
theorem W_X11_leastFlow_n {k : Nat} (h : wlk [(128, 3), (128, 4), (128, 5), (129, 1000), (130, 1000), (131, 1000)] k = false := by rfl) : ∀ i, ¬ W_X11_leastFlow k i := WL_n h
theorem ls_X11_leastFlow_4 {Q : Int → Ii → Jj → Prop} {n : Nat} {l1 : Int} {l2 : Int} {I : Ii} {J : Jj} (h : Lb_X11_leastFlow_4 Q (L_X11_leastFlow_4 Q n) l1 l2 I J) : L_X11_leastFlow_4 Q (n + 1) l1 l2 I J := h
set_option maxHeartbeats 4000000 in
set_option maxRecDepth 100000 in
theorem fl_X11_leastFlow_4 {P Q : Int → Ii → Jj → Prop} {I0 : Ii} {J0 : Jj} (hq : ∀ (v : Int) (I' : Ii) (J' : Jj), P v I' J' → Same (W_X11_leastFlow) I0 J0 I' J' → Q v I' J') : ∀ (n : Nat) (l1 : Int) (l2 : Int) (I : Ii) (J : Jj), L_X11_leastFlow_4 P n l1 l2 I J → Same (W_X11_leastFlow) I0 J0 I J → L_X11_leastFlow_4 Q n l1 l2 I J := by
  intro n
  induction n with
  | zero => intro l1 l2 I J h _; exact h
  | succ n ih =>
    intro l1 l2 I J h hs
    have h : Lb_X11_leastFlow_4 P (L_X11_leastFlow_4 P n) l1 l2 I J := h
    show Lb_X11_leastFlow_4 Q (L_X11_leastFlow_4 Q n) l1 l2 I J
    have hr4 := ih
    clear ih
    unfold Lb_X11_leastFlow_4 at h ⊢
    obtain ⟨g, h⟩ := h
    refine ⟨g, ?_⟩
    obtain ⟨g, h⟩ := h
    refine ⟨g, ?_⟩
    refine ⟨fun c => ?_, fun c => ?_⟩
    · replace h := h.1 c
      exact hq _ _ _ h hs
    · replace h := h.2 c
      refine fr_X1_run h (fun I2 J2 h hs2 => ?_)
      replace hs := hs.trans hs2 (WL_sub rfl)
      obtain ⟨g, h⟩ := h
      refine ⟨g, ?_⟩
      refine ⟨fun c => ?_, fun c => ?_⟩
      · replace h := h.1 c
        exact hr4 _ _ _ _ h hs
      · replace h := h.2 c
        obtain ⟨g, h⟩ := h
        refine ⟨g, ?_⟩
        refine ⟨fun c => ?_, fun c => ?_⟩
        · replace h := h.1 c
          exact hr4 _ _ _ _ h hs
        · replace h := h.2 c
          exact hr4 _ _ _ _ h hs
set_option maxHeartbeats 4000000 in
set_option maxRecDepth 100000 in
theorem fr_X11_leastFlow {P Q : Int → Ii → Jj → Prop} {I0 : Ii} {J0 : Jj} (h : wp_X11_leastFlow I0 J0 P) (hq : ∀ (v : Int) (I' : Ii) (J' : Jj), P v I' J' → Same (W_X11_leastFlow) I0 J0 I' J' → Q v I' J') : wp_X11_leastFlow I0 J0 Q := by
  have hs := Same.rf (W := (W_X11_leastFlow)) I0 J0
  unfold wp_X11_leastFlow at h ⊢
  obtain ⟨n, h⟩ := h
  exact ⟨n, fl_X11_leastFlow_4 hq n _ _ _ _ h hs⟩
def W_X11_part : Nat → Nat → Prop := WL [(113, 0), (113, 1), (113, 2), (113, 3), (113, 4), (113, 5), (114, 1000), (115, 1000), (116, 1000), (117, 1000), (118, 1000), (119, 1000)]
theorem W_X11_part_n {k : Nat} (h : wlk [(113, 0), (113, 1), (113, 2), (113, 3), (113, 4), (113, 5), (114, 1000), (115, 1000), (116, 1000), (117, 1000), (118, 1000), (119, 1000)] k = false := by rfl) : ∀ i, ¬ W_X11_part k i := WL_n h
set_option maxHeartbeats 4000000 in
set_option maxRecDepth 100000 in
theorem fr_X11_part {l1 : Int} {l2 : Int} {P Q : Int → Ii → Jj → Prop} {I0 : Ii} {J0 : Jj} (h : wp_X11_part l1 l2 I0 J0 P) (hq : ∀ (v : Int) (I' : Ii) (J' : Jj), P v I' J' → Same (W_X11_part) I0 J0 I' J' → Q v I' J') : wp_X11_part l1 l2 I0 J0 Q := by
  have hs := Same.rf (W := (W_X11_part)) I0 J0
  unfold wp_X11_part at h ⊢
  refine fr_X11_requirePart h (fun h => ?_)
  refine fr_X4_take h (fun I2 J2 h hs2 => ?_)
  replace hs := hs.trans hs2 (WL_sub rfl)
  obtain ⟨g, h⟩ := h
  refine ⟨g, ?_⟩
  refine ⟨fun c => ?_, fun c => ?_, fun c => ?_, fun c => ?_, fun c => ?_, fun c => ?_⟩
  · replace h := h.1 c
    exact False.elim h
  · replace h := h.2.1 c
    refine fr_X11_at h (fun v h => ?_)
    exact hq _ _ _ h hs
  · replace h := h.2.2.1 c
    refine fr_X11_at h (fun v h => ?_)
    refine fr_X4_debtAt h (fun v h => ?_)
    exact hq _ _ _ h hs
  · replace h := h.2.2.2.1 c
    refine fr_X11_at h (fun v h => ?_)
    exact hq _ _ _ h hs
  · replace h := h.2.2.2.2.1 c
    refine fr_X11_at h (fun v h => ?_)
    refine fr_X2_pieces h (fun v h => ?_)
    exact hq _ _ _ h hs
  · replace h := h.2.2.2.2.2 c
    refine fr_X11_cutAround h (fun v h => ?_)
    exact hq _ _ _ h hs
def W_X11_cut : Nat → Nat → Prop := WL [(113, 0), (113, 1), (113, 2), (113, 3), (113, 4), (113, 5), (114, 1000), (115, 1000), (116, 1000), (117, 1000), (118, 1000), (119, 1000)]
theorem W_X11_cut_n {k : Nat} (h : wlk [(113, 0), (113, 1), (113, 2), (113, 3), (113, 4), (113, 5), (114, 1000), (115, 1000), (116, 1000), (117, 1000), (118, 1000), (119, 1000)] k = false := by rfl) : ∀ i, ¬ W_X11_cut k i := WL_n h
set_option maxHeartbeats 4000000 in
set_option maxRecDepth 100000 in
theorem fr_X11_cut {P Q : Int → Ii → Jj → Prop} {I0 : Ii} {J0 : Jj} (h : wp_X11_cut I0 J0 P) (hq : ∀ (v : Int) (I' : Ii) (J' : Jj), P v I' J' → Same (W_X11_cut) I0 J0 I' J' → Q v I' J') : wp_X11_cut I0 J0 Q := by
  have hs := Same.rf (W := (W_X11_cut)) I0 J0
  unfold wp_X11_cut at h ⊢
  refine fr_X4_take h (fun I2 J2 h hs2 => ?_)
  replace hs := hs.trans hs2 (WL_sub rfl)
  exact hq _ _ _ h hs
def W_X11_debts : Nat → Nat → Prop := WL [(113, 0), (113, 1), (113, 2), (113, 3), (113, 4), (113, 5), (114, 1000), (115, 1000), (116, 1000), (117, 1000), (118, 1000), (119, 1000)]
theorem W_X11_debts_n {k : Nat} (h : wlk [(113, 0), (113, 1), (113, 2), (113, 3), (113, 4), (113, 5), (114, 1000), (115, 1000), (116, 1000), (117, 1000), (118, 1000), (119, 1000)] k = false := by rfl) : ∀ i, ¬ W_X11_debts k i := WL_n h
set_option maxHeartbeats 4000000 in
set_option maxRecDepth 100000 in
theorem fr_X11_debts {P Q : Int → Ii → Jj → Prop} {I0 : Ii} {J0 : Jj} (h : wp_X11_debts I0 J0 P) (hq : ∀ (v : Int) (I' : Ii) (J' : Jj), P v I' J' → Same (W_X11_debts) I0 J0 I' J' → Q v I' J') : wp_X11_debts I0 J0 Q := by
  have hs := Same.rf (W := (W_X11_debts)) I0 J0
  unfold wp_X11_debts at h ⊢
  refine fr_X4_take h (fun I2 J2 h hs2 => ?_)
  replace hs := hs.trans hs2 (WL_sub rfl)
  exact hq _ _ _ h hs
def W_X11_heaviest : Nat → Nat → Prop := WL [(113, 0), (113, 1), (113, 2), (113, 3), (113, 4), (113, 5), (114, 1000), (115, 1000), (116, 1000), (117, 1000), (118, 1000), (119, 1000)]
theorem W_X11_heaviest_n {k : Nat} (h : wlk [(113, 0), (113, 1), (113, 2), (113, 3), (113, 4), (113, 5), (114, 1000), (115, 1000), (116, 1000), (117, 1000), (118, 1000), (119, 1000)] k = false := by rfl) : ∀ i, ¬ W_X11_heaviest k i := WL_n h
set_option maxHeartbeats 4000000 in
set_option maxRecDepth 100000 in
theorem fr_X11_heaviest {P Q : Int → Ii → Jj → Prop} {I0 : Ii} {J0 : Jj} (h : wp_X11_heaviest I0 J0 P) (hq : ∀ (v : Int) (I' : Ii) (J' : Jj), P v I' J' → Same (W_X11_heaviest) I0 J0 I' J' → Q v I' J') : wp_X11_heaviest I0 J0 Q := by
  have hs := Same.rf (W := (W_X11_heaviest)) I0 J0
  unfold wp_X11_heaviest at h ⊢
  refine fr_X4_take h (fun I2 J2 h hs2 => ?_)
  replace hs := hs.trans hs2 (WL_sub rfl)
  refine fr_X4_heaviestPart h (fun v h => ?_)
  exact hq _ _ _ h hs
def W_X11_group : Nat → Nat → Prop := WL [(113, 0), (113, 1), (113, 2), (113, 3), (113, 4), (113, 5), (114, 1000), (115, 1000), (116, 1000), (117, 1000), (118, 1000), (119, 1000)]
theorem W_X11_group_n {k : Nat} (h : wlk [(113, 0), (113, 1), (113, 2), (113, 3), (113, 4), (113, 5), (114, 1000), (115, 1000), (116, 1000), (117, 1000), (118, 1000), (119, 1000)] k = false := by rfl) : ∀ i, ¬ W_X11_group k i := WL_n h
set_option maxHeartbeats 4000000 in
set_option maxRecDepth 100000 in
theorem fr_X11_group {l1 : Int} {l2 : Int} {P Q : Int → Ii → Jj → Prop} {I0 : Ii} {J0 : Jj} (h : wp_X11_group l1 l2 I0 J0 P) (hq : ∀ (v : Int) (I' : Ii) (J' : Jj), P v I' J' → Same (W_X11_group) I0 J0 I' J' → Q v I' J') : wp_X11_group l1 l2 I0 J0 Q := by
  have hs := Same.rf (W := (W_X11_group)) I0 J0
  unfold wp_X11_group at h ⊢
  refine fr_X11_requireGroup h (fun h => ?_)
  refine fr_X4_take h (fun I2 J2 h hs2 => ?_)
  replace hs := hs.trans hs2 (WL_sub rfl)
  obtain ⟨g, h⟩ := h
  refine ⟨g, ?_⟩
  refine ⟨fun c => ?_, fun c => ?_, fun c => ?_, fun c => ?_, fun c => ?_⟩
  · replace h := h.1 c
    exact False.elim h
  · replace h := h.2.1 c
    refine fr_X11_at h (fun v h => ?_)
    exact hq _ _ _ h hs
  · replace h := h.2.2.1 c
    refine fr_X11_at h (fun v h => ?_)
    exact hq _ _ _ h hs
  · replace h := h.2.2.2.1 c
    refine fr_X11_at h (fun v h => ?_)
    exact hq _ _ _ h hs
  · replace h := h.2.2.2.2 c
    refine fr_X4_pullOfAll h (fun v h => ?_)
    exact hq _ _ _ h hs
def W_X11_findPairs : Nat → Nat → Prop := WL [(113, 0), (113, 1), (113, 2), (113, 3), (113, 4), (113, 5), (114, 1000), (115, 1000), (116, 1000), (117, 1000), (118, 1000), (119, 1000), (120, 4), (121, 1000), (122, 1000)]
theorem W_X11_findPairs_n {k : Nat} (h : wlk [(113, 0), (113, 1), (113, 2), (113, 3), (113, 4), (113, 5), (114, 1000), (115, 1000), (116, 1000), (117, 1000), (118, 1000), (119, 1000), (120, 4), (121, 1000), (122, 1000)] k = false := by rfl) : ∀ i, ¬ W_X11_findPairs k i := WL_n h
set_option maxHeartbeats 4000000 in
set_option maxRecDepth 100000 in
theorem fr_X11_findPairs {P Q : Ii → Jj → Prop} {I0 : Ii} {J0 : Jj} (h : wp_X11_findPairs I0 J0 P) (hq : ∀ (I' : Ii) (J' : Jj), P I' J' → Same (W_X11_findPairs) I0 J0 I' J' → Q I' J') : wp_X11_findPairs I0 J0 Q := by
  have hs := Same.rf (W := (W_X11_findPairs)) I0 J0
  unfold wp_X11_findPairs at h ⊢
  refine fr_X4_take h (fun I2 J2 h hs2 => ?_)
  replace hs := hs.trans hs2 (WL_sub rfl)
  refine fr_X5_join h (fun I2 J2 h hs2 => ?_)
  replace hs := hs.trans hs2 (WL_sub rfl)
  refine fr_X5_findMates h (fun I2 J2 h hs2 => ?_)
  replace hs := hs.trans hs2 (WL_sub rfl)
  exact hq _ _ h hs
def W_X11_mate : Nat → Nat → Prop := WL [(113, 0), (113, 1), (113, 2), (113, 3), (113, 4), (113, 5), (114, 1000), (115, 1000), (116, 1000), (117, 1000), (118, 1000), (119, 1000), (120, 4), (121, 1000), (122, 1000)]
theorem W_X11_mate_n {k : Nat} (h : wlk [(113, 0), (113, 1), (113, 2), (113, 3), (113, 4), (113, 5), (114, 1000), (115, 1000), (116, 1000), (117, 1000), (118, 1000), (119, 1000), (120, 4), (121, 1000), (122, 1000)] k = false := by rfl) : ∀ i, ¬ W_X11_mate k i := WL_n h
set_option maxHeartbeats 4000000 in
set_option maxRecDepth 100000 in
theorem fr_X11_mate {l1 : Int} {P Q : Int → Ii → Jj → Prop} {I0 : Ii} {J0 : Jj} (h : wp_X11_mate l1 I0 J0 P) (hq : ∀ (v : Int) (I' : Ii) (J' : Jj), P v I' J' → Same (W_X11_mate) I0 J0 I' J' → Q v I' J') : wp_X11_mate l1 I0 J0 Q := by
  have hs := Same.rf (W := (W_X11_mate)) I0 J0
  unfold wp_X11_mate at h ⊢
  refine fr_X11_requireGroup h (fun h => ?_)
  refine fr_X11_findPairs h (fun I2 J2 h hs2 => ?_)
  replace hs := hs.trans hs2 (WL_sub rfl)
  refine fr_X11_at h (fun v h => ?_)
  exact hq _ _ _ h hs
def W_X11_gain : Nat → Nat → Prop := WL [(113, 0), (113, 1), (113, 2), (113, 3), (113, 4), (113, 5), (114, 1000), (115, 1000), (116, 1000), (117, 1000), (118, 1000), (119, 1000)]
theorem W_X11_gain_n {k : Nat} (h : wlk [(113, 0), (113, 1), (113, 2), (113, 3), (113, 4), (113, 5), (114, 1000), (115, 1000), (116, 1000), (117, 1000), (118, 1000), (119, 1000)] k = false := by rfl) : ∀ i, ¬ W_X11_gain k i := WL_n h
set_option maxHeartbeats 4000000 in
set_option maxRecDepth 100000 in
theorem fr_X11_gain {l1 : Int} {l2 : Int} {P Q : Int → Ii → Jj → Prop} {I0 : Ii} {J0 : Jj} (h : wp_X11_gain l1 l2 I0 J0 P) (hq : ∀ (v : Int) (I' : Ii) (J' : Jj), P v I' J' → Same (W_X11_gain) I0 J0 I' J' → Q v I' J') : wp_X11_gain l1 l2 I0 J0 Q := by
  have hs := Same.rf (W := (W_X11_gain)) I0 J0
  unfold wp_X11_gain at h ⊢
  refine fr_X11_requireGroup h (fun h => ?_)
  refine fr_X11_requirePart h (fun h => ?_)
  refine fr_X4_take h (fun I2 J2 h hs2 => ?_)
  replace hs := hs.trans hs2 (WL_sub rfl)
  refine fr_X4_gainOf h (fun v h => ?_)
  exact hq _ _ _ h hs
def W_X11_whyNotMove : Nat → Nat → Prop := WL [(113, 0), (113, 1), (113, 2), (113, 3), (113, 4), (113, 5), (114, 1000), (115, 1000), (116, 1000), (117, 1000), (118, 1000), (119, 1000)]
theorem W_X11_whyNotMove_n {k : Nat} (h : wlk [(113, 0), (113, 1), (113, 2), (113, 3), (113, 4), (113, 5), (114, 1000), (115, 1000), (116, 1000), (117, 1000), (118, 1000), (119, 1000)] k = false := by rfl) : ∀ i, ¬ W_X11_whyNotMove k i := WL_n h
set_option maxHeartbeats 4000000 in
set_option maxRecDepth 100000 in
theorem fr_X11_whyNotMove {l1 : Int} {l2 : Int} {P Q : Int → Ii → Jj → Prop} {I0 : Ii} {J0 : Jj} (h : wp_X11_whyNotMove l1 l2 I0 J0 P) (hq : ∀ (v : Int) (I' : Ii) (J' : Jj), P v I' J' → Same (W_X11_whyNotMove) I0 J0 I' J' → Q v I' J') : wp_X11_whyNotMove l1 l2 I0 J0 Q := by
  have hs := Same.rf (W := (W_X11_whyNotMove)) I0 J0
  unfold wp_X11_whyNotMove at h ⊢
  refine fr_X11_requireGroup h (fun h => ?_)
  refine fr_X11_requirePart h (fun h => ?_)
  refine fr_X4_take h (fun I2 J2 h hs2 => ?_)
  replace hs := hs.trans hs2 (WL_sub rfl)
  refine fr_X4_reasonAgainst h (fun v h => ?_)
  exact hq _ _ _ h hs
def W_X11_debtsIf : Nat → Nat → Prop := WL [(113, 0), (113, 1), (113, 2), (113, 3), (113, 4), (113, 5), (114, 1000), (115, 1000), (116, 1000), (117, 1000), (118, 1000), (119, 1000)]
theorem W_X11_debtsIf_n {k : Nat} (h : wlk [(113, 0), (113, 1), (113, 2), (113, 3), (113, 4), (113, 5), (114, 1000), (115, 1000), (116, 1000), (117, 1000), (118, 1000), (119, 1000)] k = false := by rfl) : ∀ i, ¬ W_X11_debtsIf k i := WL_n h
set_option maxHeartbeats 4000000 in
set_option maxRecDepth 100000 in
theorem fr_X11_debtsIf {l1 : Int} {l2 : Int} {P Q : Int → Ii → Jj → Prop} {I0 : Ii} {J0 : Jj} (h : wp_X11_debtsIf l1 l2 I0 J0 P) (hq : ∀ (v : Int) (I' : Ii) (J' : Jj), P v I' J' → Same (W_X11_debtsIf) I0 J0 I' J' → Q v I' J') : wp_X11_debtsIf l1 l2 I0 J0 Q := by
  have hs := Same.rf (W := (W_X11_debtsIf)) I0 J0
  unfold wp_X11_debtsIf at h ⊢
  refine fr_X11_requireGroup h (fun h => ?_)
  refine fr_X11_requirePart h (fun h => ?_)
  refine fr_X4_take h (fun I2 J2 h hs2 => ?_)
  replace hs := hs.trans hs2 (WL_sub rfl)
  refine fr_X4_debtsWith h (fun v h => ?_)
  exact hq _ _ _ h hs
def W_X11_nextStep : Nat → Nat → Prop := WL [(113, 0), (113, 1), (113, 2), (113, 3), (113, 4), (113, 5), (114, 1000), (115, 1000), (116, 1000), (117, 1000), (118, 1000), (119, 1000)]
theorem W_X11_nextStep_n {k : Nat} (h : wlk [(113, 0), (113, 1), (113, 2), (113, 3), (113, 4), (113, 5), (114, 1000), (115, 1000), (116, 1000), (117, 1000), (118, 1000), (119, 1000)] k = false := by rfl) : ∀ i, ¬ W_X11_nextStep k i := WL_n h
set_option maxHeartbeats 4000000 in
set_option maxRecDepth 100000 in
theorem fr_X11_nextStep {P Q : Int → Ii → Jj → Prop} {I0 : Ii} {J0 : Jj} (h : wp_X11_nextStep I0 J0 P) (hq : ∀ (v : Int) (I' : Ii) (J' : Jj), P v I' J' → Same (W_X11_nextStep) I0 J0 I' J' → Q v I' J') : wp_X11_nextStep I0 J0 Q := by
  have hs := Same.rf (W := (W_X11_nextStep)) I0 J0
  unfold wp_X11_nextStep at h ⊢
  refine fr_X4_take h (fun I2 J2 h hs2 => ?_)
  replace hs := hs.trans hs2 (WL_sub rfl)
  refine fr_X4_chosenStep h (fun v h => ?_)
  exact hq _ _ _ h hs
def W_X11_mergeGroups : Nat → Nat → Prop := WL [(113, 0), (113, 1), (113, 2), (113, 3), (113, 4), (113, 5), (114, 1000), (115, 1000), (116, 1000), (117, 1000), (118, 1000), (119, 1000), (120, 3), (120, 4), (121, 1000), (122, 1000), (123, 1000), (300, 0), (300 + 2, 1000), (300 + 3, 1000)]
theorem W_X11_mergeGroups_n {k : Nat} (h : wlk [(113, 0), (113, 1), (113, 2), (113, 3), (113, 4), (113, 5), (114, 1000), (115, 1000), (116, 1000), (117, 1000), (118, 1000), (119, 1000), (120, 3), (120, 4), (121, 1000), (122, 1000), (123, 1000), (300, 0), (300 + 2, 1000), (300 + 3, 1000)] k = false := by rfl) : ∀ i, ¬ W_X11_mergeGroups k i := WL_n h
set_option maxHeartbeats 4000000 in
set_option maxRecDepth 100000 in
theorem fr_X11_mergeGroups {P Q : Ii → Jj → Prop} {I0 : Ii} {J0 : Jj} (h : wp_X11_mergeGroups I0 J0 P) (hq : ∀ (I' : Ii) (J' : Jj), P I' J' → Same (W_X11_mergeGroups) I0 J0 I' J' → Q I' J') : wp_X11_mergeGroups I0 J0 Q := by
  have hs := Same.rf (W := (W_X11_mergeGroups)) I0 J0
  unfold wp_X11_mergeGroups at h ⊢
  refine fr_X11_findPairs h (fun I2 J2 h hs2 => ?_)
  replace hs := hs.trans hs2 (WL_sub rfl)
  refine fr_X5_numberMerged h (fun I2 J2 h hs2 => ?_)
  replace hs := hs.trans hs2 (WL_sub rfl)
  refine fr_X8_raiseLevel h (fun I2 J2 h hs2 => ?_)
  replace hs := hs.trans hs2 (WL_sub rfl)
  exact hq _ _ h hs
def W_X11_takeTo : Nat → Nat → Prop := WL [(113, 0), (113, 1), (113, 2), (113, 3), (113, 4), (113, 5), (114, 1000), (115, 1000), (116, 1000), (117, 1000), (118, 1000), (119, 1000), (300, 2), (300 + 1, 1000), (300 + 4, 1000)]
theorem W_X11_takeTo_n {k : Nat} (h : wlk [(113, 0), (113, 1), (113, 2), (113, 3), (113, 4), (113, 5), (114, 1000), (115, 1000), (116, 1000), (117, 1000), (118, 1000), (119, 1000), (300, 2), (300 + 1, 1000), (300 + 4, 1000)] k = false := by rfl) : ∀ i, ¬ W_X11_takeTo k i := WL_n h
set_option maxHeartbeats 4000000 in
set_option maxRecDepth 100000 in
theorem fr_X11_takeTo {l1 : Int} {l2 : Int} {P Q : Ii → Jj → Prop} {I0 : Ii} {J0 : Jj} (h : wp_X11_takeTo l1 l2 I0 J0 P) (hq : ∀ (I' : Ii) (J' : Jj), P I' J' → Same (W_X11_takeTo) I0 J0 I' J' → Q I' J') : wp_X11_takeTo l1 l2 I0 J0 Q := by
  have hs := Same.rf (W := (W_X11_takeTo)) I0 J0
  unfold wp_X11_takeTo at h ⊢
  refine fr_X4_take h (fun I2 J2 h hs2 => ?_)
  replace hs := hs.trans hs2 (WL_sub rfl)
  refine fr_X11_transfer h (fun I2 J2 h hs2 => ?_)
  replace hs := hs.trans hs2 (WL_sub rfl)
  exact hq _ _ h hs
def W_X11_makeSteps (k1 : Nat) : Nat → Nat → Prop := WL [(113, 0), (113, 1), (113, 2), (113, 3), (113, 4), (113, 5), (114, 1000), (115, 1000), (116, 1000), (117, 1000), (118, 1000), (119, 1000), (k1, 2), (k1 + 1, 1000), (k1 + 4, 1000)]
theorem W_X11_makeSteps_n {k1 : Nat} {k : Nat} (h : wlk [(113, 0), (113, 1), (113, 2), (113, 3), (113, 4), (113, 5), (114, 1000), (115, 1000), (116, 1000), (117, 1000), (118, 1000), (119, 1000), (k1, 2), (k1 + 1, 1000), (k1 + 4, 1000)] k = false := by rfl) : ∀ i, ¬ W_X11_makeSteps k1 k i := WL_n h
theorem ls_X11_makeSteps_2 {k1 : Nat} {l2 : Int} {Q : Int → Ii → Jj → Prop} {n : Nat} {l3 : Int} {I : Ii} {J : Jj} (h : Lb_X11_makeSteps_2 k1 l2 Q (L_X11_makeSteps_2 k1 l2 Q n) l3 I J) : L_X11_makeSteps_2 k1 l2 Q (n + 1) l3 I J := h
set_option maxHeartbeats 4000000 in
set_option maxRecDepth 100000 in
theorem fl_X11_makeSteps_2 {k1 : Nat} {l2 : Int} {P Q : Int → Ii → Jj → Prop} {I0 : Ii} {J0 : Jj} (hq : ∀ (v : Int) (I' : Ii) (J' : Jj), P v I' J' → Same (W_X11_makeSteps k1) I0 J0 I' J' → Q v I' J') : ∀ (n : Nat) (l3 : Int) (I : Ii) (J : Jj), L_X11_makeSteps_2 k1 l2 P n l3 I J → Same (W_X11_makeSteps k1) I0 J0 I J → L_X11_makeSteps_2 k1 l2 Q n l3 I J := by
  intro n
  induction n with
  | zero => intro l3 I J h _; exact h
  | succ n ih =>
    intro l3 I J h hs
    have h : Lb_X11_makeSteps_2 k1 l2 P (L_X11_makeSteps_2 k1 l2 P n) l3 I J := h
    show Lb_X11_makeSteps_2 k1 l2 Q (L_X11_makeSteps_2 k1 l2 Q n) l3 I J
    have hr2 := ih
    clear ih
    unfold Lb_X11_makeSteps_2 at h ⊢
    obtain ⟨g, h⟩ := h
    refine ⟨g, ?_⟩
    obtain ⟨g, h⟩ := h
    refine ⟨g, ?_⟩
    refine ⟨fun c => ?_, fun c => ?_⟩
    · replace h := h.1 c
      exact hq _ _ _ h hs
    · replace h := h.2 c
      refine fr_X4_take h (fun I2 J2 h hs2 => ?_)
      replace hs := hs.trans hs2 (by first | exact WL_sub rfl | exact WL_any (by simp [wls, wl, WL]))
      refine fr_X4_chosenStep h (fun v h => ?_)
      obtain ⟨g, h⟩ := h
      refine ⟨g, ?_⟩
      refine ⟨fun c => ?_, fun c => ?_⟩
      · replace h := h.1 c
        obtain ⟨g, h⟩ := h
        refine ⟨g, ?_⟩
        obtain ⟨g, h⟩ := h
        refine ⟨g, ?_⟩
        refine fr_X11_transfer h (fun I2 J2 h hs2 => ?_)
        replace hs := hs.trans hs2 (by first | exact WL_sub rfl | exact WL_any (by simp [wls, wl, WL]))
        exact hr2 _ _ _ h hs
      · replace h := h.2 c
        exact hq _ _ _ h hs
set_option maxHeartbeats 4000000 in
set_option maxRecDepth 100000 in
theorem fr_X11_makeSteps {k1 : Nat} {l2 : Int} {P Q : Int → Ii → Jj → Prop} {I0 : Ii} {J0 : Jj} (h : wp_X11_makeSteps k1 l2 I0 J0 P) (hq : ∀ (v : Int) (I' : Ii) (J' : Jj), P v I' J' → Same (W_X11_makeSteps k1) I0 J0 I' J' → Q v I' J') : wp_X11_makeSteps k1 l2 I0 J0 Q := by
  have hs := Same.rf (W := (W_X11_makeSteps k1)) I0 J0
  unfold wp_X11_makeSteps at h ⊢
  obtain ⟨g, h⟩ := h
  refine ⟨g, ?_⟩
  obtain ⟨n, h⟩ := h
  exact ⟨n, fl_X11_makeSteps_2 hq n _ _ _ h hs⟩
def W_X11_takeBest : Nat → Nat → Prop := WL [(113, 0), (113, 1), (113, 2), (113, 3), (113, 4), (113, 5), (114, 1000), (115, 1000), (116, 1000), (117, 1000), (118, 1000), (119, 1000), (300, 2), (300 + 1, 1000), (300 + 4, 1000)]
theorem W_X11_takeBest_n {k : Nat} (h : wlk [(113, 0), (113, 1), (113, 2), (113, 3), (113, 4), (113, 5), (114, 1000), (115, 1000), (116, 1000), (117, 1000), (118, 1000), (119, 1000), (300, 2), (300 + 1, 1000), (300 + 4, 1000)] k = false := by rfl) : ∀ i, ¬ W_X11_takeBest k i := WL_n h
theorem ls_X11_takeBest_12 {Q : Int → Ii → Jj → Prop} {n : Nat} {l1 : Int} {l2 : Int} {l3 : Int} {I : Ii} {J : Jj} (h : Lb_X11_takeBest_12 Q (L_X11_takeBest_12 Q n) l1 l2 l3 I J) : L_X11_takeBest_12 Q (n + 1) l1 l2 l3 I J := h
set_option maxHeartbeats 4000000 in
set_option maxRecDepth 100000 in
theorem fl_X11_takeBest_12 {P Q : Int → Ii → Jj → Prop} {I0 : Ii} {J0 : Jj} (hq : ∀ (v : Int) (I' : Ii) (J' : Jj), P v I' J' → Same (W_X11_takeBest) I0 J0 I' J' → Q v I' J') : ∀ (n : Nat) (l1 : Int) (l2 : Int) (l3 : Int) (I : Ii) (J : Jj), L_X11_takeBest_12 P n l1 l2 l3 I J → Same (W_X11_takeBest) I0 J0 I J → L_X11_takeBest_12 Q n l1 l2 l3 I J := by
  intro n
  induction n with
  | zero => intro l1 l2 l3 I J h _; exact h
  | succ n ih =>
    intro l1 l2 l3 I J h hs
    have h : Lb_X11_takeBest_12 P (L_X11_takeBest_12 P n) l1 l2 l3 I J := h
    show Lb_X11_takeBest_12 Q (L_X11_takeBest_12 Q n) l1 l2 l3 I J
    have hr12 := ih
    clear ih
    unfold Lb_X11_takeBest_12 at h ⊢
    obtain ⟨g, h⟩ := h
    refine ⟨g, ?_⟩
    obtain ⟨g, h⟩ := h
    refine ⟨g, ?_⟩
    refine ⟨fun c => ?_, fun c => ?_⟩
    · replace h := h.1 c
      exact hq _ _ _ h hs
    · replace h := h.2 c
      refine fr_X11_at h (fun v h => ?_)
      refine fr_X11_at h (fun v h => ?_)
      obtain ⟨g, h⟩ := h
      refine ⟨g, ?_⟩
      obtain ⟨g, h⟩ := h
      refine ⟨g, ?_⟩
      refine ⟨fun c => ?_, fun c => ?_⟩
      · replace h := h.1 c
        exact hr12 _ _ _ _ _ h hs
      · replace h := h.2 c
        refine fr_X11_takeTo h (fun I2 J2 h hs2 => ?_)
        replace hs := hs.trans hs2 (WL_sub rfl)
        exact hr12 _ _ _ _ _ h hs
set_option maxHeartbeats 4000000 in
set_option maxRecDepth 100000 in
theorem fr_X11_takeBest {P Q : Int → Ii → Jj → Prop} {I0 : Ii} {J0 : Jj} (h : wp_X11_takeBest I0 J0 P) (hq : ∀ (v : Int) (I' : Ii) (J' : Jj), P v I' J' → Same (W_X11_takeBest) I0 J0 I' J' → Q v I' J') : wp_X11_takeBest I0 J0 Q := by
  have hs := Same.rf (W := (W_X11_takeBest)) I0 J0
  unfold wp_X11_takeBest at h ⊢
  refine fr_X8_groupCount h (fun v h => ?_)
  obtain ⟨n, h⟩ := h
  exact ⟨n, fl_X11_takeBest_12 hq n _ _ _ _ _ h hs⟩
def W_X11_takeApart : Nat → Nat → Prop := WL [(113, 0), (113, 1), (113, 2), (113, 3), (113, 4), (113, 5), (114, 1000), (115, 1000), (116, 1000), (117, 1000), (118, 1000), (119, 1000), (128, 3), (128, 4), (128, 5), (129, 1000), (130, 1000), (131, 1000), (300, 2), (300 + 1, 1000), (300 + 4, 1000)]
theorem W_X11_takeApart_n {k : Nat} (h : wlk [(113, 0), (113, 1), (113, 2), (113, 3), (113, 4), (113, 5), (114, 1000), (115, 1000), (116, 1000), (117, 1000), (118, 1000), (119, 1000), (128, 3), (128, 4), (128, 5), (129, 1000), (130, 1000), (131, 1000), (300, 2), (300 + 1, 1000), (300 + 4, 1000)] k = false := by rfl) : ∀ i, ¬ W_X11_takeApart k i := WL_n h
set_option maxHeartbeats 4000000 in
set_option maxRecDepth 100000 in
theorem fb_X11_takeApart_50 {l1 : Int} {l2 : Int} {P Q : Int → Ii → Jj → Prop} {I0 : Ii} {J0 : Jj} (hq : ∀ (v : Int) (I' : Ii) (J' : Jj), P v I' J' → Same (W_X11_takeApart) I0 J0 I' J' → Q v I' J') {r18 q18 : Int → Int → Ii → Jj → Prop} (hr18 : ∀ (l3 : Int) (l4 : Int) (I' : Ii) (J' : Jj), r18 l3 l4 I' J' → Same (W_X11_takeApart) I0 J0 I' J' → q18 l3 l4 I' J') {l3 : Int} {l4 : Int} {t0 : Int} {I : Ii} {J : Jj} (h : B_X11_takeApart_50 l1 l2 P r18 l3 l4 t0 I J) (hs : Same (W_X11_takeApart) I0 J0 I J) : B_X11_takeApart_50 l1 l2 Q q18 l3 l4 t0 I J := by
  unfold B_X11_takeApart_50 at h ⊢
  refine fr_X11_at h (fun v h => ?_)
  obtain ⟨g, h⟩ := h
  refine ⟨g, ?_⟩
  obtain ⟨g, h⟩ := h
  refine ⟨g, ?_⟩
  refine ⟨fun c => ?_, fun c => ?_⟩
  · replace h := h.1 c
    exact hr18 _ _ _ _ h hs
  · replace h := h.2 c
    refine fr_X11_takeTo h (fun I2 J2 h hs2 => ?_)
    replace hs := hs.trans hs2 (WL_sub rfl)
    exact hr18 _ _ _ _ h hs
theorem ls_X11_takeApart_18 {l1 : Int} {l2 : Int} {Q : Int → Ii → Jj → Prop} {n : Nat} {l3 : Int} {l4 : Int} {I : Ii} {J : Jj} (h : Lb_X11_takeApart_18 l1 l2 Q (L_X11_takeApart_18 l1 l2 Q n) l3 l4 I J) : L_X11_takeApart_18 l1 l2 Q (n + 1) l3 l4 I J := h
set_option maxHeartbeats 4000000 in
set_option maxRecDepth 100000 in
theorem fl_X11_takeApart_18 {l1 : Int} {l2 : Int} {P Q : Int → Ii → Jj → Prop} {I0 : Ii} {J0 : Jj} (hq : ∀ (v : Int) (I' : Ii) (J' : Jj), P v I' J' → Same (W_X11_takeApart) I0 J0 I' J' → Q v I' J') : ∀ (n : Nat) (l3 : Int) (l4 : Int) (I : Ii) (J : Jj), L_X11_takeApart_18 l1 l2 P n l3 l4 I J → Same (W_X11_takeApart) I0 J0 I J → L_X11_takeApart_18 l1 l2 Q n l3 l4 I J := by
  intro n
  induction n with
  | zero => intro l3 l4 I J h _; exact h
  | succ n ih =>
    intro l3 l4 I J h hs
    have h : Lb_X11_takeApart_18 l1 l2 P (L_X11_takeApart_18 l1 l2 P n) l3 l4 I J := h
    show Lb_X11_takeApart_18 l1 l2 Q (L_X11_takeApart_18 l1 l2 Q n) l3 l4 I J
    have hr18 := ih
    clear ih
    unfold Lb_X11_takeApart_18 at h ⊢
    obtain ⟨g, h⟩ := h
    refine ⟨g, ?_⟩
    obtain ⟨g, h⟩ := h
    refine ⟨g, ?_⟩
    refine ⟨fun c => ?_, fun c => ?_⟩
    · replace h := h.1 c
      exact hq _ _ _ h hs
    · replace h := h.2 c
      refine fr_X11_isIn h (fun v h => ?_)
      refine ⟨fun c => ?_, fun c => ?_⟩
      · replace h := h.1 c
        exact fb_X11_takeApart_50 hq hr18 h hs
      · replace h := h.2 c
        exact fb_X11_takeApart_50 hq hr18 h hs
set_option maxHeartbeats 4000000 in
set_option maxRecDepth 100000 in
theorem fr_X11_takeApart {l1 : Int} {l2 : Int} {P Q : Int → Ii → Jj → Prop} {I0 : Ii} {J0 : Jj} (h : wp_X11_takeApart l1 l2 I0 J0 P) (hq : ∀ (v : Int) (I' : Ii) (J' : Jj), P v I' J' → Same (W_X11_takeApart) I0 J0 I' J' → Q v I' J') : wp_X11_takeApart l1 l2 I0 J0 Q := by
  have hs := Same.rf (W := (W_X11_takeApart)) I0 J0
  unfold wp_X11_takeApart at h ⊢
  refine fr_X1_run h (fun I2 J2 h hs2 => ?_)
  replace hs := hs.trans hs2 (WL_sub rfl)
  obtain ⟨n, h⟩ := h
  exact ⟨n, fl_X11_takeApart_18 hq n _ _ _ _ h hs⟩
def W_X11_writeVertex : Nat → Nat → Prop := WL [(100, 17), (132, 1000)]
theorem W_X11_writeVertex_n {k : Nat} (h : wlk [(100, 17), (132, 1000)] k = false := by rfl) : ∀ i, ¬ W_X11_writeVertex k i := WL_n h
theorem ls_X11_writeVertex_19 {l1 : Int} {l2 : Int} {Q : Ii → Jj → Prop} {n : Nat} {l3 : Int64} {l5 : Int} {I : Ii} {J : Jj} (h : Lb_X11_writeVertex_19 l1 l2 Q (L_X11_writeVertex_19 l1 l2 Q n) l3 l5 I J) : L_X11_writeVertex_19 l1 l2 Q (n + 1) l3 l5 I J := h
set_option maxHeartbeats 4000000 in
set_option maxRecDepth 100000 in
theorem fl_X11_writeVertex_19 {l1 : Int} {l2 : Int} {P Q : Ii → Jj → Prop} {I0 : Ii} {J0 : Jj} (hq : ∀ (I' : Ii) (J' : Jj), P I' J' → Same (W_X11_writeVertex) I0 J0 I' J' → Q I' J') : ∀ (n : Nat) (l3 : Int64) (l5 : Int) (I : Ii) (J : Jj), L_X11_writeVertex_19 l1 l2 P n l3 l5 I J → Same (W_X11_writeVertex) I0 J0 I J → L_X11_writeVertex_19 l1 l2 Q n l3 l5 I J := by
  intro n
  induction n with
  | zero => intro l3 l5 I J h _; exact h
  | succ n ih =>
    intro l3 l5 I J h hs
    have h : Lb_X11_writeVertex_19 l1 l2 P (L_X11_writeVertex_19 l1 l2 P n) l3 l5 I J := h
    show Lb_X11_writeVertex_19 l1 l2 Q (L_X11_writeVertex_19 l1 l2 Q n) l3 l5 I J
    have hr19 := ih
    clear ih
    unfold Lb_X11_writeVertex_19 at h ⊢
    obtain ⟨g, h⟩ := h
    refine ⟨g, ?_⟩
    refine ⟨fun c => ?_, fun c => ?_⟩
    · replace h := h.1 c
      obtain ⟨g, h⟩ := h
      refine ⟨g, ?_⟩
      refine ⟨fun c => ?_, fun c => ?_⟩
      · replace h := h.1 c
        exact hq _ _ h hs
      · replace h := h.2 c
        refine fr_X11_write h (fun I2 J2 h hs2 => ?_)
        replace hs := hs.trans hs2 (WL_sub rfl)
        exact hq _ _ h hs
    · replace h := h.2 c
      refine fr_X10_letterAt h (fun v h => ?_)
      obtain ⟨g, h⟩ := h
      refine ⟨g, ?_⟩
      refine ⟨fun c => ?_, fun c => ?_⟩
      · replace h := h.1 c
        exact hr19 _ _ _ _ h hs
      · replace h := h.2 c
        refine fr_X11_write h (fun I2 J2 h hs2 => ?_)
        replace hs := hs.trans hs2 (WL_sub rfl)
        exact hr19 _ _ _ _ h hs
set_option maxHeartbeats 4000000 in
set_option maxRecDepth 100000 in
theorem fr_X11_writeVertex {l1 : Int} {l2 : Int} {P Q : Ii → Jj → Prop} {I0 : Ii} {J0 : Jj} (h : wp_X11_writeVertex l1 l2 I0 J0 P) (hq : ∀ (I' : Ii) (J' : Jj), P I' J' → Same (W_X11_writeVertex) I0 J0 I' J' → Q I' J') : wp_X11_writeVertex l1 l2 I0 J0 Q := by
  have hs := Same.rf (W := (W_X11_writeVertex)) I0 J0
  unfold wp_X11_writeVertex at h ⊢
  refine fr_X11_write h (fun I2 J2 h hs2 => ?_)
  replace hs := hs.trans hs2 (WL_sub rfl)
  refine fr_X2_nameOf h (fun v h => ?_)
  obtain ⟨n, h⟩ := h
  exact ⟨n, fl_X11_writeVertex_19 hq n _ _ _ _ h hs⟩
def W_X11_save : Nat → Nat → Prop := WL [(100, 10), (113, 0), (113, 1), (113, 2), (113, 3), (113, 4), (113, 5), (114, 1000), (115, 1000), (116, 1000), (117, 1000), (118, 1000), (119, 1000), (220, 0), (220, 1), (220, 2), (220, 3), (220, 4), (220, 5), (220, 6), (220 + 1, 1000), (220 + 2, 1000), (220 + 3, 1000), (220 + 4, 1000), (220 + 5, 1000), (320, 0), (320, 1), (320, 2), (320 + 1, 1000), (320 + 2, 1000), (320 + 3, 1000), (320 + 4, 1000)]
theorem W_X11_save_n {k : Nat} (h : wlk [(100, 10), (113, 0), (113, 1), (113, 2), (113, 3), (113, 4), (113, 5), (114, 1000), (115, 1000), (116, 1000), (117, 1000), (118, 1000), (119, 1000), (220, 0), (220, 1), (220, 2), (220, 3), (220, 4), (220, 5), (220, 6), (220 + 1, 1000), (220 + 2, 1000), (220 + 3, 1000), (220 + 4, 1000), (220 + 5, 1000), (320, 0), (320, 1), (320, 2), (320 + 1, 1000), (320 + 2, 1000), (320 + 3, 1000), (320 + 4, 1000)] k = false := by rfl) : ∀ i, ¬ W_X11_save k i := WL_n h
set_option maxHeartbeats 4000000 in
set_option maxRecDepth 100000 in
theorem fr_X11_save {P Q : Int → Ii → Jj → Prop} {I0 : Ii} {J0 : Jj} (h : wp_X11_save I0 J0 P) (hq : ∀ (v : Int) (I' : Ii) (J' : Jj), P v I' J' → Same (W_X11_save) I0 J0 I' J' → Q v I' J') : wp_X11_save I0 J0 Q := by
  have hs := Same.rf (W := (W_X11_save)) I0 J0
  unfold wp_X11_save at h ⊢
  refine fr_X2_copyFrom h (fun I2 J2 h hs2 => ?_)
  replace hs := hs.trans hs2 (WL_sub rfl)
  refine fr_X8_copyFrom h (fun I2 J2 h hs2 => ?_)
  replace hs := hs.trans hs2 (WL_sub rfl)
  intro I1 e1
  replace h := h I1 e1
  replace hs := hs.upI e1 rfl
  refine fr_X11_cut h (fun v I2 J2 h hs2 => ?_)
  replace hs := hs.trans hs2 (WL_sub rfl)
  exact hq _ _ _ h hs
def W_X11_restore : Nat → Nat → Prop := WL [(111, 2), (113, 0), (113, 1), (113, 2), (113, 3), (113, 4), (113, 5), (114, 1000), (115, 1000), (116, 1000), (117, 1000), (118, 1000), (119, 1000), (200, 0), (200, 1), (200, 2), (200, 3), (200, 4), (200, 5), (200, 6), (200 + 1, 1000), (200 + 2, 1000), (200 + 3, 1000), (200 + 4, 1000), (200 + 5, 1000), (300, 0), (300, 1), (300, 2), (300 + 1, 1000), (300 + 2, 1000), (300 + 3, 1000), (300 + 4, 1000)]
theorem W_X11_restore_n {k : Nat} (h : wlk [(111, 2), (113, 0), (113, 1), (113, 2), (113, 3), (113, 4), (113, 5), (114, 1000), (115, 1000), (116, 1000), (117, 1000), (118, 1000), (119, 1000), (200, 0), (200, 1), (200, 2), (200, 3), (200, 4), (200, 5), (200, 6), (200 + 1, 1000), (200 + 2, 1000), (200 + 3, 1000), (200 + 4, 1000), (200 + 5, 1000), (300, 0), (300, 1), (300, 2), (300 + 1, 1000), (300 + 2, 1000), (300 + 3, 1000), (300 + 4, 1000)] k = false := by rfl) : ∀ i, ¬ W_X11_restore k i := WL_n h
set_option maxHeartbeats 4000000 in
set_option maxRecDepth 100000 in
theorem fr_X11_restore {P Q : Int → Ii → Jj → Prop} {I0 : Ii} {J0 : Jj} (h : wp_X11_restore I0 J0 P) (hq : ∀ (v : Int) (I' : Ii) (J' : Jj), P v I' J' → Same (W_X11_restore) I0 J0 I' J' → Q v I' J') : wp_X11_restore I0 J0 Q := by
  have hs := Same.rf (W := (W_X11_restore)) I0 J0
  unfold wp_X11_restore at h ⊢
  obtain ⟨g, h⟩ := h
  refine ⟨g, ?_⟩
  refine ⟨fun c => ?_, fun c => ?_⟩
  · replace h := h.1 c
    refine fr_X2_copyFrom h (fun I2 J2 h hs2 => ?_)
    replace hs := hs.trans hs2 (WL_sub rfl)
    refine fr_X8_copyFrom h (fun I2 J2 h hs2 => ?_)
    replace hs := hs.trans hs2 (WL_sub rfl)
    refine fr_X3_forget h (fun I2 J2 h hs2 => ?_)
    replace hs := hs.trans hs2 (WL_sub rfl)
    refine fr_X11_cut h (fun v I2 J2 h hs2 => ?_)
    replace hs := hs.trans hs2 (WL_sub rfl)
    exact hq _ _ _ h hs
  · replace h := h.2 c
    exact False.elim h
def W_X0_search : Nat → Nat → Prop := WL [(124, 3), (124, 4), (125, 1000), (126, 1000), (127, 1000)]
theorem W_X0_search_n {k : Nat} (h : wlk [(124, 3), (124, 4), (125, 1000), (126, 1000), (127, 1000)] k = false := by rfl) : ∀ i, ¬ W_X0_search k i := WL_n h
set_option maxHeartbeats 4000000 in
set_option maxRecDepth 100000 in
theorem fb_X0_search_109 {P Q : Ii → Jj → Prop} {I0 : Ii} {J0 : Jj} (hq : ∀ (I' : Ii) (J' : Jj), P I' J' → Same (W_X0_search) I0 J0 I' J' → Q I' J') {r25 q25 : Int → Int → Ii → Jj → Prop} (hr25 : ∀ (l3 : Int) (l4 : Int) (I' : Ii) (J' : Jj), r25 l3 l4 I' J' → Same (W_X0_search) I0 J0 I' J' → q25 l3 l4 I' J') {l4 : Int} {I : Ii} {J : Jj} (h : B_X0_search_109 P r25 l4 I J) (hs : Same (W_X0_search) I0 J0 I J) : B_X0_search_109 Q q25 l4 I J := by
  unfold B_X0_search_109 at h ⊢
  refine fr_X0_advance h (fun v I2 J2 h hs2 => ?_)
  replace hs := hs.trans hs2 (WL_sub rfl)
  exact hr25 _ _ _ _ h hs
set_option maxHeartbeats 4000000 in
set_option maxRecDepth 100000 in
theorem fb_X0_search_86 {P Q : Ii → Jj → Prop} {I0 : Ii} {J0 : Jj} (hq : ∀ (I' : Ii) (J' : Jj), P I' J' → Same (W_X0_search) I0 J0 I' J' → Q I' J') {r25 q25 : Int → Int → Ii → Jj → Prop} (hr25 : ∀ (l3 : Int) (l4 : Int) (I' : Ii) (J' : Jj), r25 l3 l4 I' J' → Same (W_X0_search) I0 J0 I' J' → q25 l3 l4 I' J') {l4 : Int} {l5 : Int} {l6 : Int} {I : Ii} {J : Jj} (h : B_X0_search_86 P r25 l4 l5 l6 I J) (hs : Same (W_X0_search) I0 J0 I J) : B_X0_search_86 Q q25 l4 l5 l6 I J := by
  unfold B_X0_search_86 at h ⊢
  intro I1 e1
  replace h := h I1 e1
  replace hs := hs.upI e1 rfl
  intro I1 e1
  replace h := h I1 e1
  replace hs := hs.upI e1 rfl
  refine fr_X11_copy h (fun I2 J2 h hs2 => ?_)
  replace hs := hs.trans hs2 (WL_sub rfl)
  exact fb_X0_search_109 hq hr25 h hs
set_option maxHeartbeats 4000000 in
set_option maxRecDepth 100000 in
theorem fb_X0_search_66 {P Q : Ii → Jj → Prop} {I0 : Ii} {J0 : Jj} (hq : ∀ (I' : Ii) (J' : Jj), P I' J' → Same (W_X0_search) I0 J0 I' J' → Q I' J') {r25 q25 : Int → Int → Ii → Jj → Prop} (hr25 : ∀ (l3 : Int) (l4 : Int) (I' : Ii) (J' : Jj), r25 l3 l4 I' J' → Same (W_X0_search) I0 J0 I' J' → q25 l3 l4 I' J') {l4 : Int} {l5 : Int} {t0 : Int} {I : Ii} {J : Jj} (h : B_X0_search_66 P r25 l4 l5 t0 I J) (hs : Same (W_X0_search) I0 J0 I J) : B_X0_search_66 Q q25 l4 l5 t0 I J := by
  unfold B_X0_search_66 at h ⊢
  obtain ⟨g, h⟩ := h
  refine ⟨g, ?_⟩
  obtain ⟨g, h⟩ := h
  refine ⟨g, ?_⟩
  refine ⟨fun c => ?_, fun c => ?_⟩
  · replace h := h.1 c
    exact fb_X0_search_86 hq hr25 h hs
  · replace h := h.2 c
    obtain ⟨g, h⟩ := h
    refine ⟨g, ?_⟩
    obtain ⟨g, h⟩ := h
    refine ⟨g, ?_⟩
    refine ⟨fun c => ?_, fun c => ?_⟩
    · replace h := h.1 c
      exact fb_X0_search_109 hq hr25 h hs
    · replace h := h.2 c
      exact fb_X0_search_86 hq hr25 h hs
theorem ls_X0_search_25 {Q : Ii → Jj → Prop} {n : Nat} {l3 : Int} {l4 : Int} {I : Ii} {J : Jj} (h : Lb_X0_search_25 Q (L_X0_search_25 Q n) l3 l4 I J) : L_X0_search_25 Q (n + 1) l3 l4 I J := h
set_option maxHeartbeats 4000000 in
set_option maxRecDepth 100000 in
theorem fl_X0_search_25 {P Q : Ii → Jj → Prop} {I0 : Ii} {J0 : Jj} (hq : ∀ (I' : Ii) (J' : Jj), P I' J' → Same (W_X0_search) I0 J0 I' J' → Q I' J') : ∀ (n : Nat) (l3 : Int) (l4 : Int) (I : Ii) (J : Jj), L_X0_search_25 P n l3 l4 I J → Same (W_X0_search) I0 J0 I J → L_X0_search_25 Q n l3 l4 I J := by
  intro n
  induction n with
  | zero => intro l3 l4 I J h _; exact h
  | succ n ih =>
    intro l3 l4 I J h hs
    have h : Lb_X0_search_25 P (L_X0_search_25 P n) l3 l4 I J := h
    show Lb_X0_search_25 Q (L_X0_search_25 Q n) l3 l4 I J
    have hr25 := ih
    clear ih
    unfold Lb_X0_search_25 at h ⊢
    obtain ⟨g, h⟩ := h
    refine ⟨g, ?_⟩
    refine ⟨fun c => ?_, fun c => ?_⟩
    · replace h := h.1 c
      exact hq _ _ h hs
    · replace h := h.2 c
      obtain ⟨g, h⟩ := h
      refine ⟨g, ?_⟩
      refine ⟨fun c => ?_, fun c => ?_⟩
      · replace h := h.1 c
        exact hq _ _ h hs
      · replace h := h.2 c
        refine fr_X0_triedDebts h (fun v I2 J2 h hs2 => ?_)
        replace hs := hs.trans hs2 (WL_sub rfl)
        obtain ⟨g, h⟩ := h
        refine ⟨g, ?_⟩
        obtain ⟨g, h⟩ := h
        refine ⟨g, ?_⟩
        refine ⟨fun c => ?_, fun c => ?_⟩
        · replace h := h.1 c
          refine fr_X0_triedCut h (fun v h => ?_)
          exact fb_X0_search_66 hq hr25 h hs
        · replace h := h.2 c
          exact fb_X0_search_66 hq hr25 h hs
set_option maxHeartbeats 4000000 in
set_option maxRecDepth 100000 in
theorem fr_X0_search {P Q : Ii → Jj → Prop} {I0 : Ii} {J0 : Jj} (h : wp_X0_search I0 J0 P) (hq : ∀ (I' : Ii) (J' : Jj), P I' J' → Same (W_X0_search) I0 J0 I' J' → Q I' J') : wp_X0_search I0 J0 Q := by
  have hs := Same.rf (W := (W_X0_search)) I0 J0
  unfold wp_X0_search at h ⊢
  refine fr_J7_fill_53178 h (fun I2 J2 h hs2 => ?_)
  replace hs := hs.trans hs2 (WL_sub rfl)
  intro I1 e1
  replace h := h I1 e1
  replace hs := hs.upI e1 rfl
  intro I1 e1
  replace h := h I1 e1
  replace hs := hs.upI e1 rfl
  obtain ⟨n, h⟩ := h
  exact ⟨n, fl_X0_search_25 hq n _ _ _ _ h hs⟩
def W_X3_keep (k1 : Nat) : Nat → Nat → Prop := WL [(111, 1), (111, 2), (330, 1000), (331, 1000), (332, 1000), (333, 1000), (334, 1000), (340, 1000), (341, 1000), (342, 1000), (343, 1000), (344, 1000), (350, 1000), (351, 1000), (352, 1000), (353, 1000), (354, 1000), (360, 1000), (361, 1000), (362, 1000), (363, 1000), (364, 1000), (370, 1000), (371, 1000), (372, 1000), (373, 1000), (374, 1000), (380, 1000), (381, 1000), (382, 1000), (383, 1000), (384, 1000)]
theorem W_X3_keep_n {k1 : Nat} {k : Nat} (h : wlk [(111, 1), (111, 2), (330, 1000), (331, 1000), (332, 1000), (333, 1000), (334, 1000), (340, 1000), (341, 1000), (342, 1000), (343, 1000), (344, 1000), (350, 1000), (351, 1000), (352, 1000), (353, 1000), (354, 1000), (360, 1000), (361, 1000), (362, 1000), (363, 1000), (364, 1000), (370, 1000), (371, 1000), (372, 1000), (373, 1000), (374, 1000), (380, 1000), (381, 1000), (382, 1000), (383, 1000), (384, 1000)] k = false := by rfl) : ∀ i, ¬ W_X3_keep k1 k i := WL_n h
set_option maxHeartbeats 4000000 in
set_option maxRecDepth 100000 in
theorem fr_X3_keep {k1 : Nat} {P Q : Ii → Jj → Prop} {I0 : Ii} {J0 : Jj} (h : wp_X3_keep k1 I0 J0 P) (hq : ∀ (I' : Ii) (J' : Jj), P I' J' → Same (W_X3_keep k1) I0 J0 I' J' → Q I' J') : wp_X3_keep k1 I0 J0 Q := by
  have hs := Same.rf (W := (W_X3_keep k1)) I0 J0
  unfold wp_X3_keep at h ⊢
  obtain ⟨g, h⟩ := h
  refine ⟨g, ?_⟩
  obtain ⟨g, h⟩ := h
  refine ⟨g, ?_⟩
  intro I1 e1
  replace h := h I1 e1
  replace hs := hs.upI e1 (by first | rfl | simp [W_X3_keep, WL, wl])
  refine fr_X3_entry h (fun v h => ?_)
  refine ⟨fun c => ?_, fun kk c => ?_⟩
  · replace h := h.1 c
    exact hq _ _ h hs
  · replace h := h.2 kk c
    obtain ⟨gk, h⟩ := h
    refine ⟨gk, ?_⟩
    refine fr_X8_copyFrom h (fun I2 J2 h hs2 => ?_)
    replace hs := hs.trans hs2 (fun k i q => by rcases gk with rfl | rfl | rfl | rfl | rfl | rfl <;> exact WL_any (by simp [wls, wl, WL]) k i q)
    refine fr_J9_min_7cf53 h (fun v h => ?_)
    intro I1 e1
    replace h := h I1 e1
    replace hs := hs.upI e1 (by first | rfl | simp [W_X3_keep, WL, wl])
    exact hq _ _ h hs
def W_X3_takeBack (k1 : Nat) : Nat → Nat → Prop := WL [(111, 1), (111, 2), (k1, 0), (k1, 1), (k1, 2), (k1 + 1, 1000), (k1 + 2, 1000), (k1 + 3, 1000), (k1 + 4, 1000)]
theorem W_X3_takeBack_n {k1 : Nat} {k : Nat} (h : wlk [(111, 1), (111, 2), (k1, 0), (k1, 1), (k1, 2), (k1 + 1, 1000), (k1 + 2, 1000), (k1 + 3, 1000), (k1 + 4, 1000)] k = false := by rfl) : ∀ i, ¬ W_X3_takeBack k1 k i := WL_n h
set_option maxHeartbeats 4000000 in
set_option maxRecDepth 100000 in
theorem fr_X3_takeBack {k1 : Nat} {P Q : Int → Ii → Jj → Prop} {I0 : Ii} {J0 : Jj} (h : wp_X3_takeBack k1 I0 J0 P) (hq : ∀ (v : Int) (I' : Ii) (J' : Jj), P v I' J' → Same (W_X3_takeBack k1) I0 J0 I' J' → Q v I' J') : wp_X3_takeBack k1 I0 J0 Q := by
  have hs := Same.rf (W := (W_X3_takeBack k1)) I0 J0
  unfold wp_X3_takeBack at h ⊢
  obtain ⟨g, h⟩ := h
  refine ⟨g, ?_⟩
  refine fr_X3_entry h (fun v h => ?_)
  obtain ⟨g, h⟩ := h
  refine ⟨g, ?_⟩
  refine ⟨fun c => ?_, fun c => ?_⟩
  · replace h := h.1 c
    exact hq _ _ _ h hs
  · replace h := h.2 c
    refine ⟨fun c => ?_, fun kk c => ?_⟩
    · replace h := h.1 c
      exact hq _ _ _ h hs
    · replace h := h.2 kk c
      obtain ⟨gk, h⟩ := h
      refine ⟨gk, ?_⟩
      refine fr_X8_copyFrom h (fun I2 J2 h hs2 => ?_)
      replace hs := hs.trans hs2 (fun k i q => by rcases gk with rfl | rfl | rfl | rfl | rfl | rfl <;> exact WL_any (by simp [wls, wl, WL]) k i q)
      obtain ⟨g, h⟩ := h
      refine ⟨g, ?_⟩
      intro I1 e1
      replace h := h I1 e1
      replace hs := hs.upI e1 (by first | rfl | simp [W_X3_takeBack, WL, wl])
      intro I1 e1
      replace h := h I1 e1
      replace hs := hs.upI e1 (by first | rfl | simp [W_X3_takeBack, WL, wl])
      exact hq _ _ _ h hs
def W_X7_readClose : Nat → Nat → Prop := WL [(101, 3), (101, 4), (101, 5), (101, 6), (101, 7), (101, 8), (101, 9), (101, 10), (101, 11), (106, 4), (107, 1000), (108, 1000), (109, 1000)]
theorem W_X7_readClose_n {k : Nat} (h : wlk [(101, 3), (101, 4), (101, 5), (101, 6), (101, 7), (101, 8), (101, 9), (101, 10), (101, 11), (106, 4), (107, 1000), (108, 1000), (109, 1000)] k = false := by rfl) : ∀ i, ¬ W_X7_readClose k i := WL_n h
set_option maxHeartbeats 4000000 in
set_option maxRecDepth 100000 in
theorem fr_X7_readClose {P Q : Int → Ii → Jj → Prop} {I0 : Ii} {J0 : Jj} (h : wp_X7_readClose I0 J0 P) (hq : ∀ (v : Int) (I' : Ii) (J' : Jj), P v I' J' → Same (W_X7_readClose) I0 J0 I' J' → Q v I' J') : wp_X7_readClose I0 J0 Q := by
  have hs := Same.rf (W := (W_X7_readClose)) I0 J0
  unfold wp_X7_readClose at h ⊢
  obtain ⟨g, h⟩ := h
  refine ⟨g, ?_⟩
  refine ⟨fun c => ?_, fun c => ?_⟩
  · replace h := h.1 c
    intro I1 e1
    replace h := h I1 e1
    replace hs := hs.upI e1 rfl
    refine fr_X11_at h (fun v h => ?_)
    refine fr_X6_addClose h (fun I2 J2 h hs2 => ?_)
    replace hs := hs.trans hs2 (WL_sub rfl)
    refine fr_X10_takes h (fun v I2 J2 h hs2 => ?_)
    replace hs := hs.trans hs2 (WL_sub rfl)
    obtain ⟨g, h⟩ := h
    refine ⟨g, ?_⟩
    exact hq _ _ _ h hs
  · replace h := h.2 c
    refine fr_X10_fail h (fun v I2 J2 h hs2 => ?_)
    replace hs := hs.trans hs2 (WL_sub rfl)
    obtain ⟨g, h⟩ := h
    refine ⟨g, ?_⟩
    exact hq _ _ _ h hs
def W_X7_readRepeat : Nat → Nat → Prop := WL [(101, 3), (101, 4), (101, 5), (101, 6), (101, 7), (101, 8), (101, 9), (101, 10), (101, 11), (105, 1000), (106, 4), (106, 5), (107, 1000), (108, 1000), (109, 1000)]
theorem W_X7_readRepeat_n {k : Nat} (h : wlk [(101, 3), (101, 4), (101, 5), (101, 6), (101, 7), (101, 8), (101, 9), (101, 10), (101, 11), (105, 1000), (106, 4), (106, 5), (107, 1000), (108, 1000), (109, 1000)] k = false := by rfl) : ∀ i, ¬ W_X7_readRepeat k i := WL_n h
set_option maxHeartbeats 4000000 in
set_option maxRecDepth 100000 in
theorem fr_X7_readRepeat {P Q : Int → Ii → Jj → Prop} {I0 : Ii} {J0 : Jj} (h : wp_X7_readRepeat I0 J0 P) (hq : ∀ (v : Int) (I' : Ii) (J' : Jj), P v I' J' → Same (W_X7_readRepeat) I0 J0 I' J' → Q v I' J') : wp_X7_readRepeat I0 J0 Q := by
  have hs := Same.rf (W := (W_X7_readRepeat)) I0 J0
  unfold wp_X7_readRepeat at h ⊢
  refine fr_X10_takesNumber h (fun v I2 J2 h hs2 => ?_)
  replace hs := hs.trans hs2 (WL_sub rfl)
  refine ⟨fun c => ?_, fun c => ?_⟩
  · replace h := h.1 c
    refine fr_X10_takes h (fun v I2 J2 h hs2 => ?_)
    replace hs := hs.trans hs2 (WL_sub rfl)
    refine ⟨fun c => ?_, fun c => ?_⟩
    · replace h := h.1 c
      refine fr_X11_put h (fun I2 J2 h hs2 => ?_)
      replace hs := hs.trans hs2 (WL_sub rfl)
      intro I1 e1
      replace h := h I1 e1
      replace hs := hs.upI e1 rfl
      refine fr_X6_addCommand h (fun I2 J2 h hs2 => ?_)
      replace hs := hs.trans hs2 (WL_sub rfl)
      exact hq _ _ _ h hs
    · replace h := h.2 c
      exact hq _ _ _ h hs
  · replace h := h.2 c
    exact hq _ _ _ h hs
def W_X7_readMove : Nat → Nat → Prop := WL [(101, 3), (101, 4), (101, 5), (101, 6), (101, 7), (101, 9), (101, 10), (101, 11), (106, 4), (106, 5), (107, 1000), (108, 1000), (109, 1000)]
theorem W_X7_readMove_n {k : Nat} (h : wlk [(101, 3), (101, 4), (101, 5), (101, 6), (101, 7), (101, 9), (101, 10), (101, 11), (106, 4), (106, 5), (107, 1000), (108, 1000), (109, 1000)] k = false := by rfl) : ∀ i, ¬ W_X7_readMove k i := WL_n h
set_option maxHeartbeats 4000000 in
set_option maxRecDepth 100000 in
theorem fr_X7_readMove {P Q : Int → Ii → Jj → Prop} {I0 : Ii} {J0 : Jj} (h : wp_X7_readMove I0 J0 P) (hq : ∀ (v : Int) (I' : Ii) (J' : Jj), P v I' J' → Same (W_X7_readMove) I0 J0 I' J' → Q v I' J') : wp_X7_readMove I0 J0 Q := by
  have hs := Same.rf (W := (W_X7_readMove)) I0 J0
  unfold wp_X7_readMove at h ⊢
  refine fr_X10_takesNumber h (fun v I2 J2 h hs2 => ?_)
  replace hs := hs.trans hs2 (WL_sub rfl)
  refine ⟨fun c => ?_, fun c => ?_⟩
  · replace h := h.1 c
    refine fr_X10_takesNumber h (fun v I2 J2 h hs2 => ?_)
    replace hs := hs.trans hs2 (WL_sub rfl)
    refine ⟨fun c => ?_, fun c => ?_⟩
    · replace h := h.1 c
      refine fr_X6_addCommand h (fun I2 J2 h hs2 => ?_)
      replace hs := hs.trans hs2 (WL_sub rfl)
      exact hq _ _ _ h hs
    · replace h := h.2 c
      exact hq _ _ _ h hs
  · replace h := h.2 c
    exact hq _ _ _ h hs
def W_X7_readNumbered : Nat → Nat → Prop := WL [(101, 3), (101, 4), (101, 5), (101, 6), (101, 7), (101, 9), (101, 10), (101, 11), (106, 4), (106, 5), (107, 1000), (108, 1000), (109, 1000)]
theorem W_X7_readNumbered_n {k : Nat} (h : wlk [(101, 3), (101, 4), (101, 5), (101, 6), (101, 7), (101, 9), (101, 10), (101, 11), (106, 4), (106, 5), (107, 1000), (108, 1000), (109, 1000)] k = false := by rfl) : ∀ i, ¬ W_X7_readNumbered k i := WL_n h
set_option maxHeartbeats 4000000 in
set_option maxRecDepth 100000 in
theorem fr_X7_readNumbered {l3 : Int} {P Q : Int → Ii → Jj → Prop} {I0 : Ii} {J0 : Jj} (h : wp_X7_readNumbered l3 I0 J0 P) (hq : ∀ (v : Int) (I' : Ii) (J' : Jj), P v I' J' → Same (W_X7_readNumbered) I0 J0 I' J' → Q v I' J') : wp_X7_readNumbered l3 I0 J0 Q := by
  have hs := Same.rf (W := (W_X7_readNumbered)) I0 J0
  unfold wp_X7_readNumbered at h ⊢
  refine fr_X10_takesNumber h (fun v I2 J2 h hs2 => ?_)
  replace hs := hs.trans hs2 (WL_sub rfl)
  refine ⟨fun c => ?_, fun c => ?_⟩
  · replace h := h.1 c
    refine fr_X6_addCommand h (fun I2 J2 h hs2 => ?_)
    replace hs := hs.trans hs2 (WL_sub rfl)
    exact hq _ _ _ h hs
  · replace h := h.2 c
    exact hq _ _ _ h hs
def W_X7_takesVertex (k2 : Nat) : Nat → Nat → Prop := WL [(101, 3), (101, 4), (101, 5), (101, 6), (101, 7), (101, 9), (101, 10), (101, 11)]
theorem W_X7_takesVertex_n {k2 : Nat} {k : Nat} (h : wlk [(101, 3), (101, 4), (101, 5), (101, 6), (101, 7), (101, 9), (101, 10), (101, 11)] k = false := by rfl) : ∀ i, ¬ W_X7_takesVertex k2 k i := WL_n h
set_option maxHeartbeats 4000000 in
set_option maxRecDepth 100000 in
theorem fr_X7_takesVertex {k2 : Nat} {P Q : Int → Ii → Jj → Prop} {I0 : Ii} {J0 : Jj} (h : wp_X7_takesVertex k2 I0 J0 P) (hq : ∀ (v : Int) (I' : Ii) (J' : Jj), P v I' J' → Same (W_X7_takesVertex k2) I0 J0 I' J' → Q v I' J') : wp_X7_takesVertex k2 I0 J0 Q := by
  have hs := Same.rf (W := (W_X7_takesVertex k2)) I0 J0
  unfold wp_X7_takesVertex at h ⊢
  obtain ⟨g, h⟩ := h
  refine ⟨g, ?_⟩
  refine fr_X10_advance h (fun I2 J2 h hs2 => ?_)
  replace hs := hs.trans hs2 (by first | exact WL_sub rfl | exact WL_any (by simp [wls, wl, WL]))
  obtain ⟨g, h⟩ := h
  refine ⟨g, ?_⟩
  refine ⟨fun c => ?_, fun c => ?_⟩
  · replace h := h.1 c
    refine fr_X2_vertexNamed h (fun v h => ?_)
    obtain ⟨g, h⟩ := h
    refine ⟨g, ?_⟩
    refine ⟨fun c => ?_, fun c => ?_⟩
    · replace h := h.1 c
      exact hq _ _ _ h hs
    · replace h := h.2 c
      refine fr_X10_fail h (fun v I2 J2 h hs2 => ?_)
      replace hs := hs.trans hs2 (by first | exact WL_sub rfl | exact WL_any (by simp [wls, wl, WL]))
      refine ⟨fun c => ?_, fun c => ?_⟩
      · replace h := h.1 c
        exact hq _ _ _ h hs
      · replace h := h.2 c
        exact hq _ _ _ h hs
  · replace h := h.2 c
    refine fr_X10_fail h (fun v I2 J2 h hs2 => ?_)
    replace hs := hs.trans hs2 (by first | exact WL_sub rfl | exact WL_any (by simp [wls, wl, WL]))
    obtain ⟨g, h⟩ := h
    refine ⟨g, ?_⟩
    exact hq _ _ _ h hs
def W_X9_readVertex (k2 : Nat) : Nat → Nat → Prop := WL [(101, 3), (101, 4), (101, 5), (101, 6), (101, 7), (101, 9), (101, 10), (101, 11), (k2, 0), (k2, 5), (k2 + 1, 1000), (k2 + 2, 1000)]
theorem W_X9_readVertex_n {k2 : Nat} {k : Nat} (h : wlk [(101, 3), (101, 4), (101, 5), (101, 6), (101, 7), (101, 9), (101, 10), (101, 11), (k2, 0), (k2, 5), (k2 + 1, 1000), (k2 + 2, 1000)] k = false := by rfl) : ∀ i, ¬ W_X9_readVertex k2 k i := WL_n h
set_option maxHeartbeats 4000000 in
set_option maxRecDepth 100000 in
theorem fr_X9_readVertex {k2 : Nat} {P Q : Int → Ii → Jj → Prop} {I0 : Ii} {J0 : Jj} (h : wp_X9_readVertex k2 I0 J0 P) (hq : ∀ (v : Int) (I' : Ii) (J' : Jj), P v I' J' → Same (W_X9_readVertex k2) I0 J0 I' J' → Q v I' J') : wp_X9_readVertex k2 I0 J0 Q := by
  have hs := Same.rf (W := (W_X9_readVertex k2)) I0 J0
  unfold wp_X9_readVertex at h ⊢
  obtain ⟨g, h⟩ := h
  refine ⟨g, ?_⟩
  obtain ⟨g, h⟩ := h
  refine ⟨g, ?_⟩
  refine ⟨fun c => ?_, fun c => ?_⟩
  · replace h := h.1 c
    refine fr_X10_takes h (fun v I2 J2 h hs2 => ?_)
    replace hs := hs.trans hs2 (by first | exact WL_sub rfl | exact WL_any (by simp [wls, wl, WL]))
    refine ⟨fun c => ?_, fun c => ?_⟩
    · replace h := h.1 c
      refine fr_X2_vertexNamed h (fun v h => ?_)
      obtain ⟨g, h⟩ := h
      refine ⟨g, ?_⟩
      refine ⟨fun c => ?_, fun c => ?_⟩
      · replace h := h.1 c
        refine fr_X10_takesNumber h (fun v I2 J2 h hs2 => ?_)
        replace hs := hs.trans hs2 (by first | exact WL_sub rfl | exact WL_any (by simp [wls, wl, WL]))
        refine ⟨fun c => ?_, fun c => ?_⟩
        · replace h := h.1 c
          refine fr_X2_addVertex h (fun I2 J2 h hs2 => ?_)
          replace hs := hs.trans hs2 (by first | exact WL_sub rfl | exact WL_any (by simp [wls, wl, WL]))
          exact hq _ _ _ h hs
        · replace h := h.2 c
          exact hq _ _ _ h hs
      · replace h := h.2 c
        refine fr_X10_fail h (fun v I2 J2 h hs2 => ?_)
        replace hs := hs.trans hs2 (by first | exact WL_sub rfl | exact WL_any (by simp [wls, wl, WL]))
        obtain ⟨g, h⟩ := h
        refine ⟨g, ?_⟩
        exact hq _ _ _ h hs
    · replace h := h.2 c
      exact hq _ _ _ h hs
  · replace h := h.2 c
    refine fr_X10_fail h (fun v I2 J2 h hs2 => ?_)
    replace hs := hs.trans hs2 (by first | exact WL_sub rfl | exact WL_any (by simp [wls, wl, WL]))
    obtain ⟨g, h⟩ := h
    refine ⟨g, ?_⟩
    exact hq _ _ _ h hs
def W_X9_readEdge (k2 : Nat) : Nat → Nat → Prop := WL [(101, 3), (101, 4), (101, 5), (101, 6), (101, 7), (101, 9), (101, 10), (101, 11), (k2, 1), (k2, 6), (k2 + 3, 1000), (k2 + 4, 1000), (k2 + 5, 1000)]
theorem W_X9_readEdge_n {k2 : Nat} {k : Nat} (h : wlk [(101, 3), (101, 4), (101, 5), (101, 6), (101, 7), (101, 9), (101, 10), (101, 11), (k2, 1), (k2, 6), (k2 + 3, 1000), (k2 + 4, 1000), (k2 + 5, 1000)] k = false := by rfl) : ∀ i, ¬ W_X9_readEdge k2 k i := WL_n h
set_option maxHeartbeats 4000000 in
set_option maxRecDepth 100000 in
theorem fb_X9_readEdge_78 {k2 : Nat} {P Q : Int → Ii → Jj → Prop} {I0 : Ii} {J0 : Jj} (hq : ∀ (v : Int) (I' : Ii) (J' : Jj), P v I' J' → Same (W_X9_readEdge k2) I0 J0 I' J' → Q v I' J') {I : Ii} {J : Jj} (h : B_X9_readEdge_78 k2 P  I J) (hs : Same (W_X9_readEdge k2) I0 J0 I J) : B_X9_readEdge_78 k2 Q  I J := by
  unfold B_X9_readEdge_78 at h ⊢
  refine fr_X10_fail h (fun v I2 J2 h hs2 => ?_)
  replace hs := hs.trans hs2 (by first | exact WL_sub rfl | exact WL_any (by simp [wls, wl, WL]))
  obtain ⟨g, h⟩ := h
  refine ⟨g, ?_⟩
  exact hq _ _ _ h hs
set_option maxHeartbeats 4000000 in
set_option maxRecDepth 100000 in
theorem fr_X9_readEdge {k2 : Nat} {P Q : Int → Ii → Jj → Prop} {I0 : Ii} {J0 : Jj} (h : wp_X9_readEdge k2 I0 J0 P) (hq : ∀ (v : Int) (I' : Ii) (J' : Jj), P v I' J' → Same (W_X9_readEdge k2) I0 J0 I' J' → Q v I' J') : wp_X9_readEdge k2 I0 J0 Q := by
  have hs := Same.rf (W := (W_X9_readEdge k2)) I0 J0
  unfold wp_X9_readEdge at h ⊢
  obtain ⟨g, h⟩ := h
  refine ⟨g, ?_⟩
  obtain ⟨g, h⟩ := h
  refine ⟨g, ?_⟩
  refine ⟨fun c => ?_, fun c => ?_⟩
  · replace h := h.1 c
    refine fr_X10_takes h (fun v I2 J2 h hs2 => ?_)
    replace hs := hs.trans hs2 (by first | exact WL_sub rfl | exact WL_any (by simp [wls, wl, WL]))
    refine ⟨fun c => ?_, fun c => ?_⟩
    · replace h := h.1 c
      refine fr_X2_vertexNamed h (fun v h => ?_)
      obtain ⟨g, h⟩ := h
      refine ⟨g, ?_⟩
      refine ⟨fun c => ?_, fun c => ?_⟩
      · replace h := h.1 c
        refine fr_X10_takes h (fun v I2 J2 h hs2 => ?_)
        replace hs := hs.trans hs2 (by first | exact WL_sub rfl | exact WL_any (by simp [wls, wl, WL]))
        refine ⟨fun c => ?_, fun c => ?_⟩
        · replace h := h.1 c
          refine fr_X2_vertexNamed h (fun v h => ?_)
          obtain ⟨g, h⟩ := h
          refine ⟨g, ?_⟩
          refine ⟨fun c => ?_, fun c => ?_⟩
          · replace h := h.1 c
            exact fb_X9_readEdge_78 hq h hs
          · replace h := h.2 c
            obtain ⟨g, h⟩ := h
            refine ⟨g, ?_⟩
            refine ⟨fun c => ?_, fun c => ?_⟩
            · replace h := h.1 c
              refine fr_X2_edgeOf h (fun v h => ?_)
              obtain ⟨g, h⟩ := h
              refine ⟨g, ?_⟩
              refine ⟨fun c => ?_, fun c => ?_⟩
              · replace h := h.1 c
                refine fr_X10_takesNumber h (fun v I2 J2 h hs2 => ?_)
                replace hs := hs.trans hs2 (by first | exact WL_sub rfl | exact WL_any (by simp [wls, wl, WL]))
                refine ⟨fun c => ?_, fun c => ?_⟩
                · replace h := h.1 c
                  refine fr_X2_addEdge h (fun I2 J2 h hs2 => ?_)
                  replace hs := hs.trans hs2 (by first | exact WL_sub rfl | exact WL_any (by simp [wls, wl, WL]))
                  exact hq _ _ _ h hs
                · replace h := h.2 c
                  exact hq _ _ _ h hs
              · replace h := h.2 c
                refine fr_X10_fail h (fun v I2 J2 h hs2 => ?_)
                replace hs := hs.trans hs2 (by first | exact WL_sub rfl | exact WL_any (by simp [wls, wl, WL]))
                obtain ⟨g, h⟩ := h
                refine ⟨g, ?_⟩
                exact hq _ _ _ h hs
            · replace h := h.2 c
              exact fb_X9_readEdge_78 hq h hs
        · replace h := h.2 c
          exact hq _ _ _ h hs
      · replace h := h.2 c
        refine fr_X10_fail h (fun v I2 J2 h hs2 => ?_)
        replace hs := hs.trans hs2 (by first | exact WL_sub rfl | exact WL_any (by simp [wls, wl, WL]))
        obtain ⟨g, h⟩ := h
        refine ⟨g, ?_⟩
        exact hq _ _ _ h hs
    · replace h := h.2 c
      exact hq _ _ _ h hs
  · replace h := h.2 c
    refine fr_X10_fail h (fun v I2 J2 h hs2 => ?_)
    replace hs := hs.trans hs2 (by first | exact WL_sub rfl | exact WL_any (by simp [wls, wl, WL]))
    obtain ⟨g, h⟩ := h
    refine ⟨g, ?_⟩
    exact hq _ _ _ h hs
def W_X9_readParts (k2 : Nat) : Nat → Nat → Prop := WL [(101, 3), (101, 4), (101, 5), (101, 6), (101, 7), (101, 9), (101, 10), (101, 11), (103, 0), (k2, 2)]
theorem W_X9_readParts_n {k2 : Nat} {k : Nat} (h : wlk [(101, 3), (101, 4), (101, 5), (101, 6), (101, 7), (101, 9), (101, 10), (101, 11), (103, 0), (k2, 2)] k = false := by rfl) : ∀ i, ¬ W_X9_readParts k2 k i := WL_n h
set_option maxHeartbeats 4000000 in
set_option maxRecDepth 100000 in
theorem fr_X9_readParts {k2 : Nat} {P Q : Int → Ii → Jj → Prop} {I0 : Ii} {J0 : Jj} (h : wp_X9_readParts k2 I0 J0 P) (hq : ∀ (v : Int) (I' : Ii) (J' : Jj), P v I' J' → Same (W_X9_readParts k2) I0 J0 I' J' → Q v I' J') : wp_X9_readParts k2 I0 J0 Q := by
  have hs := Same.rf (W := (W_X9_readParts k2)) I0 J0
  unfold wp_X9_readParts at h ⊢
  obtain ⟨g, h⟩ := h
  refine ⟨g, ?_⟩
  refine fr_X9_takesOnce h (fun v I2 J2 h hs2 => ?_)
  replace hs := hs.trans hs2 (by first | exact WL_sub rfl | exact WL_any (by simp [wls, wl, WL]))
  refine ⟨fun c => ?_, fun c => ?_⟩
  · replace h := h.1 c
    exact hq _ _ _ h hs
  · replace h := h.2 c
    refine fr_X10_takesNumber h (fun v I2 J2 h hs2 => ?_)
    replace hs := hs.trans hs2 (by first | exact WL_sub rfl | exact WL_any (by simp [wls, wl, WL]))
    refine ⟨fun c => ?_, fun c => ?_⟩
    · replace h := h.1 c
      intro I1 e1
      replace h := h I1 e1
      replace hs := hs.upI e1 (by first | rfl | simp [W_X9_readParts, WL, wl])
      exact hq _ _ _ h hs
    · replace h := h.2 c
      exact hq _ _ _ h hs
def W_X9_readSlack (k2 : Nat) : Nat → Nat → Prop := WL [(101, 3), (101, 4), (101, 5), (101, 6), (101, 7), (101, 9), (101, 10), (101, 11), (103, 0), (k2, 3)]
theorem W_X9_readSlack_n {k2 : Nat} {k : Nat} (h : wlk [(101, 3), (101, 4), (101, 5), (101, 6), (101, 7), (101, 9), (101, 10), (101, 11), (103, 0), (k2, 3)] k = false := by rfl) : ∀ i, ¬ W_X9_readSlack k2 k i := WL_n h
set_option maxHeartbeats 4000000 in
set_option maxRecDepth 100000 in
theorem fr_X9_readSlack {k2 : Nat} {P Q : Int → Ii → Jj → Prop} {I0 : Ii} {J0 : Jj} (h : wp_X9_readSlack k2 I0 J0 P) (hq : ∀ (v : Int) (I' : Ii) (J' : Jj), P v I' J' → Same (W_X9_readSlack k2) I0 J0 I' J' → Q v I' J') : wp_X9_readSlack k2 I0 J0 Q := by
  have hs := Same.rf (W := (W_X9_readSlack k2)) I0 J0
  unfold wp_X9_readSlack at h ⊢
  obtain ⟨g, h⟩ := h
  refine ⟨g, ?_⟩
  refine fr_X9_takesOnce h (fun v I2 J2 h hs2 => ?_)
  replace hs := hs.trans hs2 (by first | exact WL_sub rfl | exact WL_any (by simp [wls, wl, WL]))
  refine ⟨fun c => ?_, fun c => ?_⟩
  · replace h := h.1 c
    exact hq _ _ _ h hs
  · replace h := h.2 c
    refine fr_X10_takesNumber h (fun v I2 J2 h hs2 => ?_)
    replace hs := hs.trans hs2 (by first | exact WL_sub rfl | exact WL_any (by simp [wls, wl, WL]))
    refine ⟨fun c => ?_, fun c => ?_⟩
    · replace h := h.1 c
      intro I1 e1
      replace h := h I1 e1
      replace hs := hs.upI e1 (by first | rfl | simp [W_X9_readSlack, WL, wl])
      exact hq _ _ _ h hs
    · replace h := h.2 c
      exact hq _ _ _ h hs
def W_X9_readCredit (k2 : Nat) : Nat → Nat → Prop := WL [(101, 3), (101, 4), (101, 5), (101, 6), (101, 7), (101, 9), (101, 10), (101, 11), (103, 0), (k2, 4)]
theorem W_X9_readCredit_n {k2 : Nat} {k : Nat} (h : wlk [(101, 3), (101, 4), (101, 5), (101, 6), (101, 7), (101, 9), (101, 10), (101, 11), (103, 0), (k2, 4)] k = false := by rfl) : ∀ i, ¬ W_X9_readCredit k2 k i := WL_n h
set_option maxHeartbeats 4000000 in
set_option maxRecDepth 100000 in
theorem fr_X9_readCredit {k2 : Nat} {P Q : Int → Ii → Jj → Prop} {I0 : Ii} {J0 : Jj} (h : wp_X9_readCredit k2 I0 J0 P) (hq : ∀ (v : Int) (I' : Ii) (J' : Jj), P v I' J' → Same (W_X9_readCredit k2) I0 J0 I' J' → Q v I' J') : wp_X9_readCredit k2 I0 J0 Q := by
  have hs := Same.rf (W := (W_X9_readCredit k2)) I0 J0
  unfold wp_X9_readCredit at h ⊢
  obtain ⟨g, h⟩ := h
  refine ⟨g, ?_⟩
  refine fr_X9_takesOnce h (fun v I2 J2 h hs2 => ?_)
  replace hs := hs.trans hs2 (by first | exact WL_sub rfl | exact WL_any (by simp [wls, wl, WL]))
  refine ⟨fun c => ?_, fun c => ?_⟩
  · replace h := h.1 c
    exact hq _ _ _ h hs
  · replace h := h.2 c
    refine fr_X10_takesNumber h (fun v I2 J2 h hs2 => ?_)
    replace hs := hs.trans hs2 (by first | exact WL_sub rfl | exact WL_any (by simp [wls, wl, WL]))
    refine ⟨fun c => ?_, fun c => ?_⟩
    · replace h := h.1 c
      intro I1 e1
      replace h := h I1 e1
      replace hs := hs.upI e1 (by first | rfl | simp [W_X9_readCredit, WL, wl])
      exact hq _ _ _ h hs
    · replace h := h.2 c
      exact hq _ _ _ h hs
def W_X11_whyNotShrink : Nat → Nat → Prop := WL [(113, 0), (113, 1), (113, 2), (113, 3), (113, 4), (113, 5), (114, 1000), (115, 1000), (116, 1000), (117, 1000), (118, 1000), (119, 1000), (120, 4), (121, 1000), (122, 1000)]
theorem W_X11_whyNotShrink_n {k : Nat} (h : wlk [(113, 0), (113, 1), (113, 2), (113, 3), (113, 4), (113, 5), (114, 1000), (115, 1000), (116, 1000), (117, 1000), (118, 1000), (119, 1000), (120, 4), (121, 1000), (122, 1000)] k = false := by rfl) : ∀ i, ¬ W_X11_whyNotShrink k i := WL_n h
set_option maxHeartbeats 4000000 in
set_option maxRecDepth 100000 in
theorem fr_X11_whyNotShrink {P Q : Int → Ii → Jj → Prop} {I0 : Ii} {J0 : Jj} (h : wp_X11_whyNotShrink I0 J0 P) (hq : ∀ (v : Int) (I' : Ii) (J' : Jj), P v I' J' → Same (W_X11_whyNotShrink) I0 J0 I' J' → Q v I' J') : wp_X11_whyNotShrink I0 J0 Q := by
  have hs := Same.rf (W := (W_X11_whyNotShrink)) I0 J0
  unfold wp_X11_whyNotShrink at h ⊢
  obtain ⟨g, h⟩ := h
  refine ⟨g, ?_⟩
  refine ⟨fun c => ?_, fun c => ?_⟩
  · replace h := h.1 c
    refine fr_X11_findPairs h (fun I2 J2 h hs2 => ?_)
    replace hs := hs.trans hs2 (WL_sub rfl)
    obtain ⟨g, h⟩ := h
    refine ⟨g, ?_⟩
    refine ⟨fun c => ?_, fun c => ?_⟩
    · replace h := h.1 c
      exact hq _ _ _ h hs
    · replace h := h.2 c
      exact hq _ _ _ h hs
  · replace h := h.2 c
    exact hq _ _ _ h hs
def W_X11_searchBest : Nat → Nat → Prop := WL [(113, 0), (113, 1), (113, 2), (113, 3), (113, 4), (113, 5), (114, 1000), (115, 1000), (116, 1000), (117, 1000), (118, 1000), (119, 1000), (121, 1000), (124, 3), (124, 4), (125, 1000), (126, 1000), (127, 1000)]
theorem W_X11_searchBest_n {k : Nat} (h : wlk [(113, 0), (113, 1), (113, 2), (113, 3), (113, 4), (113, 5), (114, 1000), (115, 1000), (116, 1000), (117, 1000), (118, 1000), (119, 1000), (121, 1000), (124, 3), (124, 4), (125, 1000), (126, 1000), (127, 1000)] k = false := by rfl) : ∀ i, ¬ W_X11_searchBest k i := WL_n h
set_option maxHeartbeats 4000000 in
set_option maxRecDepth 100000 in
theorem fr_X11_searchBest {P Q : Ii → Jj → Prop} {I0 : Ii} {J0 : Jj} (h : wp_X11_searchBest I0 J0 P) (hq : ∀ (I' : Ii) (J' : Jj), P I' J' → Same (W_X11_searchBest) I0 J0 I' J' → Q I' J') : wp_X11_searchBest I0 J0 Q := by
  have hs := Same.rf (W := (W_X11_searchBest)) I0 J0
  unfold wp_X11_searchBest at h ⊢
  refine fr_X4_take h (fun I2 J2 h hs2 => ?_)
  replace hs := hs.trans hs2 (WL_sub rfl)
  refine fr_X5_join h (fun I2 J2 h hs2 => ?_)
  replace hs := hs.trans hs2 (WL_sub rfl)
  refine fr_X0_search h (fun I2 J2 h hs2 => ?_)
  replace hs := hs.trans hs2 (WL_sub rfl)
  exact hq _ _ h hs
def W_X11_trySteps : Nat → Nat → Prop := WL [(113, 0), (113, 1), (113, 2), (113, 3), (113, 4), (113, 5), (114, 1000), (115, 1000), (116, 1000), (117, 1000), (118, 1000), (119, 1000), (310, 0), (310, 1), (310, 2), (310 + 1, 1000), (310 + 2, 1000), (310 + 3, 1000), (310 + 4, 1000)]
theorem W_X11_trySteps_n {k : Nat} (h : wlk [(113, 0), (113, 1), (113, 2), (113, 3), (113, 4), (113, 5), (114, 1000), (115, 1000), (116, 1000), (117, 1000), (118, 1000), (119, 1000), (310, 0), (310, 1), (310, 2), (310 + 1, 1000), (310 + 2, 1000), (310 + 3, 1000), (310 + 4, 1000)] k = false := by rfl) : ∀ i, ¬ W_X11_trySteps k i := WL_n h
set_option maxHeartbeats 4000000 in
set_option maxRecDepth 100000 in
theorem fr_X11_trySteps {l1 : Int} {P Q : Int → Ii → Jj → Prop} {I0 : Ii} {J0 : Jj} (h : wp_X11_trySteps l1 I0 J0 P) (hq : ∀ (v : Int) (I' : Ii) (J' : Jj), P v I' J' → Same (W_X11_trySteps) I0 J0 I' J' → Q v I' J') : wp_X11_trySteps l1 I0 J0 Q := by
  have hs := Same.rf (W := (W_X11_trySteps)) I0 J0
  unfold wp_X11_trySteps at h ⊢
  refine fr_X8_copyFrom h (fun I2 J2 h hs2 => ?_)
  replace hs := hs.trans hs2 (WL_sub rfl)
  refine fr_X11_makeSteps h (fun v I2 J2 h hs2 => ?_)
  replace hs := hs.trans hs2 (WL_sub rfl)
  exact hq _ _ _ h hs
def W_X11_shrink : Nat → Nat → Prop := WL [(111, 1), (111, 2), (113, 0), (113, 1), (113, 2), (113, 3), (113, 4), (113, 5), (114, 1000), (115, 1000), (116, 1000), (117, 1000), (118, 1000), (119, 1000), (120, 3), (120, 4), (121, 1000), (122, 1000), (123, 1000), (300, 0), (300 + 2, 1000), (300 + 3, 1000), (330, 1000), (331, 1000), (332, 1000), (333, 1000), (334, 1000), (340, 1000), (341, 1000), (342, 1000), (343, 1000), (344, 1000), (350, 1000), (351, 1000), (352, 1000), (353, 1000), (354, 1000), (360, 1000), (361, 1000), (362, 1000), (363, 1000), (364, 1000), (370, 1000), (371, 1000), (372, 1000), (373, 1000), (374, 1000), (380, 1000), (381, 1000), (382, 1000), (383, 1000), (384, 1000)]
theorem W_X11_shrink_n {k : Nat} (h : wlk [(111, 1), (111, 2), (113, 0), (113, 1), (113, 2), (113, 3), (113, 4), (113, 5), (114, 1000), (115, 1000), (116, 1000), (117, 1000), (118, 1000), (119, 1000), (120, 3), (120, 4), (121, 1000), (122, 1000), (123, 1000), (300, 0), (300 + 2, 1000), (300 + 3, 1000), (330, 1000), (331, 1000), (332, 1000), (333, 1000), (334, 1000), (340, 1000), (341, 1000), (342, 1000), (343, 1000), (344, 1000), (350, 1000), (351, 1000), (352, 1000), (353, 1000), (354, 1000), (360, 1000), (361, 1000), (362, 1000), (363, 1000), (364, 1000), (370, 1000), (371, 1000), (372, 1000), (373, 1000), (374, 1000), (380, 1000), (381, 1000), (382, 1000), (383, 1000), (384, 1000)] k = false := by rfl) : ∀ i, ¬ W_X11_shrink k i := WL_n h
set_option maxHeartbeats 4000000 in
set_option maxRecDepth 100000 in
theorem fr_X11_shrink {P Q : Int → Ii → Jj → Prop} {I0 : Ii} {J0 : Jj} (h : wp_X11_shrink I0 J0 P) (hq : ∀ (v : Int) (I' : Ii) (J' : Jj), P v I' J' → Same (W_X11_shrink) I0 J0 I' J' → Q v I' J') : wp_X11_shrink I0 J0 Q := by
  have hs := Same.rf (W := (W_X11_shrink)) I0 J0
  unfold wp_X11_shrink at h ⊢
  refine fr_X11_whyNotShrink h (fun v I2 J2 h hs2 => ?_)
  replace hs := hs.trans hs2 (WL_sub rfl)
  obtain ⟨g, h⟩ := h
  refine ⟨g, ?_⟩
  refine ⟨fun c => ?_, fun c => ?_⟩
  · replace h := h.1 c
    refine fr_X3_keep h (fun I2 J2 h hs2 => ?_)
    replace hs := hs.trans hs2 (WL_sub rfl)
    refine fr_X11_mergeGroups h (fun I2 J2 h hs2 => ?_)
    replace hs := hs.trans hs2 (WL_sub rfl)
    refine fr_X8_groupCount h (fun v h => ?_)
    exact hq _ _ _ h hs
  · replace h := h.2 c
    exact False.elim h
def W_X11_grow : Nat → Nat → Prop := WL [(111, 1), (111, 2), (300, 0), (330, 1000), (331, 1000), (332, 1000), (333, 1000), (334, 1000), (340, 1000), (341, 1000), (342, 1000), (343, 1000), (344, 1000), (350, 1000), (351, 1000), (352, 1000), (353, 1000), (354, 1000), (360, 1000), (361, 1000), (362, 1000), (363, 1000), (364, 1000), (370, 1000), (371, 1000), (372, 1000), (373, 1000), (374, 1000), (380, 1000), (381, 1000), (382, 1000), (383, 1000), (384, 1000)]
theorem W_X11_grow_n {k : Nat} (h : wlk [(111, 1), (111, 2), (300, 0), (330, 1000), (331, 1000), (332, 1000), (333, 1000), (334, 1000), (340, 1000), (341, 1000), (342, 1000), (343, 1000), (344, 1000), (350, 1000), (351, 1000), (352, 1000), (353, 1000), (354, 1000), (360, 1000), (361, 1000), (362, 1000), (363, 1000), (364, 1000), (370, 1000), (371, 1000), (372, 1000), (373, 1000), (374, 1000), (380, 1000), (381, 1000), (382, 1000), (383, 1000), (384, 1000)] k = false := by rfl) : ∀ i, ¬ W_X11_grow k i := WL_n h
set_option maxHeartbeats 4000000 in
set_option maxRecDepth 100000 in
theorem fr_X11_grow {P Q : Int → Ii → Jj → Prop} {I0 : Ii} {J0 : Jj} (h : wp_X11_grow I0 J0 P) (hq : ∀ (v : Int) (I' : Ii) (J' : Jj), P v I' J' → Same (W_X11_grow) I0 J0 I' J' → Q v I' J') : wp_X11_grow I0 J0 Q := by
  have hs := Same.rf (W := (W_X11_grow)) I0 J0
  unfold wp_X11_grow at h ⊢
  obtain ⟨g, h⟩ := h
  refine ⟨g, ?_⟩
  refine ⟨fun c => ?_, fun c => ?_⟩
  · replace h := h.1 c
    refine fr_X3_keep h (fun I2 J2 h hs2 => ?_)
    replace hs := hs.trans hs2 (WL_sub rfl)
    intro I1 e1
    replace h := h I1 e1
    replace hs := hs.upI e1 rfl
    refine fr_X8_groupCount h (fun v h => ?_)
    exact hq _ _ _ h hs
  · replace h := h.2 c
    exact False.elim h
def W_X11_move : Nat → Nat → Prop := WL [(111, 1), (111, 2), (113, 0), (113, 1), (113, 2), (113, 3), (113, 4), (113, 5), (114, 1000), (115, 1000), (116, 1000), (117, 1000), (118, 1000), (119, 1000), (300, 2), (300 + 1, 1000), (300 + 4, 1000), (330, 1000), (331, 1000), (332, 1000), (333, 1000), (334, 1000), (340, 1000), (341, 1000), (342, 1000), (343, 1000), (344, 1000), (350, 1000), (351, 1000), (352, 1000), (353, 1000), (354, 1000), (360, 1000), (361, 1000), (362, 1000), (363, 1000), (364, 1000), (370, 1000), (371, 1000), (372, 1000), (373, 1000), (374, 1000), (380, 1000), (381, 1000), (382, 1000), (383, 1000), (384, 1000)]
theorem W_X11_move_n {k : Nat} (h : wlk [(111, 1), (111, 2), (113, 0), (113, 1), (113, 2), (113, 3), (113, 4), (113, 5), (114, 1000), (115, 1000), (116, 1000), (117, 1000), (118, 1000), (119, 1000), (300, 2), (300 + 1, 1000), (300 + 4, 1000), (330, 1000), (331, 1000), (332, 1000), (333, 1000), (334, 1000), (340, 1000), (341, 1000), (342, 1000), (343, 1000), (344, 1000), (350, 1000), (351, 1000), (352, 1000), (353, 1000), (354, 1000), (360, 1000), (361, 1000), (362, 1000), (363, 1000), (364, 1000), (370, 1000), (371, 1000), (372, 1000), (373, 1000), (374, 1000), (380, 1000), (381, 1000), (382, 1000), (383, 1000), (384, 1000)] k = false := by rfl) : ∀ i, ¬ W_X11_move k i := WL_n h
set_option maxHeartbeats 4000000 in
set_option maxRecDepth 100000 in
theorem fr_X11_move {l1 : Int} {l2 : Int} {P Q : Int → Ii → Jj → Prop} {I0 : Ii} {J0 : Jj} (h : wp_X11_move l1 l2 I0 J0 P) (hq : ∀ (v : Int) (I' : Ii) (J' : Jj), P v I' J' → Same (W_X11_move) I0 J0 I' J' → Q v I' J') : wp_X11_move l1 l2 I0 J0 Q := by
  have hs := Same.rf (W := (W_X11_move)) I0 J0
  unfold wp_X11_move at h ⊢
  refine fr_X11_whyNotMove h (fun v I2 J2 h hs2 => ?_)
  replace hs := hs.trans hs2 (WL_sub rfl)
  obtain ⟨g, h⟩ := h
  refine ⟨g, ?_⟩
  refine ⟨fun c => ?_, fun c => ?_⟩
  · replace h := h.1 c
    refine fr_X3_keep h (fun I2 J2 h hs2 => ?_)
    replace hs := hs.trans hs2 (WL_sub rfl)
    refine fr_X11_takeTo h (fun I2 J2 h hs2 => ?_)
    replace hs := hs.trans hs2 (WL_sub rfl)
    refine fr_X11_cut h (fun v I2 J2 h hs2 => ?_)
    replace hs := hs.trans hs2 (WL_sub rfl)
    exact hq _ _ _ h hs
  · replace h := h.2 c
    exact False.elim h
def W_X11_step : Nat → Nat → Prop := WL [(111, 1), (111, 2), (113, 0), (113, 1), (113, 2), (113, 3), (113, 4), (113, 5), (114, 1000), (115, 1000), (116, 1000), (117, 1000), (118, 1000), (119, 1000), (300, 2), (300 + 1, 1000), (300 + 4, 1000), (330, 1000), (331, 1000), (332, 1000), (333, 1000), (334, 1000), (340, 1000), (341, 1000), (342, 1000), (343, 1000), (344, 1000), (350, 1000), (351, 1000), (352, 1000), (353, 1000), (354, 1000), (360, 1000), (361, 1000), (362, 1000), (363, 1000), (364, 1000), (370, 1000), (371, 1000), (372, 1000), (373, 1000), (374, 1000), (380, 1000), (381, 1000), (382, 1000), (383, 1000), (384, 1000)]
theorem W_X11_step_n {k : Nat} (h : wlk [(111, 1), (111, 2), (113, 0), (113, 1), (113, 2), (113, 3), (113, 4), (113, 5), (114, 1000), (115, 1000), (116, 1000), (117, 1000), (118, 1000), (119, 1000), (300, 2), (300 + 1, 1000), (300 + 4, 1000), (330, 1000), (331, 1000), (332, 1000), (333, 1000), (334, 1000), (340, 1000), (341, 1000), (342, 1000), (343, 1000), (344, 1000), (350, 1000), (351, 1000), (352, 1000), (353, 1000), (354, 1000), (360, 1000), (361, 1000), (362, 1000), (363, 1000), (364, 1000), (370, 1000), (371, 1000), (372, 1000), (373, 1000), (374, 1000), (380, 1000), (381, 1000), (382, 1000), (383, 1000), (384, 1000)] k = false := by rfl) : ∀ i, ¬ W_X11_step k i := WL_n h
set_option maxHeartbeats 4000000 in
set_option maxRecDepth 100000 in
theorem fr_X11_step {P Q : Int → Ii → Jj → Prop} {I0 : Ii} {J0 : Jj} (h : wp_X11_step I0 J0 P) (hq : ∀ (v : Int) (I' : Ii) (J' : Jj), P v I' J' → Same (W_X11_step) I0 J0 I' J' → Q v I' J') : wp_X11_step I0 J0 Q := by
  have hs := Same.rf (W := (W_X11_step)) I0 J0
  unfold wp_X11_step at h ⊢
  refine fr_X11_nextStep h (fun v I2 J2 h hs2 => ?_)
  replace hs := hs.trans hs2 (WL_sub rfl)
  obtain ⟨g, h⟩ := h
  refine ⟨g, ?_⟩
  refine ⟨fun c => ?_, fun c => ?_⟩
  · replace h := h.1 c
    refine fr_X3_keep h (fun I2 J2 h hs2 => ?_)
    replace hs := hs.trans hs2 (WL_sub rfl)
    refine fr_X11_makeSteps h (fun v I2 J2 h hs2 => ?_)
    replace hs := hs.trans hs2 (WL_sub rfl)
    refine fr_X11_cut h (fun v I2 J2 h hs2 => ?_)
    replace hs := hs.trans hs2 (WL_sub rfl)
    exact hq _ _ _ h hs
  · replace h := h.2 c
    exact hq _ _ _ h hs
def W_X11_steps : Nat → Nat → Prop := WL [(111, 1), (111, 2), (113, 0), (113, 1), (113, 2), (113, 3), (113, 4), (113, 5), (114, 1000), (115, 1000), (116, 1000), (117, 1000), (118, 1000), (119, 1000), (300, 2), (300 + 1, 1000), (300 + 4, 1000), (330, 1000), (331, 1000), (332, 1000), (333, 1000), (334, 1000), (340, 1000), (341, 1000), (342, 1000), (343, 1000), (344, 1000), (350, 1000), (351, 1000), (352, 1000), (353, 1000), (354, 1000), (360, 1000), (361, 1000), (362, 1000), (363, 1000), (364, 1000), (370, 1000), (371, 1000), (372, 1000), (373, 1000), (374, 1000), (380, 1000), (381, 1000), (382, 1000), (383, 1000), (384, 1000)]
theorem W_X11_steps_n {k : Nat} (h : wlk [(111, 1), (111, 2), (113, 0), (113, 1), (113, 2), (113, 3), (113, 4), (113, 5), (114, 1000), (115, 1000), (116, 1000), (117, 1000), (118, 1000), (119, 1000), (300, 2), (300 + 1, 1000), (300 + 4, 1000), (330, 1000), (331, 1000), (332, 1000), (333, 1000), (334, 1000), (340, 1000), (341, 1000), (342, 1000), (343, 1000), (344, 1000), (350, 1000), (351, 1000), (352, 1000), (353, 1000), (354, 1000), (360, 1000), (361, 1000), (362, 1000), (363, 1000), (364, 1000), (370, 1000), (371, 1000), (372, 1000), (373, 1000), (374, 1000), (380, 1000), (381, 1000), (382, 1000), (383, 1000), (384, 1000)] k = false := by rfl) : ∀ i, ¬ W_X11_steps k i := WL_n h
set_option maxHeartbeats 4000000 in
set_option maxRecDepth 100000 in
theorem fr_X11_steps {l1 : Int} {P Q : Int → Ii → Jj → Prop} {I0 : Ii} {J0 : Jj} (h : wp_X11_steps l1 I0 J0 P) (hq : ∀ (v : Int) (I' : Ii) (J' : Jj), P v I' J' → Same (W_X11_steps) I0 J0 I' J' → Q v I' J') : wp_X11_steps l1 I0 J0 Q := by
  have hs := Same.rf (W := (W_X11_steps)) I0 J0
  unfold wp_X11_steps at h ⊢
  refine fr_X11_isStepCount h (fun v h => ?_)
  refine ⟨fun c => ?_, fun c => ?_⟩
  · replace h := h.1 c
    refine fr_X3_keep h (fun I2 J2 h hs2 => ?_)
    replace hs := hs.trans hs2 (WL_sub rfl)
    refine fr_X11_makeSteps h (fun v I2 J2 h hs2 => ?_)
    replace hs := hs.trans hs2 (WL_sub rfl)
    exact hq _ _ _ h hs
  · replace h := h.2 c
    exact False.elim h
def W_X11_placeBest : Nat → Nat → Prop := WL [(111, 1), (111, 2), (113, 0), (113, 1), (113, 2), (113, 3), (113, 4), (113, 5), (114, 1000), (115, 1000), (116, 1000), (117, 1000), (118, 1000), (119, 1000), (121, 1000), (124, 3), (124, 4), (125, 1000), (126, 1000), (127, 1000), (300, 2), (300 + 1, 1000), (300 + 4, 1000), (330, 1000), (331, 1000), (332, 1000), (333, 1000), (334, 1000), (340, 1000), (341, 1000), (342, 1000), (343, 1000), (344, 1000), (350, 1000), (351, 1000), (352, 1000), (353, 1000), (354, 1000), (360, 1000), (361, 1000), (362, 1000), (363, 1000), (364, 1000), (370, 1000), (371, 1000), (372, 1000), (373, 1000), (374, 1000), (380, 1000), (381, 1000), (382, 1000), (383, 1000), (384, 1000)]
theorem W_X11_placeBest_n {k : Nat} (h : wlk [(111, 1), (111, 2), (113, 0), (113, 1), (113, 2), (113, 3), (113, 4), (113, 5), (114, 1000), (115, 1000), (116, 1000), (117, 1000), (118, 1000), (119, 1000), (121, 1000), (124, 3), (124, 4), (125, 1000), (126, 1000), (127, 1000), (300, 2), (300 + 1, 1000), (300 + 4, 1000), (330, 1000), (331, 1000), (332, 1000), (333, 1000), (334, 1000), (340, 1000), (341, 1000), (342, 1000), (343, 1000), (344, 1000), (350, 1000), (351, 1000), (352, 1000), (353, 1000), (354, 1000), (360, 1000), (361, 1000), (362, 1000), (363, 1000), (364, 1000), (370, 1000), (371, 1000), (372, 1000), (373, 1000), (374, 1000), (380, 1000), (381, 1000), (382, 1000), (383, 1000), (384, 1000)] k = false := by rfl) : ∀ i, ¬ W_X11_placeBest k i := WL_n h
set_option maxHeartbeats 4000000 in
set_option maxRecDepth 100000 in
theorem fr_X11_placeBest {P Q : Int → Ii → Jj → Prop} {I0 : Ii} {J0 : Jj} (h : wp_X11_placeBest I0 J0 P) (hq : ∀ (v : Int) (I' : Ii) (J' : Jj), P v I' J' → Same (W_X11_placeBest) I0 J0 I' J' → Q v I' J') : wp_X11_placeBest I0 J0 Q := by
  have hs := Same.rf (W := (W_X11_placeBest)) I0 J0
  unfold wp_X11_placeBest at h ⊢
  refine fr_X11_hasFewGroups h (fun v h => ?_)
  refine ⟨fun c => ?_, fun c => ?_⟩
  · replace h := h.1 c
    refine fr_X3_keep h (fun I2 J2 h hs2 => ?_)
    replace hs := hs.trans hs2 (WL_sub rfl)
    refine fr_X11_searchBest h (fun I2 J2 h hs2 => ?_)
    replace hs := hs.trans hs2 (WL_sub rfl)
    refine fr_X11_takeBest h (fun v I2 J2 h hs2 => ?_)
    replace hs := hs.trans hs2 (WL_sub rfl)
    exact hq _ _ _ h hs
  · replace h := h.2 c
    exact False.elim h
def W_X11_placeApart : Nat → Nat → Prop := WL [(111, 1), (111, 2), (113, 0), (113, 1), (113, 2), (113, 3), (113, 4), (113, 5), (114, 1000), (115, 1000), (116, 1000), (117, 1000), (118, 1000), (119, 1000), (128, 3), (128, 4), (128, 5), (129, 1000), (130, 1000), (131, 1000), (300, 2), (300 + 1, 1000), (300 + 4, 1000), (330, 1000), (331, 1000), (332, 1000), (333, 1000), (334, 1000), (340, 1000), (341, 1000), (342, 1000), (343, 1000), (344, 1000), (350, 1000), (351, 1000), (352, 1000), (353, 1000), (354, 1000), (360, 1000), (361, 1000), (362, 1000), (363, 1000), (364, 1000), (370, 1000), (371, 1000), (372, 1000), (373, 1000), (374, 1000), (380, 1000), (381, 1000), (382, 1000), (383, 1000), (384, 1000)]
theorem W_X11_placeApart_n {k : Nat} (h : wlk [(111, 1), (111, 2), (113, 0), (113, 1), (113, 2), (113, 3), (113, 4), (113, 5), (114, 1000), (115, 1000), (116, 1000), (117, 1000), (118, 1000), (119, 1000), (128, 3), (128, 4), (128, 5), (129, 1000), (130, 1000), (131, 1000), (300, 2), (300 + 1, 1000), (300 + 4, 1000), (330, 1000), (331, 1000), (332, 1000), (333, 1000), (334, 1000), (340, 1000), (341, 1000), (342, 1000), (343, 1000), (344, 1000), (350, 1000), (351, 1000), (352, 1000), (353, 1000), (354, 1000), (360, 1000), (361, 1000), (362, 1000), (363, 1000), (364, 1000), (370, 1000), (371, 1000), (372, 1000), (373, 1000), (374, 1000), (380, 1000), (381, 1000), (382, 1000), (383, 1000), (384, 1000)] k = false := by rfl) : ∀ i, ¬ W_X11_placeApart k i := WL_n h
set_option maxHeartbeats 4000000 in
set_option maxRecDepth 100000 in
theorem fr_X11_placeApart {l1 : Int} {l2 : Int} {P Q : Int → Ii → Jj → Prop} {I0 : Ii} {J0 : Jj} (h : wp_X11_placeApart l1 l2 I0 J0 P) (hq : ∀ (v : Int) (I' : Ii) (J' : Jj), P v I' J' → Same (W_X11_placeApart) I0 J0 I' J' → Q v I' J') : wp_X11_placeApart l1 l2 I0 J0 Q := by
  have hs := Same.rf (W := (W_X11_placeApart)) I0 J0
  unfold wp_X11_placeApart at h ⊢
  refine fr_X11_requireVertex h (fun h => ?_)
  refine fr_X11_requireVertex h (fun h => ?_)
  obtain ⟨g, h⟩ := h
  refine ⟨g, ?_⟩
  obtain ⟨g, h⟩ := h
  refine ⟨g, ?_⟩
  refine ⟨fun c => ?_, fun c => ?_⟩
  · replace h := h.1 c
    refine fr_X11_canTakeApart h (fun v h => ?_)
    refine ⟨fun c => ?_, fun c => ?_⟩
    · replace h := h.1 c
      refine fr_X3_keep h (fun I2 J2 h hs2 => ?_)
      replace hs := hs.trans hs2 (WL_sub rfl)
      refine fr_X11_takeApart h (fun v I2 J2 h hs2 => ?_)
      replace hs := hs.trans hs2 (WL_sub rfl)
      exact hq _ _ _ h hs
    · replace h := h.2 c
      exact False.elim h
  · replace h := h.2 c
    exact False.elim h
def W_X11_setCredit : Nat → Nat → Prop := WL [(111, 1), (111, 2), (300, 1), (330, 1000), (331, 1000), (332, 1000), (333, 1000), (334, 1000), (340, 1000), (341, 1000), (342, 1000), (343, 1000), (344, 1000), (350, 1000), (351, 1000), (352, 1000), (353, 1000), (354, 1000), (360, 1000), (361, 1000), (362, 1000), (363, 1000), (364, 1000), (370, 1000), (371, 1000), (372, 1000), (373, 1000), (374, 1000), (380, 1000), (381, 1000), (382, 1000), (383, 1000), (384, 1000)]
theorem W_X11_setCredit_n {k : Nat} (h : wlk [(111, 1), (111, 2), (300, 1), (330, 1000), (331, 1000), (332, 1000), (333, 1000), (334, 1000), (340, 1000), (341, 1000), (342, 1000), (343, 1000), (344, 1000), (350, 1000), (351, 1000), (352, 1000), (353, 1000), (354, 1000), (360, 1000), (361, 1000), (362, 1000), (363, 1000), (364, 1000), (370, 1000), (371, 1000), (372, 1000), (373, 1000), (374, 1000), (380, 1000), (381, 1000), (382, 1000), (383, 1000), (384, 1000)] k = false := by rfl) : ∀ i, ¬ W_X11_setCredit k i := WL_n h
set_option maxHeartbeats 4000000 in
set_option maxRecDepth 100000 in
theorem fr_X11_setCredit {l1 : Int} {P Q : Int → Ii → Jj → Prop} {I0 : Ii} {J0 : Jj} (h : wp_X11_setCredit l1 I0 J0 P) (hq : ∀ (v : Int) (I' : Ii) (J' : Jj), P v I' J' → Same (W_X11_setCredit) I0 J0 I' J' → Q v I' J') : wp_X11_setCredit l1 I0 J0 Q := by
  have hs := Same.rf (W := (W_X11_setCredit)) I0 J0
  unfold wp_X11_setCredit at h ⊢
  refine fr_X11_isAllowance h (fun v h => ?_)
  refine ⟨fun c => ?_, fun c => ?_⟩
  · replace h := h.1 c
    refine fr_X3_keep h (fun I2 J2 h hs2 => ?_)
    replace hs := hs.trans hs2 (WL_sub rfl)
    intro I1 e1
    replace h := h I1 e1
    replace hs := hs.upI e1 rfl
    exact hq _ _ _ h hs
  · replace h := h.2 c
    exact False.elim h
def W_X11_report : Nat → Nat → Prop := WL [(100, 17), (132, 1000)]
theorem W_X11_report_n {k : Nat} (h : wlk [(100, 17), (132, 1000)] k = false := by rfl) : ∀ i, ¬ W_X11_report k i := WL_n h
theorem ls_X11_report_39 {Q : Int → Ii → Jj → Prop} {r12 : Int → Int → Ii → Jj → Prop} {n : Nat} {l1 : Int} {l2 : Int} {l3 : Int} {I : Ii} {J : Jj} (h : Lb_X11_report_39 Q r12 (L_X11_report_39 Q r12 n) l1 l2 l3 I J) : L_X11_report_39 Q r12 (n + 1) l1 l2 l3 I J := h
set_option maxHeartbeats 4000000 in
set_option maxRecDepth 100000 in
theorem fl_X11_report_39 {P Q : Int → Ii → Jj → Prop} {I0 : Ii} {J0 : Jj} (hq : ∀ (v : Int) (I' : Ii) (J' : Jj), P v I' J' → Same (W_X11_report) I0 J0 I' J' → Q v I' J') {r12 q12 : Int → Int → Ii → Jj → Prop} (hr12 : ∀ (l1 : Int) (l2 : Int) (I' : Ii) (J' : Jj), r12 l1 l2 I' J' → Same (W_X11_report) I0 J0 I' J' → q12 l1 l2 I' J') : ∀ (n : Nat) (l1 : Int) (l2 : Int) (l3 : Int) (I : Ii) (J : Jj), L_X11_report_39 P r12 n l1 l2 l3 I J → Same (W_X11_report) I0 J0 I J → L_X11_report_39 Q q12 n l1 l2 l3 I J := by
  intro n
  induction n with
  | zero => intro l1 l2 l3 I J h _; exact h
  | succ n ih =>
    intro l1 l2 l3 I J h hs
    have h : Lb_X11_report_39 P r12 (L_X11_report_39 P r12 n) l1 l2 l3 I J := h
    show Lb_X11_report_39 Q q12 (L_X11_report_39 Q q12 n) l1 l2 l3 I J
    have hr39 := ih
    clear ih
    unfold Lb_X11_report_39 at h ⊢
    obtain ⟨g, h⟩ := h
    refine ⟨g, ?_⟩
    obtain ⟨g, h⟩ := h
    refine ⟨g, ?_⟩
    refine ⟨fun c => ?_, fun c => ?_⟩
    · replace h := h.1 c
      refine fr_X11_write h (fun I2 J2 h hs2 => ?_)
      replace hs := hs.trans hs2 (WL_sub rfl)
      exact hr12 _ _ _ _ h hs
    · replace h := h.2 c
      refine fr_X11_at h (fun v h => ?_)
      obtain ⟨g, h⟩ := h
      refine ⟨g, ?_⟩
      obtain ⟨g, h⟩ := h
      refine ⟨g, ?_⟩
      refine ⟨fun c => ?_, fun c => ?_⟩
      · replace h := h.1 c
        exact hr39 _ _ _ _ _ h hs
      · replace h := h.2 c
        refine fr_X11_isIn h (fun v h => ?_)
        refine fr_X11_writeVertex h (fun I2 J2 h hs2 => ?_)
        replace hs := hs.trans hs2 (WL_sub rfl)
        exact hr39 _ _ _ _ _ h hs
theorem ls_X11_report_12 {Q : Int → Ii → Jj → Prop} {n : Nat} {l1 : Int} {l2 : Int} {I : Ii} {J : Jj} (h : Lb_X11_report_12 Q (L_X11_report_12 Q n) l1 l2 I J) : L_X11_report_12 Q (n + 1) l1 l2 I J := h
set_option maxHeartbeats 4000000 in
set_option maxRecDepth 100000 in
theorem fl_X11_report_12 {P Q : Int → Ii → Jj → Prop} {I0 : Ii} {J0 : Jj} (hq : ∀ (v : Int) (I' : Ii) (J' : Jj), P v I' J' → Same (W_X11_report) I0 J0 I' J' → Q v I' J') : ∀ (n : Nat) (l1 : Int) (l2 : Int) (I : Ii) (J : Jj), L_X11_report_12 P n l1 l2 I J → Same (W_X11_report) I0 J0 I J → L_X11_report_12 Q n l1 l2 I J := by
  intro n
  induction n with
  | zero => intro l1 l2 I J h _; exact h
  | succ n ih =>
    intro l1 l2 I J h hs
    have h : Lb_X11_report_12 P (L_X11_report_12 P n) l1 l2 I J := h
    show Lb_X11_report_12 Q (L_X11_report_12 Q n) l1 l2 I J
    have hr12 := ih
    clear ih
    unfold Lb_X11_report_12 at h ⊢
    obtain ⟨g, h⟩ := h
    refine ⟨g, ?_⟩
    obtain ⟨g, h⟩ := h
    refine ⟨g, ?_⟩
    refine ⟨fun c => ?_, fun c => ?_⟩
    · replace h := h.1 c
      exact hq _ _ _ h hs
    · replace h := h.2 c
      refine fr_X11_write h (fun I2 J2 h hs2 => ?_)
      replace hs := hs.trans hs2 (WL_sub rfl)
      refine fr_X11_write h (fun I2 J2 h hs2 => ?_)
      replace hs := hs.trans hs2 (WL_sub rfl)
      obtain ⟨n, h⟩ := h
      exact ⟨n, fl_X11_report_39 hq hr12 n _ _ _ _ _ h hs⟩
set_option maxHeartbeats 4000000 in
set_option maxRecDepth 100000 in
theorem fr_X11_report {P Q : Int → Ii → Jj → Prop} {I0 : Ii} {J0 : Jj} (h : wp_X11_report I0 J0 P) (hq : ∀ (v : Int) (I' : Ii) (J' : Jj), P v I' J' → Same (W_X11_report) I0 J0 I' J' → Q v I' J') : wp_X11_report I0 J0 Q := by
  have hs := Same.rf (W := (W_X11_report)) I0 J0
  unfold wp_X11_report at h ⊢
  refine fr_X11_border h (fun v h => ?_)
  intro I1 e1
  replace h := h I1 e1
  replace hs := hs.upI e1 rfl
  obtain ⟨n, h⟩ := h
  exact ⟨n, fl_X11_report_12 hq n _ _ _ _ h hs⟩
def W_X11_undo : Nat → Nat → Prop := WL [(111, 1), (111, 2), (300, 0), (300, 1), (300, 2), (300 + 1, 1000), (300 + 2, 1000), (300 + 3, 1000), (300 + 4, 1000)]
theorem W_X11_undo_n {k : Nat} (h : wlk [(111, 1), (111, 2), (300, 0), (300, 1), (300, 2), (300 + 1, 1000), (300 + 2, 1000), (300 + 3, 1000), (300 + 4, 1000)] k = false := by rfl) : ∀ i, ¬ W_X11_undo k i := WL_n h
set_option maxHeartbeats 4000000 in
set_option maxRecDepth 100000 in
theorem fr_X11_undo {P Q : Int → Ii → Jj → Prop} {I0 : Ii} {J0 : Jj} (h : wp_X11_undo I0 J0 P) (hq : ∀ (v : Int) (I' : Ii) (J' : Jj), P v I' J' → Same (W_X11_undo) I0 J0 I' J' → Q v I' J') : wp_X11_undo I0 J0 Q := by
  have hs := Same.rf (W := (W_X11_undo)) I0 J0
  unfold wp_X11_undo at h ⊢
  refine fr_X3_takeBack h (fun v I2 J2 h hs2 => ?_)
  replace hs := hs.trans hs2 (WL_sub rfl)
  refine ⟨fun c => ?_, fun c => ?_⟩
  · replace h := h.1 c
    exact hq _ _ _ h hs
  · replace h := h.2 c
    exact hq _ _ _ h hs
def W_X7_readApart (k3 : Nat) : Nat → Nat → Prop := WL [(101, 3), (101, 4), (101, 5), (101, 6), (101, 7), (101, 9), (101, 10), (101, 11), (106, 4), (106, 5), (107, 1000), (108, 1000), (109, 1000)]
theorem W_X7_readApart_n {k3 : Nat} {k : Nat} (h : wlk [(101, 3), (101, 4), (101, 5), (101, 6), (101, 7), (101, 9), (101, 10), (101, 11), (106, 4), (106, 5), (107, 1000), (108, 1000), (109, 1000)] k = false := by rfl) : ∀ i, ¬ W_X7_readApart k3 k i := WL_n h
set_option maxHeartbeats 4000000 in
set_option maxRecDepth 100000 in
theorem fr_X7_readApart {k3 : Nat} {P Q : Int → Ii → Jj → Prop} {I0 : Ii} {J0 : Jj} (h : wp_X7_readApart k3 I0 J0 P) (hq : ∀ (v : Int) (I' : Ii) (J' : Jj), P v I' J' → Same (W_X7_readApart k3) I0 J0 I' J' → Q v I' J') : wp_X7_readApart k3 I0 J0 Q := by
  have hs := Same.rf (W := (W_X7_readApart k3)) I0 J0
  unfold wp_X7_readApart at h ⊢
  obtain ⟨g, h⟩ := h
  refine ⟨g, ?_⟩
  refine fr_X7_takesVertex h (fun v I2 J2 h hs2 => ?_)
  replace hs := hs.trans hs2 (by first | exact WL_sub rfl | exact WL_any (by simp [wls, wl, WL]))
  refine ⟨fun c => ?_, fun c => ?_⟩
  · replace h := h.1 c
    refine fr_X2_vertexNamed h (fun v h => ?_)
    refine fr_X7_takesVertex h (fun v I2 J2 h hs2 => ?_)
    replace hs := hs.trans hs2 (by first | exact WL_sub rfl | exact WL_any (by simp [wls, wl, WL]))
    refine ⟨fun c => ?_, fun c => ?_⟩
    · replace h := h.1 c
      refine fr_X2_vertexNamed h (fun v h => ?_)
      refine fr_X6_addCommand h (fun I2 J2 h hs2 => ?_)
      replace hs := hs.trans hs2 (by first | exact WL_sub rfl | exact WL_any (by simp [wls, wl, WL]))
      exact hq _ _ _ h hs
    · replace h := h.2 c
      exact hq _ _ _ h hs
  · replace h := h.2 c
    exact hq _ _ _ h hs

