def W_X11_canPerform : Nat → Nat → Prop := WL [(113, 0), (113, 1), (113, 2), (113, 3), (113, 4), (113, 5), (114, 1000), (115, 1000), (116, 1000), (117, 1000), (118, 1000), (119, 1000), (120, 4), (121, 1000), (122, 1000)]
theorem W_X11_canPerform_n {k : Nat} (h : wlk [(113, 0), (113, 1), (113, 2), (113, 3), (113, 4), (113, 5), (114, 1000), (115, 1000), (116, 1000), (117, 1000), (118, 1000), (119, 1000), (120, 4), (121, 1000), (122, 1000)] k = false := by rfl) : ∀ i, ¬ W_X11_canPerform k i := WL_n h
set_option maxHeartbeats 4000000 in
set_option maxRecDepth 100000 in
theorem fr_X11_canPerform {l1 : Int} {l2 : Int} {l3 : Int} {P Q : Int → Ii → Jj → Prop} {I0 : Ii} {J0 : Jj} (h : wp_X11_canPerform l1 l2 l3 I0 J0 P) (hq : ∀ (v : Int) (I' : Ii) (J' : Jj), P v I' J' → Same (W_X11_canPerform) I0 J0 I' J' → Q v I' J') : wp_X11_canPerform l1 l2 l3 I0 J0 Q := by
  have hs := Same.rf (W := (W_X11_canPerform)) I0 J0
  unfold wp_X11_canPerform at h ⊢
  obtain ⟨g, h⟩ := h
  refine ⟨g, ?_⟩
  refine ⟨fun c => ?_, fun c => ?_, fun c => ?_, fun c => ?_, fun c => ?_, fun c => ?_, fun c => ?_, fun c => ?_, fun c => ?_⟩
  · replace h := h.1 c
    exact hq _ _ _ h hs
  · replace h := h.2.1 c
    refine fr_X11_whyNotShrink h (fun v I2 J2 h hs2 => ?_)
    replace hs := hs.trans hs2 (WL_sub rfl)
    obtain ⟨g, h⟩ := h
    refine ⟨g, ?_⟩
    refine ⟨fun c => ?_, fun c => ?_⟩
    · replace h := h.1 c
      exact hq _ _ _ h hs
    · replace h := h.2 c
      exact hq _ _ _ h hs
  · replace h := h.2.2.1 c
    obtain ⟨g, h⟩ := h
    refine ⟨g, ?_⟩
    refine ⟨fun c => ?_, fun c => ?_⟩
    · replace h := h.1 c
      exact hq _ _ _ h hs
    · replace h := h.2 c
      exact hq _ _ _ h hs
  · replace h := h.2.2.2.1 c
    refine fr_X11_hasGroup h (fun v h => ?_)
    refine ⟨fun c => ?_, fun c => ?_⟩
    · replace h := h.1 c
      exact hq _ _ _ h hs
    · replace h := h.2 c
      refine fr_X11_hasPart h (fun v h => ?_)
      refine ⟨fun c => ?_, fun c => ?_⟩
      · replace h := h.1 c
        exact hq _ _ _ h hs
      · replace h := h.2 c
        refine fr_X11_whyNotMove h (fun v I2 J2 h hs2 => ?_)
        replace hs := hs.trans hs2 (WL_sub rfl)
        obtain ⟨g, h⟩ := h
        refine ⟨g, ?_⟩
        refine ⟨fun c => ?_, fun c => ?_⟩
        · replace h := h.1 c
          exact hq _ _ _ h hs
        · replace h := h.2 c
          exact hq _ _ _ h hs
  · replace h := h.2.2.2.2.1 c
    refine fr_X11_nextStep h (fun v I2 J2 h hs2 => ?_)
    replace hs := hs.trans hs2 (WL_sub rfl)
    obtain ⟨g, h⟩ := h
    refine ⟨g, ?_⟩
    refine ⟨fun c => ?_, fun c => ?_⟩
    · replace h := h.1 c
      exact hq _ _ _ h hs
    · replace h := h.2 c
      exact hq _ _ _ h hs
  · replace h := h.2.2.2.2.2.1 c
    refine fr_X11_isStepCount h (fun v h => ?_)
    obtain ⟨g, h⟩ := h
    refine ⟨g, ?_⟩
    exact hq _ _ _ h hs
  · replace h := h.2.2.2.2.2.2.1 c
    refine fr_X11_hasFewGroups h (fun v h => ?_)
    obtain ⟨g, h⟩ := h
    refine ⟨g, ?_⟩
    exact hq _ _ _ h hs
  · replace h := h.2.2.2.2.2.2.2.1 c
    refine fr_X11_hasVertex h (fun v h => ?_)
    refine ⟨fun c => ?_, fun c => ?_⟩
    · replace h := h.1 c
      exact hq _ _ _ h hs
    · replace h := h.2 c
      refine fr_X11_hasVertex h (fun v h => ?_)
      refine ⟨fun c => ?_, fun c => ?_⟩
      · replace h := h.1 c
        exact hq _ _ _ h hs
      · replace h := h.2 c
        obtain ⟨g, h⟩ := h
        refine ⟨g, ?_⟩
        obtain ⟨g, h⟩ := h
        refine ⟨g, ?_⟩
        refine ⟨fun c => ?_, fun c => ?_⟩
        · replace h := h.1 c
          exact hq _ _ _ h hs
        · replace h := h.2 c
          refine fr_X11_canTakeApart h (fun v h => ?_)
          refine ⟨fun c => ?_, fun c => ?_⟩
          · replace h := h.1 c
            exact hq _ _ _ h hs
          · replace h := h.2 c
            exact hq _ _ _ h hs
  · replace h := h.2.2.2.2.2.2.2.2 c
    refine fr_X11_isAllowance h (fun v h => ?_)
    obtain ⟨g, h⟩ := h
    refine ⟨g, ?_⟩
    exact hq _ _ _ h hs
def W_X11_perform : Nat → Nat → Prop := WL [(113, 0), (113, 1), (113, 2), (113, 3), (113, 4), (113, 5), (114, 1000), (115, 1000), (116, 1000), (117, 1000), (118, 1000), (119, 1000), (120, 3), (120, 4), (121, 1000), (122, 1000), (123, 1000), (124, 3), (124, 4), (125, 1000), (126, 1000), (127, 1000), (128, 3), (128, 4), (128, 5), (129, 1000), (130, 1000), (131, 1000), (300, 0), (300, 1), (300, 2), (300 + 1, 1000), (300 + 2, 1000), (300 + 3, 1000), (300 + 4, 1000)]
theorem W_X11_perform_n {k : Nat} (h : wlk [(113, 0), (113, 1), (113, 2), (113, 3), (113, 4), (113, 5), (114, 1000), (115, 1000), (116, 1000), (117, 1000), (118, 1000), (119, 1000), (120, 3), (120, 4), (121, 1000), (122, 1000), (123, 1000), (124, 3), (124, 4), (125, 1000), (126, 1000), (127, 1000), (128, 3), (128, 4), (128, 5), (129, 1000), (130, 1000), (131, 1000), (300, 0), (300, 1), (300, 2), (300 + 1, 1000), (300 + 2, 1000), (300 + 3, 1000), (300 + 4, 1000)] k = false := by rfl) : ∀ i, ¬ W_X11_perform k i := WL_n h
set_option maxHeartbeats 4000000 in
set_option maxRecDepth 100000 in
theorem fr_X11_perform {l1 : Int} {l2 : Int} {l3 : Int} {P Q : Ii → Jj → Prop} {I0 : Ii} {J0 : Jj} (h : wp_X11_perform l1 l2 l3 I0 J0 P) (hq : ∀ (I' : Ii) (J' : Jj), P I' J' → Same (W_X11_perform) I0 J0 I' J' → Q I' J') : wp_X11_perform l1 l2 l3 I0 J0 Q := by
  have hs := Same.rf (W := (W_X11_perform)) I0 J0
  unfold wp_X11_perform at h ⊢
  obtain ⟨g, h⟩ := h
  refine ⟨g, ?_⟩
  refine ⟨fun c => ?_, fun c => ?_, fun c => ?_, fun c => ?_, fun c => ?_, fun c => ?_, fun c => ?_, fun c => ?_, fun c => ?_⟩
  · replace h := h.1 c
    exact hq _ _ h hs
  · replace h := h.2.1 c
    refine fr_X11_mergeGroups h (fun I2 J2 h hs2 => ?_)
    replace hs := hs.trans hs2 (WL_sub rfl)
    exact hq _ _ h hs
  · replace h := h.2.2.1 c
    intro I1 e1
    replace h := h I1 e1
    replace hs := hs.upI e1 rfl
    exact hq _ _ h hs
  · replace h := h.2.2.2.1 c
    refine fr_X11_takeTo h (fun I2 J2 h hs2 => ?_)
    replace hs := hs.trans hs2 (WL_sub rfl)
    exact hq _ _ h hs
  · replace h := h.2.2.2.2.1 c
    refine fr_X11_makeSteps h (fun v I2 J2 h hs2 => ?_)
    replace hs := hs.trans hs2 (WL_sub rfl)
    exact hq _ _ h hs
  · replace h := h.2.2.2.2.2.1 c
    refine fr_X11_makeSteps h (fun v I2 J2 h hs2 => ?_)
    replace hs := hs.trans hs2 (WL_sub rfl)
    exact hq _ _ h hs
  · replace h := h.2.2.2.2.2.2.1 c
    refine fr_X11_searchBest h (fun I2 J2 h hs2 => ?_)
    replace hs := hs.trans hs2 (WL_sub rfl)
    refine fr_X11_takeBest h (fun v I2 J2 h hs2 => ?_)
    replace hs := hs.trans hs2 (WL_sub rfl)
    exact hq _ _ h hs
  · replace h := h.2.2.2.2.2.2.2.1 c
    refine fr_X11_takeApart h (fun v I2 J2 h hs2 => ?_)
    replace hs := hs.trans hs2 (WL_sub rfl)
    exact hq _ _ h hs
  · replace h := h.2.2.2.2.2.2.2.2 c
    intro I1 e1
    replace h := h I1 e1
    replace hs := hs.upI e1 rfl
    exact hq _ _ h hs
def W_X11_bestDebts : Nat → Nat → Prop := WL [(113, 0), (113, 1), (113, 2), (113, 3), (113, 4), (113, 5), (114, 1000), (115, 1000), (116, 1000), (117, 1000), (118, 1000), (119, 1000), (121, 1000), (124, 3), (124, 4), (125, 1000), (126, 1000), (127, 1000)]
theorem W_X11_bestDebts_n {k : Nat} (h : wlk [(113, 0), (113, 1), (113, 2), (113, 3), (113, 4), (113, 5), (114, 1000), (115, 1000), (116, 1000), (117, 1000), (118, 1000), (119, 1000), (121, 1000), (124, 3), (124, 4), (125, 1000), (126, 1000), (127, 1000)] k = false := by rfl) : ∀ i, ¬ W_X11_bestDebts k i := WL_n h
set_option maxHeartbeats 4000000 in
set_option maxRecDepth 100000 in
theorem fr_X11_bestDebts {P Q : Int → Ii → Jj → Prop} {I0 : Ii} {J0 : Jj} (h : wp_X11_bestDebts I0 J0 P) (hq : ∀ (v : Int) (I' : Ii) (J' : Jj), P v I' J' → Same (W_X11_bestDebts) I0 J0 I' J' → Q v I' J') : wp_X11_bestDebts I0 J0 Q := by
  have hs := Same.rf (W := (W_X11_bestDebts)) I0 J0
  unfold wp_X11_bestDebts at h ⊢
  refine fr_X11_hasFewGroups h (fun v h => ?_)
  refine ⟨fun c => ?_, fun c => ?_⟩
  · replace h := h.1 c
    refine fr_X11_searchBest h (fun I2 J2 h hs2 => ?_)
    replace hs := hs.trans hs2 (WL_sub rfl)
    exact hq _ _ _ h hs
  · replace h := h.2 c
    exact hq _ _ _ h hs
def W_X11_bestCut : Nat → Nat → Prop := WL [(113, 0), (113, 1), (113, 2), (113, 3), (113, 4), (113, 5), (114, 1000), (115, 1000), (116, 1000), (117, 1000), (118, 1000), (119, 1000), (121, 1000), (124, 3), (124, 4), (125, 1000), (126, 1000), (127, 1000)]
theorem W_X11_bestCut_n {k : Nat} (h : wlk [(113, 0), (113, 1), (113, 2), (113, 3), (113, 4), (113, 5), (114, 1000), (115, 1000), (116, 1000), (117, 1000), (118, 1000), (119, 1000), (121, 1000), (124, 3), (124, 4), (125, 1000), (126, 1000), (127, 1000)] k = false := by rfl) : ∀ i, ¬ W_X11_bestCut k i := WL_n h
set_option maxHeartbeats 4000000 in
set_option maxRecDepth 100000 in
theorem fr_X11_bestCut {P Q : Int → Ii → Jj → Prop} {I0 : Ii} {J0 : Jj} (h : wp_X11_bestCut I0 J0 P) (hq : ∀ (v : Int) (I' : Ii) (J' : Jj), P v I' J' → Same (W_X11_bestCut) I0 J0 I' J' → Q v I' J') : wp_X11_bestCut I0 J0 Q := by
  have hs := Same.rf (W := (W_X11_bestCut)) I0 J0
  unfold wp_X11_bestCut at h ⊢
  refine fr_X11_hasFewGroups h (fun v h => ?_)
  refine ⟨fun c => ?_, fun c => ?_⟩
  · replace h := h.1 c
    refine fr_X11_searchBest h (fun I2 J2 h hs2 => ?_)
    replace hs := hs.trans hs2 (WL_sub rfl)
    exact hq _ _ _ h hs
  · replace h := h.2 c
    exact hq _ _ _ h hs
def W_X11_stepsToEnd : Nat → Nat → Prop := WL [(113, 0), (113, 1), (113, 2), (113, 3), (113, 4), (113, 5), (114, 1000), (115, 1000), (116, 1000), (117, 1000), (118, 1000), (119, 1000), (310, 0), (310, 1), (310, 2), (310 + 1, 1000), (310 + 2, 1000), (310 + 3, 1000), (310 + 4, 1000)]
theorem W_X11_stepsToEnd_n {k : Nat} (h : wlk [(113, 0), (113, 1), (113, 2), (113, 3), (113, 4), (113, 5), (114, 1000), (115, 1000), (116, 1000), (117, 1000), (118, 1000), (119, 1000), (310, 0), (310, 1), (310, 2), (310 + 1, 1000), (310 + 2, 1000), (310 + 3, 1000), (310 + 4, 1000)] k = false := by rfl) : ∀ i, ¬ W_X11_stepsToEnd k i := WL_n h
set_option maxHeartbeats 4000000 in
set_option maxRecDepth 100000 in
theorem fr_X11_stepsToEnd {l1 : Int} {P Q : Int → Ii → Jj → Prop} {I0 : Ii} {J0 : Jj} (h : wp_X11_stepsToEnd l1 I0 J0 P) (hq : ∀ (v : Int) (I' : Ii) (J' : Jj), P v I' J' → Same (W_X11_stepsToEnd) I0 J0 I' J' → Q v I' J') : wp_X11_stepsToEnd l1 I0 J0 Q := by
  have hs := Same.rf (W := (W_X11_stepsToEnd)) I0 J0
  unfold wp_X11_stepsToEnd at h ⊢
  refine fr_X11_requireTriedSteps h (fun h => ?_)
  refine fr_X11_trySteps h (fun v I2 J2 h hs2 => ?_)
  replace hs := hs.trans hs2 (WL_sub rfl)
  refine fr_X4_take h (fun I2 J2 h hs2 => ?_)
  replace hs := hs.trans hs2 (WL_sub rfl)
  refine fr_X4_chosenStep h (fun v h => ?_)
  obtain ⟨g, h⟩ := h
  refine ⟨g, ?_⟩
  refine ⟨fun c => ?_, fun c => ?_⟩
  · replace h := h.1 c
    exact hq _ _ _ h hs
  · replace h := h.2 c
    exact hq _ _ _ h hs
def W_X11_cutBehind : Nat → Nat → Prop := WL [(113, 0), (113, 1), (113, 2), (113, 3), (113, 4), (113, 5), (114, 1000), (115, 1000), (116, 1000), (117, 1000), (118, 1000), (119, 1000), (310, 0), (310, 1), (310, 2), (310 + 1, 1000), (310 + 2, 1000), (310 + 3, 1000), (310 + 4, 1000)]
theorem W_X11_cutBehind_n {k : Nat} (h : wlk [(113, 0), (113, 1), (113, 2), (113, 3), (113, 4), (113, 5), (114, 1000), (115, 1000), (116, 1000), (117, 1000), (118, 1000), (119, 1000), (310, 0), (310, 1), (310, 2), (310 + 1, 1000), (310 + 2, 1000), (310 + 3, 1000), (310 + 4, 1000)] k = false := by rfl) : ∀ i, ¬ W_X11_cutBehind k i := WL_n h
set_option maxHeartbeats 4000000 in
set_option maxRecDepth 100000 in
theorem fr_X11_cutBehind {l1 : Int} {P Q : Int → Ii → Jj → Prop} {I0 : Ii} {J0 : Jj} (h : wp_X11_cutBehind l1 I0 J0 P) (hq : ∀ (v : Int) (I' : Ii) (J' : Jj), P v I' J' → Same (W_X11_cutBehind) I0 J0 I' J' → Q v I' J') : wp_X11_cutBehind l1 I0 J0 Q := by
  have hs := Same.rf (W := (W_X11_cutBehind)) I0 J0
  unfold wp_X11_cutBehind at h ⊢
  refine fr_X11_requireTriedSteps h (fun h => ?_)
  refine fr_X11_trySteps h (fun v I2 J2 h hs2 => ?_)
  replace hs := hs.trans hs2 (WL_sub rfl)
  refine fr_X4_take h (fun I2 J2 h hs2 => ?_)
  replace hs := hs.trans hs2 (WL_sub rfl)
  exact hq _ _ _ h hs
theorem fr_X10_isWordL {w : Int64} {P Q : Int → Ii → Jj → Prop} {I : Ii} {J : Jj} (h : wp_X10_isWordL w I J P) (hq : ∀ (v : Int), P v I J → Q v I J) : wp_X10_isWordL w I J Q := ⟨fun c => hq _ (h.1 c), fun c => hq _ (h.2 c)⟩
set_option maxHeartbeats 4000000 in
set_option maxRecDepth 100000 in
theorem fr_X7_kindOfWord {P Q : Int → Ii → Jj → Prop} {I : Ii} {J : Jj} (h : wp_X7_kindOfWord I J P) (hq : ∀ (v : Int), P v I J → Q v I J) : wp_X7_kindOfWord I J Q := by
  unfold wp_X7_kindOfWord at h ⊢
  refine fr_X10_isWordL h (fun v h => ?_)
  refine ⟨fun c => ?_, fun c => ?_⟩
  · replace h := h.1 c
    refine fr_X10_isWordL h (fun v h => ?_)
    refine ⟨fun c => ?_, fun c => ?_⟩
    · replace h := h.1 c
      refine fr_X10_isWordL h (fun v h => ?_)
      refine ⟨fun c => ?_, fun c => ?_⟩
      · replace h := h.1 c
        refine fr_X10_isWordL h (fun v h => ?_)
        refine ⟨fun c => ?_, fun c => ?_⟩
        · replace h := h.1 c
          refine fr_X10_isWordL h (fun v h => ?_)
          refine ⟨fun c => ?_, fun c => ?_⟩
          · replace h := h.1 c
            refine fr_X10_isWordL h (fun v h => ?_)
            refine ⟨fun c => ?_, fun c => ?_⟩
            · replace h := h.1 c
              refine fr_X10_isWordL h (fun v h => ?_)
              refine ⟨fun c => ?_, fun c => ?_⟩
              · replace h := h.1 c
                refine fr_X10_isWordL h (fun v h => ?_)
                refine ⟨fun c => ?_, fun c => ?_⟩
                · replace h := h.1 c
                  refine fr_X10_isWordL h (fun v h => ?_)
                  refine ⟨fun c => ?_, fun c => ?_⟩
                  · replace h := h.1 c
                    exact hq _ h
                  · replace h := h.2 c
                    exact hq _ h
                · replace h := h.2 c
                  exact hq _ h
              · replace h := h.2 c
                exact hq _ h
            · replace h := h.2 c
              exact hq _ h
          · replace h := h.2 c
            exact hq _ h
        · replace h := h.2 c
          exact hq _ h
      · replace h := h.2 c
        exact hq _ h
    · replace h := h.2 c
      exact hq _ h
  · replace h := h.2 c
    exact hq _ h
def W_X9_readStatement (k2 : Nat) : Nat → Nat → Prop := WL [(101, 3), (101, 4), (101, 5), (101, 6), (101, 7), (101, 9), (101, 10), (101, 11), (103, 0), (k2, 0), (k2, 1), (k2, 2), (k2, 3), (k2, 4), (k2, 5), (k2, 6), (k2 + 1, 1000), (k2 + 2, 1000), (k2 + 3, 1000), (k2 + 4, 1000), (k2 + 5, 1000)]
theorem W_X9_readStatement_n {k2 : Nat} {k : Nat} (h : wlk [(101, 3), (101, 4), (101, 5), (101, 6), (101, 7), (101, 9), (101, 10), (101, 11), (103, 0), (k2, 0), (k2, 1), (k2, 2), (k2, 3), (k2, 4), (k2, 5), (k2, 6), (k2 + 1, 1000), (k2 + 2, 1000), (k2 + 3, 1000), (k2 + 4, 1000), (k2 + 5, 1000)] k = false := by rfl) : ∀ i, ¬ W_X9_readStatement k2 k i := WL_n h
set_option maxHeartbeats 4000000 in
set_option maxRecDepth 100000 in
theorem fr_X9_readStatement {k2 : Nat} {P Q : Int → Ii → Jj → Prop} {I0 : Ii} {J0 : Jj} (h : wp_X9_readStatement k2 I0 J0 P) (hq : ∀ (v : Int) (I' : Ii) (J' : Jj), P v I' J' → Same (W_X9_readStatement k2) I0 J0 I' J' → Q v I' J') : wp_X9_readStatement k2 I0 J0 Q := by
  have hs := Same.rf (W := (W_X9_readStatement k2)) I0 J0
  unfold wp_X9_readStatement at h ⊢
  obtain ⟨g, h⟩ := h
  refine ⟨g, ?_⟩
  refine fr_X10_isWordL h (fun v h => ?_)
  refine ⟨fun c => ?_, fun c => ?_⟩
  · replace h := h.1 c
    refine fr_X10_isWordL h (fun v h => ?_)
    refine ⟨fun c => ?_, fun c => ?_⟩
    · replace h := h.1 c
      refine fr_X10_isWordL h (fun v h => ?_)
      refine ⟨fun c => ?_, fun c => ?_⟩
      · replace h := h.1 c
        refine fr_X10_isWordL h (fun v h => ?_)
        refine ⟨fun c => ?_, fun c => ?_⟩
        · replace h := h.1 c
          refine fr_X10_isWordL h (fun v h => ?_)
          refine ⟨fun c => ?_, fun c => ?_⟩
          · replace h := h.1 c
            refine fr_X10_fail h (fun v I2 J2 h hs2 => ?_)
            replace hs := hs.trans hs2 (by first | exact WL_sub rfl | exact WL_any (by simp [wls, wl, WL]))
            obtain ⟨g, h⟩ := h
            refine ⟨g, ?_⟩
            exact hq _ _ _ h hs
          · replace h := h.2 c
            refine fr_X9_readCredit h (fun v I2 J2 h hs2 => ?_)
            replace hs := hs.trans hs2 (by first | exact WL_sub rfl | exact WL_any (by simp [wls, wl, WL]))
            obtain ⟨g, h⟩ := h
            refine ⟨g, ?_⟩
            exact hq _ _ _ h hs
        · replace h := h.2 c
          refine fr_X9_readSlack h (fun v I2 J2 h hs2 => ?_)
          replace hs := hs.trans hs2 (by first | exact WL_sub rfl | exact WL_any (by simp [wls, wl, WL]))
          obtain ⟨g, h⟩ := h
          refine ⟨g, ?_⟩
          exact hq _ _ _ h hs
      · replace h := h.2 c
        refine fr_X9_readParts h (fun v I2 J2 h hs2 => ?_)
        replace hs := hs.trans hs2 (by first | exact WL_sub rfl | exact WL_any (by simp [wls, wl, WL]))
        obtain ⟨g, h⟩ := h
        refine ⟨g, ?_⟩
        exact hq _ _ _ h hs
    · replace h := h.2 c
      refine fr_X9_readEdge h (fun v I2 J2 h hs2 => ?_)
      replace hs := hs.trans hs2 (by first | exact WL_sub rfl | exact WL_any (by simp [wls, wl, WL]))
      obtain ⟨g, h⟩ := h
      refine ⟨g, ?_⟩
      exact hq _ _ _ h hs
  · replace h := h.2 c
    refine fr_X9_readVertex h (fun v I2 J2 h hs2 => ?_)
    replace hs := hs.trans hs2 (by first | exact WL_sub rfl | exact WL_any (by simp [wls, wl, WL]))
    obtain ⟨g, h⟩ := h
    refine ⟨g, ?_⟩
    exact hq _ _ _ h hs
def W_X7_readCommand (k3 : Nat) : Nat → Nat → Prop := WL [(101, 3), (101, 4), (101, 5), (101, 6), (101, 7), (101, 8), (101, 9), (101, 10), (101, 11), (105, 1000), (106, 4), (106, 5), (107, 1000), (108, 1000), (109, 1000)]
theorem W_X7_readCommand_n {k3 : Nat} {k : Nat} (h : wlk [(101, 3), (101, 4), (101, 5), (101, 6), (101, 7), (101, 8), (101, 9), (101, 10), (101, 11), (105, 1000), (106, 4), (106, 5), (107, 1000), (108, 1000), (109, 1000)] k = false := by rfl) : ∀ i, ¬ W_X7_readCommand k3 k i := WL_n h
set_option maxHeartbeats 4000000 in
set_option maxRecDepth 100000 in
theorem fb_X7_readCommand_130 {k3 : Nat} {P Q : Int → Ii → Jj → Prop} {I0 : Ii} {J0 : Jj} (hq : ∀ (v : Int) (I' : Ii) (J' : Jj), P v I' J' → Same (W_X7_readCommand k3) I0 J0 I' J' → Q v I' J') {l4 : Int} {I : Ii} {J : Jj} (h : B_X7_readCommand_130 k3 P l4 I J) (hs : Same (W_X7_readCommand k3) I0 J0 I J) : B_X7_readCommand_130 k3 Q l4 I J := by
  unfold B_X7_readCommand_130 at h ⊢
  refine fr_X7_readNumbered h (fun v I2 J2 h hs2 => ?_)
  replace hs := hs.trans hs2 (by first | exact WL_sub rfl | exact WL_any (by simp [wls, wl, WL]))
  refine ⟨fun c => ?_, fun c => ?_⟩
  · replace h := h.1 c
    exact hq _ _ _ h hs
  · replace h := h.2 c
    refine fr_X10_takes h (fun v I2 J2 h hs2 => ?_)
    replace hs := hs.trans hs2 (by first | exact WL_sub rfl | exact WL_any (by simp [wls, wl, WL]))
    refine ⟨fun c => ?_, fun c => ?_⟩
    · replace h := h.1 c
      exact hq _ _ _ h hs
    · replace h := h.2 c
      exact hq _ _ _ h hs
set_option maxHeartbeats 4000000 in
set_option maxRecDepth 100000 in
theorem fb_X7_readCommand_179 {k3 : Nat} {P Q : Int → Ii → Jj → Prop} {I0 : Ii} {J0 : Jj} (hq : ∀ (v : Int) (I' : Ii) (J' : Jj), P v I' J' → Same (W_X7_readCommand k3) I0 J0 I' J' → Q v I' J') {l4 : Int} {I : Ii} {J : Jj} (h : B_X7_readCommand_179 k3 P l4 I J) (hs : Same (W_X7_readCommand k3) I0 J0 I J) : B_X7_readCommand_179 k3 Q l4 I J := by
  unfold B_X7_readCommand_179 at h ⊢
  refine fr_X6_addCommand h (fun I2 J2 h hs2 => ?_)
  replace hs := hs.trans hs2 (by first | exact WL_sub rfl | exact WL_any (by simp [wls, wl, WL]))
  refine fr_X10_takes h (fun v I2 J2 h hs2 => ?_)
  replace hs := hs.trans hs2 (by first | exact WL_sub rfl | exact WL_any (by simp [wls, wl, WL]))
  obtain ⟨g, h⟩ := h
  refine ⟨g, ?_⟩
  exact hq _ _ _ h hs
set_option maxHeartbeats 4000000 in
set_option maxRecDepth 100000 in
theorem fb_X7_readCommand_40 {k3 : Nat} {P Q : Int → Ii → Jj → Prop} {I0 : Ii} {J0 : Jj} (hq : ∀ (v : Int) (I' : Ii) (J' : Jj), P v I' J' → Same (W_X7_readCommand k3) I0 J0 I' J' → Q v I' J') {l4 : Int} {I : Ii} {J : Jj} (h : B_X7_readCommand_40 k3 P l4 I J) (hs : Same (W_X7_readCommand k3) I0 J0 I J) : B_X7_readCommand_40 k3 Q l4 I J := by
  unfold B_X7_readCommand_40 at h ⊢
  obtain ⟨g, h⟩ := h
  refine ⟨g, ?_⟩
  refine ⟨fun c => ?_, fun c => ?_⟩
  · replace h := h.1 c
    obtain ⟨g, h⟩ := h
    refine ⟨g, ?_⟩
    refine ⟨fun c => ?_, fun c => ?_, fun c => ?_, fun c => ?_, fun c => ?_, fun c => ?_, fun c => ?_, fun c => ?_⟩
    · replace h := h.1 c
      exact fb_X7_readCommand_179 hq h hs
    · replace h := h.2.1 c
      refine fr_X7_readMove h (fun v I2 J2 h hs2 => ?_)
      replace hs := hs.trans hs2 (by first | exact WL_sub rfl | exact WL_any (by simp [wls, wl, WL]))
      refine ⟨fun c => ?_, fun c => ?_⟩
      · replace h := h.1 c
        exact hq _ _ _ h hs
      · replace h := h.2 c
        refine fr_X10_takes h (fun v I2 J2 h hs2 => ?_)
        replace hs := hs.trans hs2 (by first | exact WL_sub rfl | exact WL_any (by simp [wls, wl, WL]))
        refine ⟨fun c => ?_, fun c => ?_⟩
        · replace h := h.1 c
          exact hq _ _ _ h hs
        · replace h := h.2 c
          exact hq _ _ _ h hs
    · replace h := h.2.2.1 c
      exact fb_X7_readCommand_179 hq h hs
    · replace h := h.2.2.2.1 c
      exact fb_X7_readCommand_130 hq h hs
    · replace h := h.2.2.2.2.1 c
      exact fb_X7_readCommand_179 hq h hs
    · replace h := h.2.2.2.2.2.1 c
      refine fr_X7_readApart h (fun v I2 J2 h hs2 => ?_)
      replace hs := hs.trans hs2 (by first | exact WL_sub rfl | exact WL_any (by simp [wls, wl, WL]))
      refine ⟨fun c => ?_, fun c => ?_⟩
      · replace h := h.1 c
        exact hq _ _ _ h hs
      · replace h := h.2 c
        refine fr_X10_takes h (fun v I2 J2 h hs2 => ?_)
        replace hs := hs.trans hs2 (by first | exact WL_sub rfl | exact WL_any (by simp [wls, wl, WL]))
        refine ⟨fun c => ?_, fun c => ?_⟩
        · replace h := h.1 c
          exact hq _ _ _ h hs
        · replace h := h.2 c
          exact hq _ _ _ h hs
    · replace h := h.2.2.2.2.2.2.1 c
      exact fb_X7_readCommand_130 hq h hs
    · replace h := h.2.2.2.2.2.2.2 c
      refine fr_X7_readRepeat h (fun v I2 J2 h hs2 => ?_)
      replace hs := hs.trans hs2 (by first | exact WL_sub rfl | exact WL_any (by simp [wls, wl, WL]))
      obtain ⟨g, h⟩ := h
      refine ⟨g, ?_⟩
      exact hq _ _ _ h hs
  · replace h := h.2 c
    refine fr_X10_fail h (fun v I2 J2 h hs2 => ?_)
    replace hs := hs.trans hs2 (by first | exact WL_sub rfl | exact WL_any (by simp [wls, wl, WL]))
    obtain ⟨g, h⟩ := h
    refine ⟨g, ?_⟩
    exact hq _ _ _ h hs
set_option maxHeartbeats 4000000 in
set_option maxRecDepth 100000 in
theorem fr_X7_readCommand {k3 : Nat} {P Q : Int → Ii → Jj → Prop} {I0 : Ii} {J0 : Jj} (h : wp_X7_readCommand k3 I0 J0 P) (hq : ∀ (v : Int) (I' : Ii) (J' : Jj), P v I' J' → Same (W_X7_readCommand k3) I0 J0 I' J' → Q v I' J') : wp_X7_readCommand k3 I0 J0 Q := by
  have hs := Same.rf (W := (W_X7_readCommand k3)) I0 J0
  unfold wp_X7_readCommand at h ⊢
  obtain ⟨g, h⟩ := h
  refine ⟨g, ?_⟩
  refine fr_X7_kindOfWord h (fun v h => ?_)
  obtain ⟨g, h⟩ := h
  refine ⟨g, ?_⟩
  refine ⟨fun c => ?_, fun c => ?_⟩
  · replace h := h.1 c
    refine ⟨fun c => ?_, fun c => ?_⟩
    · replace h := h.1 c
      exact fb_X7_readCommand_40 hq h hs
    · replace h := h.2 c
      obtain ⟨g, h⟩ := h
      refine ⟨g, ?_⟩
      refine ⟨fun c => ?_, fun c => ?_⟩
      · replace h := h.1 c
        exact fb_X7_readCommand_40 hq h hs
      · replace h := h.2 c
        refine fr_X10_fail h (fun v I2 J2 h hs2 => ?_)
        replace hs := hs.trans hs2 (by first | exact WL_sub rfl | exact WL_any (by simp [wls, wl, WL]))
        obtain ⟨g, h⟩ := h
        refine ⟨g, ?_⟩
        exact hq _ _ _ h hs
  · replace h := h.2 c
    refine fr_X10_fail h (fun v I2 J2 h hs2 => ?_)
    replace hs := hs.trans hs2 (by first | exact WL_sub rfl | exact WL_any (by simp [wls, wl, WL]))
    obtain ⟨g, h⟩ := h
    refine ⟨g, ?_⟩
    exact hq _ _ _ h hs
def W_X9_read (k2 : Nat) : Nat → Nat → Prop := WL [(101, 3), (101, 4), (101, 5), (101, 6), (101, 7), (101, 9), (101, 10), (101, 11), (103, 0), (k2, 0), (k2, 1), (k2, 2), (k2, 3), (k2, 4), (k2, 5), (k2, 6), (k2 + 1, 1000), (k2 + 2, 1000), (k2 + 3, 1000), (k2 + 4, 1000), (k2 + 5, 1000)]
theorem W_X9_read_n {k2 : Nat} {k : Nat} (h : wlk [(101, 3), (101, 4), (101, 5), (101, 6), (101, 7), (101, 9), (101, 10), (101, 11), (103, 0), (k2, 0), (k2, 1), (k2, 2), (k2, 3), (k2, 4), (k2, 5), (k2, 6), (k2 + 1, 1000), (k2 + 2, 1000), (k2 + 3, 1000), (k2 + 4, 1000), (k2 + 5, 1000)] k = false := by rfl) : ∀ i, ¬ W_X9_read k2 k i := WL_n h
theorem ls_X9_read_11 {k2 : Nat} {Q : Int → Ii → Jj → Prop} {n : Nat} {l3 : Int} {I : Ii} {J : Jj} (h : Lb_X9_read_11 k2 Q (L_X9_read_11 k2 Q n) l3 I J) : L_X9_read_11 k2 Q (n + 1) l3 I J := h
set_option maxHeartbeats 4000000 in
set_option maxRecDepth 100000 in
theorem fl_X9_read_11 {k2 : Nat} {P Q : Int → Ii → Jj → Prop} {I0 : Ii} {J0 : Jj} (hq : ∀ (v : Int) (I' : Ii) (J' : Jj), P v I' J' → Same (W_X9_read k2) I0 J0 I' J' → Q v I' J') : ∀ (n : Nat) (l3 : Int) (I : Ii) (J : Jj), L_X9_read_11 k2 P n l3 I J → Same (W_X9_read k2) I0 J0 I J → L_X9_read_11 k2 Q n l3 I J := by
  intro n
  induction n with
  | zero => intro l3 I J h _; exact h
  | succ n ih =>
    intro l3 I J h hs
    have h : Lb_X9_read_11 k2 P (L_X9_read_11 k2 P n) l3 I J := h
    show Lb_X9_read_11 k2 Q (L_X9_read_11 k2 Q n) l3 I J
    have hr11 := ih
    clear ih
    unfold Lb_X9_read_11 at h ⊢
    obtain ⟨g, h⟩ := h
    refine ⟨g, ?_⟩
    refine ⟨fun c => ?_, fun c => ?_⟩
    · replace h := h.1 c
      exact hq _ _ _ h hs
    · replace h := h.2 c
      refine fr_X10_advance h (fun I2 J2 h hs2 => ?_)
      replace hs := hs.trans hs2 (by first | exact WL_sub rfl | exact WL_any (by simp [wls, wl, WL]))
      obtain ⟨g, h⟩ := h
      refine ⟨g, ?_⟩
      refine ⟨fun c => ?_, fun c => ?_⟩
      · replace h := h.1 c
        refine fr_X9_readStatement h (fun v I2 J2 h hs2 => ?_)
        replace hs := hs.trans hs2 (by first | exact WL_sub rfl | exact WL_any (by simp [wls, wl, WL]))
        refine ⟨fun c => ?_, fun c => ?_⟩
        · replace h := h.1 c
          exact hq _ _ _ h hs
        · replace h := h.2 c
          refine fr_X10_takes h (fun v I2 J2 h hs2 => ?_)
          replace hs := hs.trans hs2 (by first | exact WL_sub rfl | exact WL_any (by simp [wls, wl, WL]))
          refine ⟨fun c => ?_, fun c => ?_⟩
          · replace h := h.1 c
            exact hr11 _ _ _ h hs
          · replace h := h.2 c
            exact hq _ _ _ h hs
      · replace h := h.2 c
        exact hq _ _ _ h hs
set_option maxHeartbeats 4000000 in
set_option maxRecDepth 100000 in
theorem fr_X9_read {k2 : Nat} {P Q : Int → Ii → Jj → Prop} {I0 : Ii} {J0 : Jj} (h : wp_X9_read k2 I0 J0 P) (hq : ∀ (v : Int) (I' : Ii) (J' : Jj), P v I' J' → Same (W_X9_read k2) I0 J0 I' J' → Q v I' J') : wp_X9_read k2 I0 J0 Q := by
  have hs := Same.rf (W := (W_X9_read k2)) I0 J0
  unfold wp_X9_read at h ⊢
  obtain ⟨g, h⟩ := h
  refine ⟨g, ?_⟩
  refine fr_X2_clear h (fun I2 J2 h hs2 => ?_)
  replace hs := hs.trans hs2 (by first | exact WL_sub rfl | exact WL_any (by simp [wls, wl, WL]))
  intro I1 e1
  replace h := h I1 e1
  replace hs := hs.upI e1 (by first | rfl | simp [W_X9_read, WL, wl])
  obtain ⟨n, h⟩ := h
  exact ⟨n, fl_X9_read_11 hq n _ _ _ h hs⟩
def W_X11_readText : Nat → Nat → Prop := WL [(101, 1), (101, 2), (101, 3), (101, 4), (101, 5), (101, 6), (101, 7), (101, 8), (101, 9), (101, 10), (101, 11), (103, 0), (111, 2), (200, 0), (200, 1), (200, 2), (200, 3), (200, 4), (200, 5), (200, 6), (200 + 1, 1000), (200 + 2, 1000), (200 + 3, 1000), (200 + 4, 1000), (200 + 5, 1000), (210, 0), (210, 1), (210, 2), (210, 3), (210, 4), (210, 5), (210, 6), (210 + 1, 1000), (210 + 2, 1000), (210 + 3, 1000), (210 + 4, 1000), (210 + 5, 1000), (300, 0), (300, 1), (300, 2), (300 + 1, 1000), (300 + 2, 1000), (300 + 3, 1000)]
theorem W_X11_readText_n {k : Nat} (h : wlk [(101, 1), (101, 2), (101, 3), (101, 4), (101, 5), (101, 6), (101, 7), (101, 8), (101, 9), (101, 10), (101, 11), (103, 0), (111, 2), (200, 0), (200, 1), (200, 2), (200, 3), (200, 4), (200, 5), (200, 6), (200 + 1, 1000), (200 + 2, 1000), (200 + 3, 1000), (200 + 4, 1000), (200 + 5, 1000), (210, 0), (210, 1), (210, 2), (210, 3), (210, 4), (210, 5), (210, 6), (210 + 1, 1000), (210 + 2, 1000), (210 + 3, 1000), (210 + 4, 1000), (210 + 5, 1000), (300, 0), (300, 1), (300, 2), (300 + 1, 1000), (300 + 2, 1000), (300 + 3, 1000)] k = false := by rfl) : ∀ i, ¬ W_X11_readText k i := WL_n h
set_option maxHeartbeats 4000000 in
set_option maxRecDepth 100000 in
theorem fr_X11_readText {P Q : Int → Ii → Jj → Prop} {I0 : Ii} {J0 : Jj} (h : wp_X11_readText I0 J0 P) (hq : ∀ (v : Int) (I' : Ii) (J' : Jj), P v I' J' → Same (W_X11_readText) I0 J0 I' J' → Q v I' J') : wp_X11_readText I0 J0 Q := by
  have hs := Same.rf (W := (W_X11_readText)) I0 J0
  unfold wp_X11_readText at h ⊢
  refine fr_X10_begin h (fun I2 J2 h hs2 => ?_)
  replace hs := hs.trans hs2 (WL_sub rfl)
  refine fr_X9_read h (fun v I2 J2 h hs2 => ?_)
  replace hs := hs.trans hs2 (WL_sub rfl)
  refine ⟨fun c => ?_, fun c => ?_⟩
  · replace h := h.1 c
    refine fr_X2_copyFrom h (fun I2 J2 h hs2 => ?_)
    replace hs := hs.trans hs2 (WL_sub rfl)
    refine fr_X8_start h (fun I2 J2 h hs2 => ?_)
    replace hs := hs.trans hs2 (WL_sub rfl)
    refine fr_X3_forget h (fun I2 J2 h hs2 => ?_)
    replace hs := hs.trans hs2 (WL_sub rfl)
    exact hq _ _ _ h hs
  · replace h := h.2 c
    exact False.elim h
def W_X7_read (k3 : Nat) : Nat → Nat → Prop := WL [(101, 3), (101, 4), (101, 5), (101, 6), (101, 7), (101, 8), (101, 9), (101, 10), (101, 11), (105, 1000), (106, 4), (106, 5), (107, 1000), (108, 1000), (109, 1000)]
theorem W_X7_read_n {k3 : Nat} {k : Nat} (h : wlk [(101, 3), (101, 4), (101, 5), (101, 6), (101, 7), (101, 8), (101, 9), (101, 10), (101, 11), (105, 1000), (106, 4), (106, 5), (107, 1000), (108, 1000), (109, 1000)] k = false := by rfl) : ∀ i, ¬ W_X7_read k3 k i := WL_n h
set_option maxHeartbeats 4000000 in
set_option maxRecDepth 100000 in
theorem fb_X7_read_60 {k3 : Nat} {P Q : Int → Ii → Jj → Prop} {I0 : Ii} {J0 : Jj} (hq : ∀ (v : Int) (I' : Ii) (J' : Jj), P v I' J' → Same (W_X7_read k3) I0 J0 I' J' → Q v I' J') {r7 q7 : Int → Ii → Jj → Prop} (hr7 : ∀ (l4 : Int) (I' : Ii) (J' : Jj), r7 l4 I' J' → Same (W_X7_read k3) I0 J0 I' J' → q7 l4 I' J') {l4 : Int} {t0 : Int} {I : Ii} {J : Jj} (h : B_X7_read_60 k3 P r7 l4 t0 I J) (hs : Same (W_X7_read k3) I0 J0 I J) : B_X7_read_60 k3 Q q7 l4 t0 I J := by
  unfold B_X7_read_60 at h ⊢
  obtain ⟨g, h⟩ := h
  refine ⟨g, ?_⟩
  refine ⟨fun c => ?_, fun c => ?_⟩
  · replace h := h.1 c
    refine fr_X7_readCommand h (fun v I2 J2 h hs2 => ?_)
    replace hs := hs.trans hs2 (by first | exact WL_sub rfl | exact WL_any (by simp [wls, wl, WL]))
    refine ⟨fun c => ?_, fun c => ?_⟩
    · replace h := h.1 c
      exact hr7 _ _ _ h hs
    · replace h := h.2 c
      exact hq _ _ _ h hs
  · replace h := h.2 c
    refine fr_X7_readClose h (fun v I2 J2 h hs2 => ?_)
    replace hs := hs.trans hs2 (by first | exact WL_sub rfl | exact WL_any (by simp [wls, wl, WL]))
    refine ⟨fun c => ?_, fun c => ?_⟩
    · replace h := h.1 c
      exact hq _ _ _ h hs
    · replace h := h.2 c
      exact hr7 _ _ _ h hs
theorem ls_X7_read_7 {k3 : Nat} {Q : Int → Ii → Jj → Prop} {n : Nat} {l4 : Int} {I : Ii} {J : Jj} (h : Lb_X7_read_7 k3 Q (L_X7_read_7 k3 Q n) l4 I J) : L_X7_read_7 k3 Q (n + 1) l4 I J := h
set_option maxHeartbeats 4000000 in
set_option maxRecDepth 100000 in
theorem fl_X7_read_7 {k3 : Nat} {P Q : Int → Ii → Jj → Prop} {I0 : Ii} {J0 : Jj} (hq : ∀ (v : Int) (I' : Ii) (J' : Jj), P v I' J' → Same (W_X7_read k3) I0 J0 I' J' → Q v I' J') : ∀ (n : Nat) (l4 : Int) (I : Ii) (J : Jj), L_X7_read_7 k3 P n l4 I J → Same (W_X7_read k3) I0 J0 I J → L_X7_read_7 k3 Q n l4 I J := by
  intro n
  induction n with
  | zero => intro l4 I J h _; exact h
  | succ n ih =>
    intro l4 I J h hs
    have h : Lb_X7_read_7 k3 P (L_X7_read_7 k3 P n) l4 I J := h
    show Lb_X7_read_7 k3 Q (L_X7_read_7 k3 Q n) l4 I J
    have hr7 := ih
    clear ih
    unfold Lb_X7_read_7 at h ⊢
    obtain ⟨g, h⟩ := h
    refine ⟨g, ?_⟩
    refine ⟨fun c => ?_, fun c => ?_⟩
    · replace h := h.1 c
      exact hq _ _ _ h hs
    · replace h := h.2 c
      refine fr_X10_advance h (fun I2 J2 h hs2 => ?_)
      replace hs := hs.trans hs2 (by first | exact WL_sub rfl | exact WL_any (by simp [wls, wl, WL]))
      obtain ⟨g, h⟩ := h
      refine ⟨g, ?_⟩
      refine ⟨fun c => ?_, fun c => ?_⟩
      · replace h := h.1 c
        refine ⟨fun c => ?_, fun c => ?_⟩
        · replace h := h.1 c
          exact fb_X7_read_60 hq hr7 h hs
        · replace h := h.2 c
          exact fb_X7_read_60 hq hr7 h hs
      · replace h := h.2 c
        obtain ⟨g, h⟩ := h
        refine ⟨g, ?_⟩
        refine ⟨fun c => ?_, fun c => ?_⟩
        · replace h := h.1 c
          exact hq _ _ _ h hs
        · replace h := h.2 c
          refine fr_X10_fail h (fun v I2 J2 h hs2 => ?_)
          replace hs := hs.trans hs2 (by first | exact WL_sub rfl | exact WL_any (by simp [wls, wl, WL]))
          refine ⟨fun c => ?_, fun c => ?_⟩
          · replace h := h.1 c
            exact hq _ _ _ h hs
          · replace h := h.2 c
            exact hq _ _ _ h hs
set_option maxHeartbeats 4000000 in
set_option maxRecDepth 100000 in
theorem fr_X7_read {k3 : Nat} {P Q : Int → Ii → Jj → Prop} {I0 : Ii} {J0 : Jj} (h : wp_X7_read k3 I0 J0 P) (hq : ∀ (v : Int) (I' : Ii) (J' : Jj), P v I' J' → Same (W_X7_read k3) I0 J0 I' J' → Q v I' J') : wp_X7_read k3 I0 J0 Q := by
  have hs := Same.rf (W := (W_X7_read k3)) I0 J0
  unfold wp_X7_read at h ⊢
  obtain ⟨g, h⟩ := h
  refine ⟨g, ?_⟩
  refine fr_X6_clear h (fun I2 J2 h hs2 => ?_)
  replace hs := hs.trans hs2 (by first | exact WL_sub rfl | exact WL_any (by simp [wls, wl, WL]))
  obtain ⟨n, h⟩ := h
  exact ⟨n, fl_X7_read_7 hq n _ _ _ h hs⟩
