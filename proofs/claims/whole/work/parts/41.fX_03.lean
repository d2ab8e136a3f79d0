def W_X11_canPerform : Nat → Nat → Prop := WL [(113, 0), (113, 1), (113, 2), (113, 3), (113, 4), (113, 5), (114, 1000), (115, 1000), (116, 1000), (117, 1000), (118, 1000), (119, 1000), (120, 4), (121, 1000), (122, 1000)]
theorem W_X11_canPerform_n {k : Nat} (h : wlk [(113, 0), (113, 1), (113, 2), (113, 3), (113, 4), (113, 5), (114, 1000), (115, 1000), (116, 1000), (117, 1000), (118, 1000), (119, 1000), (120, 4), (121, 1000), (122, 1000)] k = false := by rfl) : ∀ i, ¬ W_X11_canPerform k i := WL_n h
set_option maxHeartbeats 4000000 in
set_option maxRecDepth 100000 in
theorem fr_X11_canPerform {l1 : Int} {l2 : Int} {l3 : Int} {P Q : Int → Ii → Jj → Prop} {I0 : Ii} {J0 : Jj} (h : wp_X11_canPerform l1 l2 l3 I0 J0 P) (hq : ∀ (v : Int) (I' : Ii) (J' : Jj), P v I' J' → Same (W_X11_canPerform) I0 J0 I' J' → Q v I' J') : wp_X11_canPerform l1 l2 l3 I0 J0 Q := by
  have hs := Same.rf (W := (W_X11_canPerform)) I0 J0
  unfold wp_X11_canPerform at h ⊢
  obtain ⟨g, h⟩ := h
  refine ⟨g, ?_⟩
  refine ⟨fun c => ?_, fun c => ?_, fun c => ?_, fun c => ?_, fun c => ?_, fun c => ?_, fun c => ?_, fun c => ?_, fun c => ?_⟩
  · replace h := h.1 c
    exact hq _ _ _ h hs
  · replace h := h.2.1 c
    refine fr_X11_whyNotShrink h (fun v I2 J2 h hs2 => ?_)
    replace hs := hs.trans hs2 (WL_sub rfl)
    obtain ⟨g, h⟩ := h
    refine ⟨g, ?_⟩
    refine ⟨fun c => ?_, fun c => ?_⟩
    · replace h := h.1 c
      exact hq _ _ _ h hs
    · replace h := h.2 c
      exact hq _ _ _ h hs
  · replace h := h.2.2.1 c
    obtain ⟨g, h⟩ := h
    refine ⟨g, ?_⟩
    refine ⟨fun c => ?_, fun c => ?_⟩
    · replace h := h.1 c
      exact hq _ _ _ h hs
    · replace h := h.2 c
      exact hq _ _ _ h hs
  · replace h := h.2.2.2.1 c
    refine fr_X11_hasGroup h (fun v h => ?_)
    refine ⟨fun c => ?_, fun c => ?_⟩
    · replace h := h.1 c
      exact hq _ _ _ h hs
    · replace h := h.2 c
      refine fr_X11_hasPart h (fun v h => ?_)
      refine ⟨fun c => ?_, fun c => ?_⟩
      · replace h := h.1 c
        exact hq _ _ _ h hs
      · replace h := h.2 c
        refine fr_X11_whyNotMove h (fun v I2 J2 h hs2 => ?_)
        replace hs := hs.trans hs2 (WL_sub rfl)
        obtain ⟨g, h⟩ := h
        refine ⟨g, ?_⟩
        refine ⟨fun c => ?_, fun c => ?_⟩
        · replace h := h.1 c
          exact hq _ _ _ h hs
        · replace h := h.2 c
          exact hq _ _ _ h hs
  · replace h := h.2.2.2.2.1 c
    refine fr_X11_nextStep h (fun v I2 J2 h hs2 => ?_)
    replace hs := hs.trans hs2 (WL_sub rfl)
    obtain ⟨g, h⟩ := h
    refine ⟨g, ?_⟩
    refine ⟨fun c => ?_, fun c => ?_⟩
    · replace h := h.1 c
      exact hq _ _ _ h hs
    · replace h := h.2 c
      exact hq _ _ _ h hs
  · replace h := h.2.2.2.2.2.1 c
    refine fr_X11_isStepCount h (fun v h => ?_)
    obtain ⟨g, h⟩ := h
    refine ⟨g, ?_⟩
    exact hq _ _ _ h hs
  · replace h := h.2.2.2.2.2.2.1 c
    refine fr_X11_hasFewGroups h (fun v h => ?_)
    obtain ⟨g, h⟩ := h
    refine ⟨g, ?_⟩
    exact hq _ _ _ h hs
  · replace h := h.2.2.2.2.2.2.2.1 c
    refine fr_X11_hasVertex h (fun v h => ?_)
    refine ⟨fun c => ?_, fun c => ?_⟩
    · replace h := h.1 c
      exact hq _ _ _ h hs
    · replace h := h.2 c
      refine fr_X11_hasVertex h (fun v h => ?_)
      refine ⟨fun c => ?_, fun c => ?_⟩
      · replace h := h.1 c
        exact hq _ _ _ h hs
      · replace h := h.2 c
        obtain ⟨g, h⟩ := h
        refine ⟨g, ?_⟩
        obtain ⟨g, h⟩ := h
        refine ⟨g, ?_⟩
        refine ⟨fun c => ?_, fun c => ?_⟩
        · replace h := h.1 c
          exact hq _ _ _ h hs
        · replace h := h.2 c
          refine fr_X11_canTakeApart h (fun v h => ?_)
          refine ⟨fun c => ?_, fun c => ?_⟩
          · replace h := h.1 c
            exact hq _ _ _ h hs
          · replace h := h.2 c
            exact hq _ _ _ h hs
  · replace h := h.2.2.2.2.2.2.2.2 c
    refine fr_X11_isAllowance h (fun v h => ?_)
    obtain ⟨g, h⟩ := h
    refine ⟨g, ?_⟩
    exact hq _ _ _ h hs
def W_X11_perform : Nat → Nat → Prop := WL [(113, 0), (113, 1), (113, 2), (113, 3), (113, 4), (113, 5), (114, 1000), (115, 1000), (116, 1000), (117, 1000), (118, 1000), (119, 1000), (120, 3), (120, 4), (121, 1000), (122, 1000), (123, 1000), (124, 3), (124, 4), (125, 1000), (126, 1000), (127, 1000), (128, 3), (128, 4), (128, 5), (129, 1000), (130, 1000), (131, 1000), (300, 0), (300, 1), (300, 2), (300 + 1, 1000), (300 + 2, 1000), (300 + 3, 1000), (300 + 4, 1000)]
theorem W_X11_perform_n {k : Nat} (h : wlk [(113, 0), (113, 1), (113, 2), (113, 3), (113, 4), (113, 5), (114, 1000), (115, 1000), (116, 1000), (117, 1000), (118, 1000), (119, 1000), (120, 3), (120, 4), (121, 1000), (122, 1000), (123, 1000), (124, 3), (124, 4), (125, 1000), (126, 1000), (127, 1000), (128, 3), (128, 4), (128, 5), (129, 1000), (130, 1000), (131, 1000), (300, 0), (300, 1), (300, 2), (300 + 1, 1000), (300 + 2, 1000), (300 + 3, 1000), (300 + 4, 1000)] k = false := by rfl) : ∀ i, ¬ W_X11_perform k i := WL_n h
set_option maxHeartbeats 4000000 in
set_option maxRecDepth 100000 in
theorem fr_X11_perform {l1 : Int} {l2 : Int} {l3 : Int} {P Q : Ii → Jj → Prop} {I0 : Ii} {J0 : Jj} (h : wp_X11_perform l1 l2 l3 I0 J0 P) (hq : ∀ (I' : Ii) (J' : Jj), P I' J' → Same (W_X11_perform) I0 J0 I' J' → Q I' J') : wp_X11_perform l1 l2 l3 I0 J0 Q := by
  have hs := Same.rf (W := (W_X11_perform)) I0 J0
  unfold wp_X11_perform at h ⊢
  obtain ⟨g, h⟩ := h
  refine ⟨g, ?_⟩
  refine ⟨fun c => ?_, fun c => ?_, fun c => ?_, fun c => ?_, fun c => ?_, fun c => ?_, fun c => ?_, fun c => ?_, fun c => ?_⟩
  · replace h := h.1 c
    exact hq _ _ h hs
  · replace h := h.2.1 c
    refine fr_X11_mergeGroups h (fun I2 J2 h hs2 => ?_)
    replace hs := hs.trans hs2 (WL_sub rfl)
    exact hq _ _ h hs
  · replace h := h.2.2.1 c
    intro I1 e1
    replace h := h I1 e1
    replace hs := hs.upI e1 rfl
    exact hq _ _ h hs
  · replace h := h.2.2.2.1 c
    refine fr_X11_takeTo h (fun I2 J2 h hs2 => ?_)
    replace hs := hs.trans hs2 (WL_sub rfl)
    exact hq _ _ h hs
  · replace h := h.2.2.2.2.1 c
    refine fr_X11_makeSteps h (fun v I2 J2 h hs2 => ?_)
    replace hs := hs.trans hs2 (WL_sub rfl)
    exact hq _ _ h hs
  · replace h := h.2.2.2.2.2.1 c
    refine fr_X11_makeSteps h (fun v I2 J2 h hs2 => ?_)
    replace hs := hs.trans hs2 (WL_sub rfl)
    exact hq _ _ h hs
  · replace h := h.2.2.2.2.2.2.1 c
    refine fr_X11_searchBest h (fun I2 J2 h hs2 => ?_)
    replace hs := hs.trans hs2 (WL_sub rfl)
    refine fr_X11_takeBest h (fun v I2 J2 h hs2 => ?_)
    replace hs := hs.trans hs2 (WL_sub rfl)
    exact hq _ _ h hs
  · replace h := h.2.2.2.2.2.2.2.1 c
    refine fr_X11_takeApart h (fun v I2 J2 h hs2 => ?_)
    replace hs := hs.trans hs2 (WL_sub rfl)
    exact hq _ _ h hs
  · replace h := h.2.2.2.2.2.2.2.2 c
    intro I1 e1
    replace h := h I1 e1
    replace hs := hs.upI e1 rfl
    exact hq _ _ h hs
def W_X11_bestDebts : Nat → Nat → Prop := WL [(113, 0), (113, 1), (113, 2), (113, 3), (113, 4), (113, 5), (114, 1000), (115, 1000), (116, 1000), (117, 1000), (118, 1000), (119, 1000), (121, 1000), (124, 3), (124, 4), (125, 1000), (126, 1000), (127, 1000)]
theorem W_X11_bestDebts_n {k : Nat} (h : wlk [(113, 0), (113, 1), (113, 2), (113, 3), (113, 4), (113, 5), (114, 1000), (115, 1000), (116, 1000), (117, 1000), (118, 1000), (119, 1000), (121, 1000), (124, 3), (124, 4), (125, 1000), (126, 1000), (127, 1000)] k = false := by rfl) : ∀ i, ¬ W_X11_bestDebts k i := WL_n h
set_option maxHeartbeats 4000000 in
set_option maxRecDepth 100000 in
theorem fr_X11_bestDebts {P Q : Int → Ii → Jj → Prop} {I0 : Ii} {J0 : Jj} (h : wp_X11_bestDebts I0 J0 P) (hq : ∀ (v : Int) (I' : Ii) (J' : Jj), P v I' J' → Same (W_X11_bestDebts) I0 J0 I' J' → Q v I' J') : wp_X11_bestDebts I0 J0 Q := by
  have hs := Same.rf (W := (W_X11_bestDebts)) I0 J0
  unfold wp_X11_bestDebts at h ⊢
  refine fr_X11_hasFewGroups h (fun v h => ?_)
  refine ⟨fun c => ?_, fun c => ?_⟩
  · replace h := h.1 c
    refine fr_X11_searchBest h (fun I2 J2 h hs2 => ?_)
    replace hs := hs.trans hs2 (WL_sub rfl)
    exact hq _ _ _ h hs
  · replace h := h.2 c
    exact hq _ _ _ h hs
def W_X11_bestCut : Nat → Nat → Prop := WL [(113, 0), (113, 1), (113, 2), (113, 3), (113, 4), (113, 5), (114, 1000), (115, 1000), (116, 1000), (117, 1000), (118, 1000), (119, 1000), (121, 1000), (124, 3), (124, 4), (125, 1000), (126, 1000), (127, 1000)]
theorem W_X11_bestCut_n {k : Nat} (h : wlk [(113, 0), (113, 1), (113, 2), (113, 3), (113, 4), (113, 5), (114, 1000), (115, 1000), (116, 1000), (117, 1000), (118, 1000), (119, 1000), (121, 1000), (124, 3), (124, 4), (125, 1000), (126, 1000), (127, 1000)] k = false := by rfl) : ∀ i, ¬ W_X11_bestCut k i := WL_n h
set_option maxHeartbeats 4000000 in
set_option maxRecDepth 100000 in
theorem fr_X11_bestCut {P Q : Int → Ii → Jj → Prop} {I0 : Ii} {J0 : Jj} (h : wp_X11_bestCut I0 J0 P) (hq : ∀ (v : Int) (I' : Ii) (J' : Jj), P v I' J' → Same (W_X11_bestCut) I0 J0 I' J' → Q v I' J') : wp_X11_bestCut I0 J0 Q := by
  have hs := Same.rf (W := (W_X11_bestCut)) I0 J0
  unfold wp_X11_bestCut at h ⊢
  refine fr_X11_hasFewGroups h (fun v h => ?_)
  refine ⟨fun c => ?_, fun c => ?_⟩
  · replace h := h.1 c
    refine fr_X11_searchBest h (fun I2 J2 h hs2 => ?_)
    replace hs := hs.trans hs2 (WL_sub rfl)
    exact hq _ _ _ h hs
  · replace h := h.2 c
    exact hq _ _ _ h hs
def W_X11_stepsToEnd : Nat → Nat → Prop := WL [(113, 0), (113, 1), (113, 2), (113, 3), (113, 4), (113, 5), (114, 1000), (115, 1000), (116, 1000), (117, 1000), (118, 1000), (119, 1000), (310, 0), (310, 1), (310, 2), (310 + 1, 1000), (310 + 2, 1000), (310 + 3, 1000), (310 + 4, 1000)]
theorem W_X11_stepsToEnd_n {k : Nat} (h : wlk [(113, 0), (113, 1), (113, 2), (113, 3), (113, 4), (113, 5), (114, 1000), (115, 1000), (116, 1000), (117, 1000), (118, 1000), (119, 1000), (310, 0), (310, 1), (310, 2), (310 + 1, 1000), (310 + 2, 1000), (310 + 3, 1000), (310 + 4, 1000)] k = false := by rfl) : ∀ i, ¬ W_X11_stepsToEnd k i := WL_n h
set_option maxHeartbeats 4000000 in
set_option maxRecDepth 100000 in
theorem fr_X11_stepsToEnd {l1 : Int} {P Q : Int → Ii → Jj → Prop} {I0 : Ii} {J0 : Jj} (h : wp_X11_stepsToEnd l1 I0 J0 P) (hq : ∀ (v : Int) (I' : Ii) (J' : Jj), P v I' J' → Same (W_X11_stepsToEnd) I0 J0 I' J' → Q v I' J') : wp_X11_stepsToEnd l1 I0 J0 Q := by
  have hs := Same.rf (W := (W_X11_stepsToEnd)) I0 J0
  unfold wp_X11_stepsToEnd at h ⊢
  refine fr_X11_requireTriedSteps h (fun h => ?_)
  refine fr_X11_trySteps h (fun v I2 J2 h hs2 => ?_)
  replace hs := hs.trans hs2 (WL_sub rfl)
  refine fr_X4_take h (fun I2 J2 h hs2 => ?_)
  replace hs := hs.trans hs2 (WL_sub rfl)
  refine fr_X4_chosenStep h (fun v h => ?_)
  obtain ⟨g, h⟩ := h
  refine ⟨g, ?_⟩
  refine ⟨fun c => ?_, fun c => ?_⟩
  · replace h := h.1 c
    exact hq _ _ _ h hs
  · replace h := h.2 c
    exact hq _ _ _ h hs
def W_X11_cutBehind : Nat → Nat → Prop := WL [(113, 0), (113, 1), (113, 2), (113, 3), (113, 4), (113, 5), (114, 1000), (115, 1000), (116, 1000), (117, 1000), (118, 1000), (119, 1000), (310, 0), (310, 1), (310, 2), (310 + 1, 1000), (310 + 2, 1000), (310 + 3, 1000), (310 + 4, 1000)]
theorem W_X11_cutBehind_n {k : Nat} (h : wlk [(113, 0), (113, 1), (113, 2), (113, 3), (113, 4), (113, 5), (114, 1000), (115, 1000), (116, 1000), (117, 1000), (118, 1000), (119, 1000), (310, 0), (310, 1), (310, 2), (310 + 1, 1000), (310 + 2, 1000), (310 + 3, 1000), (310 + 4, 1000)] k = false := by rfl) : ∀ i, ¬ W_X11_cutBehind k i := WL_n h
set_option maxHeartbeats 4000000 in
set_option maxRecDepth 100000 in
theorem fr_X11_cutBehind {l1 : Int} {P Q : Int → Ii → Jj → Prop} {I0 : Ii} {J0 : Jj} (h : wp_X11_cutBehind l1 I0 J0 P) (hq : ∀ (v : Int) (I' : Ii) (J' : Jj), P v I' J' → Same (W_X11_cutBehind) I0 J0 I' J' → Q v I' J') : wp_X11_cutBehind l1 I0 J0 Q := by
  have hs := Same.rf (W := (W_X11_cutBehind)) I0 J0
  unfold wp_X11_cutBehind at h ⊢
  refine fr_X11_requireTriedSteps h (fun h => ?_)
  refine fr_X11_trySteps h (fun v I2 J2 h hs2 => ?_)
  replace hs := hs.trans hs2 (WL_sub rfl)
  refine fr_X4_take h (fun I2 J2 h hs2 => ?_)
  replace hs := hs.trans hs2 (WL_sub rfl)
  exact hq _ _ _ h hs
def W_X11_runCommands : Nat → Nat → Prop := WL [(110, 1000), (113, 0), (113, 1), (113, 2), (113, 3), (113, 4), (113, 5), (114, 1000), (115, 1000), (116, 1000), (117, 1000), (118, 1000), (119, 1000), (120, 3), (120, 4), (121, 1000), (122, 1000), (123, 1000), (124, 3), (124, 4), (125, 1000), (126, 1000), (127, 1000), (128, 3), (128, 4), (128, 5), (129, 1000), (130, 1000), (131, 1000), (300, 0), (300, 1), (300, 2), (300 + 1, 1000), (300 + 2, 1000), (300 + 3, 1000), (300 + 4, 1000)]
theorem W_X11_runCommands_n {k : Nat} (h : wlk [(110, 1000), (113, 0), (113, 1), (113, 2), (113, 3), (113, 4), (113, 5), (114, 1000), (115, 1000), (116, 1000), (117, 1000), (118, 1000), (119, 1000), (120, 3), (120, 4), (121, 1000), (122, 1000), (123, 1000), (124, 3), (124, 4), (125, 1000), (126, 1000), (127, 1000), (128, 3), (128, 4), (128, 5), (129, 1000), (130, 1000), (131, 1000), (300, 0), (300, 1), (300, 2), (300 + 1, 1000), (300 + 2, 1000), (300 + 3, 1000), (300 + 4, 1000)] k = false := by rfl) : ∀ i, ¬ W_X11_runCommands k i := WL_n h
theorem ls_X11_runCommands_6 {Q : Int → Ii → Jj → Prop} {n : Nat} {l1 : Int} {l2 : Int} {l3 : Int} {I : Ii} {J : Jj} (h : Lb_X11_runCommands_6 Q (L_X11_runCommands_6 Q n) l1 l2 l3 I J) : L_X11_runCommands_6 Q (n + 1) l1 l2 l3 I J := h
set_option maxHeartbeats 4000000 in
set_option maxRecDepth 100000 in
theorem fl_X11_runCommands_6 {P Q : Int → Ii → Jj → Prop} {I0 : Ii} {J0 : Jj} (hq : ∀ (v : Int) (I' : Ii) (J' : Jj), P v I' J' → Same (W_X11_runCommands) I0 J0 I' J' → Q v I' J') : ∀ (n : Nat) (l1 : Int) (l2 : Int) (l3 : Int) (I : Ii) (J : Jj), L_X11_runCommands_6 P n l1 l2 l3 I J → Same (W_X11_runCommands) I0 J0 I J → L_X11_runCommands_6 Q n l1 l2 l3 I J := by
  intro n
  induction n with
  | zero => intro l1 l2 l3 I J h _; exact h
  | succ n ih =>
    intro l1 l2 l3 I J h hs
    have h : Lb_X11_runCommands_6 P (L_X11_runCommands_6 P n) l1 l2 l3 I J := h
    show Lb_X11_runCommands_6 Q (L_X11_runCommands_6 Q n) l1 l2 l3 I J
    have hr6 := ih
    clear ih
    unfold Lb_X11_runCommands_6 at h ⊢
    obtain ⟨g, h⟩ := h
    refine ⟨g, ?_⟩
    refine ⟨fun c => ?_, fun c => ?_⟩
    · replace h := h.1 c
      exact hq _ _ _ h hs
    · replace h := h.2 c
      obtain ⟨g, h⟩ := h
      refine ⟨g, ?_⟩
      obtain ⟨g, h⟩ := h
      refine ⟨g, ?_⟩
      refine ⟨fun c => ?_, fun c => ?_⟩
      · replace h := h.1 c
        exact hq _ _ _ h hs
      · replace h := h.2 c
        obtain ⟨g, h⟩ := h
        refine ⟨g, ?_⟩
        refine ⟨fun c => ?_, fun c => ?_⟩
        · replace h := h.1 c
          exact hq _ _ _ h hs
        · replace h := h.2 c
          refine fr_X11_at h (fun v h => ?_)
          obtain ⟨g, h⟩ := h
          refine ⟨g, ?_⟩
          refine ⟨fun c => ?_, fun c => ?_⟩
          · replace h := h.1 c
            refine ⟨fun c => ?_, fun c => ?_⟩
            · replace h := h.1 c
              refine fr_X11_at h (fun v h => ?_)
              refine fr_X11_at h (fun v h => ?_)
              refine fr_X11_canPerform h (fun v I2 J2 h hs2 => ?_)
              replace hs := hs.trans hs2 (WL_sub rfl)
              refine ⟨fun c => ?_, fun c => ?_⟩
              · replace h := h.1 c
                refine fr_X11_perform h (fun I2 J2 h hs2 => ?_)
                replace hs := hs.trans hs2 (WL_sub rfl)
                exact hr6 _ _ _ _ _ h hs
              · replace h := h.2 c
                exact hq _ _ _ h hs
            · replace h := h.2 c
              refine fr_X6_behindClose h (fun v I2 J2 h hs2 => ?_)
              replace hs := hs.trans hs2 (WL_sub rfl)
              exact hr6 _ _ _ _ _ h hs
          · replace h := h.2 c
            refine fr_X6_beginRepeat h (fun I2 J2 h hs2 => ?_)
            replace hs := hs.trans hs2 (WL_sub rfl)
            exact hr6 _ _ _ _ _ h hs
set_option maxHeartbeats 4000000 in
set_option maxRecDepth 100000 in
theorem fr_X11_runCommands {P Q : Int → Ii → Jj → Prop} {I0 : Ii} {J0 : Jj} (h : wp_X11_runCommands I0 J0 P) (hq : ∀ (v : Int) (I' : Ii) (J' : Jj), P v I' J' → Same (W_X11_runCommands) I0 J0 I' J' → Q v I' J') : wp_X11_runCommands I0 J0 Q := by
  have hs := Same.rf (W := (W_X11_runCommands)) I0 J0
  unfold wp_X11_runCommands at h ⊢
  obtain ⟨n, h⟩ := h
  exact ⟨n, fl_X11_runCommands_6 hq n _ _ _ _ _ h hs⟩
