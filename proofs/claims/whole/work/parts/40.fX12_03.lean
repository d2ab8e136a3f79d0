set_option maxHeartbeats 4000000 in
set_option maxRecDepth 100000 in
theorem fr_X12_commandHere {P Q : Int → Ii → Jj → Prop} {I : Ii} {J : Jj} (h : wp_X12_commandHere I J P) (hq : ∀ (v : Int), P v I J → Q v I J) : wp_X12_commandHere I J Q := by
  unfold wp_X12_commandHere at h ⊢
  refine fr_X12_isWord h (fun v h => ?_)
  refine ⟨fun c => ?_, fun c => ?_⟩
  · replace h := h.1 c
    refine fr_X12_isWord h (fun v h => ?_)
    refine ⟨fun c => ?_, fun c => ?_⟩
    · replace h := h.1 c
      refine fr_X12_isWord h (fun v h => ?_)
      refine ⟨fun c => ?_, fun c => ?_⟩
      · replace h := h.1 c
        refine fr_X12_isWord h (fun v h => ?_)
        refine ⟨fun c => ?_, fun c => ?_⟩
        · replace h := h.1 c
          refine fr_X12_isWord h (fun v h => ?_)
          refine ⟨fun c => ?_, fun c => ?_⟩
          · replace h := h.1 c
            refine fr_X12_isWord h (fun v h => ?_)
            refine ⟨fun c => ?_, fun c => ?_⟩
            · replace h := h.1 c
              refine fr_X12_isWord h (fun v h => ?_)
              refine ⟨fun c => ?_, fun c => ?_⟩
              · replace h := h.1 c
                refine fr_X12_isWord h (fun v h => ?_)
                refine ⟨fun c => ?_, fun c => ?_⟩
                · replace h := h.1 c
                  refine fr_X12_isWord h (fun v h => ?_)
                  refine ⟨fun c => ?_, fun c => ?_⟩
                  · replace h := h.1 c
                    exact hq _ h
                  · replace h := h.2 c
                    exact hq _ h
                · replace h := h.2 c
                  exact hq _ h
              · replace h := h.2 c
                exact hq _ h
            · replace h := h.2 c
              exact hq _ h
          · replace h := h.2 c
            exact hq _ h
        · replace h := h.2 c
          exact hq _ h
      · replace h := h.2 c
        exact hq _ h
    · replace h := h.2 c
      exact hq _ h
  · replace h := h.2 c
    exact hq _ h
def W_X12_command : Nat → Nat → Prop := WL [(0, 4), (0, 5), (0, 6), (0, 7), (0, 8), (0, 9), (0, 10), (0, 14), (0, 41), (0, 42), (0, 43), (16, 1000), (17, 1000), (18, 1000)]
theorem W_X12_command_n {k : Nat} (h : wlk [(0, 4), (0, 5), (0, 6), (0, 7), (0, 8), (0, 9), (0, 10), (0, 14), (0, 41), (0, 42), (0, 43), (16, 1000), (17, 1000), (18, 1000)] k = false := by rfl) : ∀ i, ¬ W_X12_command k i := WL_n h
set_option maxHeartbeats 4000000 in
set_option maxRecDepth 100000 in
theorem fb_X12_command_229 {P Q : Ii → Jj → Prop} {I0 : Ii} {J0 : Jj} (hq : ∀ (I' : Ii) (J' : Jj), P I' J' → Same (W_X12_command) I0 J0 I' J' → Q I' J') {t1 : Int} {t2 : Int} {I : Ii} {J : Jj} (h : B_X12_command_229 P t1 t2 I J) (hs : Same (W_X12_command) I0 J0 I J) : B_X12_command_229 Q t1 t2 I J := by
  unfold B_X12_command_229 at h ⊢
  refine fr_X12_truth h (fun v h => ?_)
  intro I1 e1
  replace h := h I1 e1
  replace hs := hs.upI e1 rfl
  exact hq _ _ h hs
set_option maxHeartbeats 4000000 in
set_option maxRecDepth 100000 in
theorem fb_X12_command_195 {P Q : Ii → Jj → Prop} {I0 : Ii} {J0 : Jj} (hq : ∀ (I' : Ii) (J' : Jj), P I' J' → Same (W_X12_command) I0 J0 I' J' → Q I' J') {l1 : Int} {I : Ii} {J : Jj} (h : B_X12_command_195 P l1 I J) (hs : Same (W_X12_command) I0 J0 I J) : B_X12_command_195 Q l1 I J := by
  unfold B_X12_command_195 at h ⊢
  refine fr_X12_isGood h (fun v h => ?_)
  refine ⟨fun c => ?_, fun c => ?_⟩
  · replace h := h.1 c
    intro I1 e1
    replace h := h I1 e1
    replace hs := hs.upI e1 rfl
    obtain ⟨g, h⟩ := h
    refine ⟨g, ?_⟩
    refine ⟨fun c => ?_, fun c => ?_⟩
    · replace h := h.1 c
      exact fb_X12_command_229 hq h hs
    · replace h := h.2 c
      exact fb_X12_command_229 hq h hs
  · replace h := h.2 c
    exact hq _ _ h hs
set_option maxHeartbeats 4000000 in
set_option maxRecDepth 100000 in
theorem fb_X12_command_183 {P Q : Ii → Jj → Prop} {I0 : Ii} {J0 : Jj} (hq : ∀ (I' : Ii) (J' : Jj), P I' J' → Same (W_X12_command) I0 J0 I' J' → Q I' J') {l1 : Int} {I : Ii} {J : Jj} (h : B_X12_command_183 P l1 I J) (hs : Same (W_X12_command) I0 J0 I J) : B_X12_command_183 Q l1 I J := by
  unfold B_X12_command_183 at h ⊢
  obtain ⟨g, h⟩ := h
  refine ⟨g, ?_⟩
  refine ⟨fun c => ?_, fun c => ?_⟩
  · replace h := h.1 c
    exact fb_X12_command_195 hq h hs
  · replace h := h.2 c
    refine fr_X12_mustSign h (fun I2 J2 h hs2 => ?_)
    replace hs := hs.trans hs2 (WL_sub rfl)
    exact fb_X12_command_195 hq h hs
set_option maxHeartbeats 4000000 in
set_option maxRecDepth 100000 in
theorem fb_X12_command_164 {P Q : Ii → Jj → Prop} {I0 : Ii} {J0 : Jj} (hq : ∀ (I' : Ii) (J' : Jj), P I' J' → Same (W_X12_command) I0 J0 I' J' → Q I' J') {l1 : Int} {l2 : Int} {I : Ii} {J : Jj} (h : B_X12_command_164 P l1 l2 I J) (hs : Same (W_X12_command) I0 J0 I J) : B_X12_command_164 Q l1 l2 I J := by
  unfold B_X12_command_164 at h ⊢
  obtain ⟨g, h⟩ := h
  refine ⟨g, ?_⟩
  refine ⟨fun c => ?_, fun c => ?_⟩
  · replace h := h.1 c
    exact fb_X12_command_183 hq h hs
  · replace h := h.2 c
    refine fr_X12_number h (fun v I2 J2 h hs2 => ?_)
    replace hs := hs.trans hs2 (WL_sub rfl)
    obtain ⟨g, h⟩ := h
    refine ⟨g, ?_⟩
    intro I1 e1
    replace h := h I1 e1
    replace hs := hs.upI e1 rfl
    exact fb_X12_command_183 hq h hs
set_option maxHeartbeats 4000000 in
set_option maxRecDepth 100000 in
theorem fb_X12_command_148 {P Q : Ii → Jj → Prop} {I0 : Ii} {J0 : Jj} (hq : ∀ (I' : Ii) (J' : Jj), P I' J' → Same (W_X12_command) I0 J0 I' J' → Q I' J') {l1 : Int} {l2 : Int} {I : Ii} {J : Jj} (h : B_X12_command_148 P l1 l2 I J) (hs : Same (W_X12_command) I0 J0 I J) : B_X12_command_148 Q l1 l2 I J := by
  unfold B_X12_command_148 at h ⊢
  obtain ⟨g, h⟩ := h
  refine ⟨g, ?_⟩
  refine ⟨fun c => ?_, fun c => ?_⟩
  · replace h := h.1 c
    exact fb_X12_command_164 hq h hs
  · replace h := h.2 c
    refine fr_X12_toldVertex h (fun v I2 J2 h hs2 => ?_)
    replace hs := hs.trans hs2 (WL_sub rfl)
    obtain ⟨g, h⟩ := h
    refine ⟨g, ?_⟩
    intro I1 e1
    replace h := h I1 e1
    replace hs := hs.upI e1 rfl
    exact fb_X12_command_164 hq h hs
set_option maxHeartbeats 4000000 in
set_option maxRecDepth 100000 in
theorem fb_X12_command_132 {P Q : Ii → Jj → Prop} {I0 : Ii} {J0 : Jj} (hq : ∀ (I' : Ii) (J' : Jj), P I' J' → Same (W_X12_command) I0 J0 I' J' → Q I' J') {l1 : Int} {l2 : Int} {I : Ii} {J : Jj} (h : B_X12_command_132 P l1 l2 I J) (hs : Same (W_X12_command) I0 J0 I J) : B_X12_command_132 Q l1 l2 I J := by
  unfold B_X12_command_132 at h ⊢
  obtain ⟨g, h⟩ := h
  refine ⟨g, ?_⟩
  refine ⟨fun c => ?_, fun c => ?_⟩
  · replace h := h.1 c
    exact fb_X12_command_148 hq h hs
  · replace h := h.2 c
    refine fr_X12_toldVertex h (fun v I2 J2 h hs2 => ?_)
    replace hs := hs.trans hs2 (WL_sub rfl)
    obtain ⟨g, h⟩ := h
    refine ⟨g, ?_⟩
    intro I1 e1
    replace h := h I1 e1
    replace hs := hs.upI e1 rfl
    exact fb_X12_command_148 hq h hs
set_option maxHeartbeats 4000000 in
set_option maxRecDepth 100000 in
theorem fb_X12_command_113 {P Q : Ii → Jj → Prop} {I0 : Ii} {J0 : Jj} (hq : ∀ (I' : Ii) (J' : Jj), P I' J' → Same (W_X12_command) I0 J0 I' J' → Q I' J') {l1 : Int} {l2 : Int} {I : Ii} {J : Jj} (h : B_X12_command_113 P l1 l2 I J) (hs : Same (W_X12_command) I0 J0 I J) : B_X12_command_113 Q l1 l2 I J := by
  unfold B_X12_command_113 at h ⊢
  obtain ⟨g, h⟩ := h
  refine ⟨g, ?_⟩
  refine ⟨fun c => ?_, fun c => ?_⟩
  · replace h := h.1 c
    exact fb_X12_command_132 hq h hs
  · replace h := h.2 c
    refine fr_X12_number h (fun v I2 J2 h hs2 => ?_)
    replace hs := hs.trans hs2 (WL_sub rfl)
    obtain ⟨g, h⟩ := h
    refine ⟨g, ?_⟩
    intro I1 e1
    replace h := h I1 e1
    replace hs := hs.upI e1 rfl
    exact fb_X12_command_132 hq h hs
set_option maxHeartbeats 4000000 in
set_option maxRecDepth 100000 in
theorem fb_X12_command_99 {P Q : Ii → Jj → Prop} {I0 : Ii} {J0 : Jj} (hq : ∀ (I' : Ii) (J' : Jj), P I' J' → Same (W_X12_command) I0 J0 I' J' → Q I' J') {l1 : Int} {l2 : Int} {I : Ii} {J : Jj} (h : B_X12_command_99 P l1 l2 I J) (hs : Same (W_X12_command) I0 J0 I J) : B_X12_command_99 Q l1 l2 I J := by
  unfold B_X12_command_99 at h ⊢
  refine fr_X12_number h (fun v I2 J2 h hs2 => ?_)
  replace hs := hs.trans hs2 (WL_sub rfl)
  obtain ⟨g, h⟩ := h
  refine ⟨g, ?_⟩
  intro I1 e1
  replace h := h I1 e1
  replace hs := hs.upI e1 rfl
  exact fb_X12_command_113 hq h hs
set_option maxHeartbeats 4000000 in
set_option maxRecDepth 100000 in
theorem fb_X12_command_49 {P Q : Ii → Jj → Prop} {I0 : Ii} {J0 : Jj} (hq : ∀ (I' : Ii) (J' : Jj), P I' J' → Same (W_X12_command) I0 J0 I' J' → Q I' J') {l1 : Int} {I : Ii} {J : Jj} (h : B_X12_command_49 P l1 I J) (hs : Same (W_X12_command) I0 J0 I J) : B_X12_command_49 Q l1 I J := by
  unfold B_X12_command_49 at h ⊢
  refine fr_X12_isGood h (fun v h => ?_)
  refine ⟨fun c => ?_, fun c => ?_⟩
  · replace h := h.1 c
    intro I1 e1
    replace h := h I1 e1
    replace hs := hs.upI e1 rfl
    refine fr_X12_goOn h (fun I2 J2 h hs2 => ?_)
    replace hs := hs.trans hs2 (WL_sub rfl)
    obtain ⟨g, h⟩ := h
    refine ⟨g, ?_⟩
    intro I1 e1
    replace h := h I1 e1
    replace hs := hs.upI e1 rfl
    obtain ⟨g, h⟩ := h
    refine ⟨g, ?_⟩
    refine ⟨fun c => ?_, fun c => ?_⟩
    · replace h := h.1 c
      exact fb_X12_command_99 hq h hs
    · replace h := h.2 c
      refine ⟨fun c => ?_, fun c => ?_⟩
      · replace h := h.1 c
        exact fb_X12_command_99 hq h hs
      · replace h := h.2 c
        refine ⟨fun c => ?_, fun c => ?_⟩
        · replace h := h.1 c
          exact fb_X12_command_113 hq h hs
        · replace h := h.2 c
          exact fb_X12_command_99 hq h hs
  · replace h := h.2 c
    exact hq _ _ h hs
set_option maxHeartbeats 4000000 in
set_option maxRecDepth 100000 in
theorem fb_X12_command_34 {P Q : Ii → Jj → Prop} {I0 : Ii} {J0 : Jj} (hq : ∀ (I' : Ii) (J' : Jj), P I' J' → Same (W_X12_command) I0 J0 I' J' → Q I' J') {l1 : Int} {I : Ii} {J : Jj} (h : B_X12_command_34 P l1 I J) (hs : Same (W_X12_command) I0 J0 I J) : B_X12_command_34 Q l1 I J := by
  unfold B_X12_command_34 at h ⊢
  obtain ⟨g, h⟩ := h
  refine ⟨g, ?_⟩
  refine ⟨fun c => ?_, fun c => ?_⟩
  · replace h := h.1 c
    exact fb_X12_command_49 hq h hs
  · replace h := h.2 c
    refine fr_X12_wrong h (fun I2 J2 h hs2 => ?_)
    replace hs := hs.trans hs2 (WL_sub rfl)
    exact fb_X12_command_49 hq h hs
set_option maxHeartbeats 4000000 in
set_option maxRecDepth 100000 in
theorem fb_X12_command_15 {P Q : Ii → Jj → Prop} {I0 : Ii} {J0 : Jj} (hq : ∀ (I' : Ii) (J' : Jj), P I' J' → Same (W_X12_command) I0 J0 I' J' → Q I' J') {l1 : Int} {I : Ii} {J : Jj} (h : B_X12_command_15 P l1 I J) (hs : Same (W_X12_command) I0 J0 I J) : B_X12_command_15 Q l1 I J := by
  unfold B_X12_command_15 at h ⊢
  obtain ⟨g, h⟩ := h
  refine ⟨g, ?_⟩
  refine ⟨fun c => ?_, fun c => ?_⟩
  · replace h := h.1 c
    exact fb_X12_command_34 hq h hs
  · replace h := h.2 c
    obtain ⟨g, h⟩ := h
    refine ⟨g, ?_⟩
    refine ⟨fun c => ?_, fun c => ?_⟩
    · replace h := h.1 c
      exact fb_X12_command_34 hq h hs
    · replace h := h.2 c
      refine fr_X12_wrong h (fun I2 J2 h hs2 => ?_)
      replace hs := hs.trans hs2 (WL_sub rfl)
      exact fb_X12_command_34 hq h hs
set_option maxHeartbeats 4000000 in
set_option maxRecDepth 100000 in
theorem fr_X12_command {P Q : Ii → Jj → Prop} {I0 : Ii} {J0 : Jj} (h : wp_X12_command I0 J0 P) (hq : ∀ (I' : Ii) (J' : Jj), P I' J' → Same (W_X12_command) I0 J0 I' J' → Q I' J') : wp_X12_command I0 J0 Q := by
  have hs := Same.rf (W := (W_X12_command)) I0 J0
  unfold wp_X12_command at h ⊢
  refine fr_X12_commandHere h (fun v h => ?_)
  obtain ⟨g, h⟩ := h
  refine ⟨g, ?_⟩
  refine ⟨fun c => ?_, fun c => ?_⟩
  · replace h := h.1 c
    exact fb_X12_command_15 hq h hs
  · replace h := h.2 c
    refine fr_X12_wrong h (fun I2 J2 h hs2 => ?_)
    replace hs := hs.trans hs2 (WL_sub rfl)
    exact fb_X12_command_15 hq h hs
def W_X12_closes : Nat → Nat → Prop := WL [(0, 4), (0, 5), (0, 6), (0, 7), (0, 8), (0, 9), (0, 10), (0, 14), (0, 41), (0, 43), (16, 1000)]
theorem W_X12_closes_n {k : Nat} (h : wlk [(0, 4), (0, 5), (0, 6), (0, 7), (0, 8), (0, 9), (0, 10), (0, 14), (0, 41), (0, 43), (16, 1000)] k = false := by rfl) : ∀ i, ¬ W_X12_closes k i := WL_n h
theorem ls_X12_closes_0 {Q : Ii → Jj → Prop} {n : Nat} {I : Ii} {J : Jj} (h : Lb_X12_closes_0 Q (L_X12_closes_0 Q n)  I J) : L_X12_closes_0 Q (n + 1)  I J := h
set_option maxHeartbeats 4000000 in
set_option maxRecDepth 100000 in
theorem fl_X12_closes_0 {P Q : Ii → Jj → Prop} {I0 : Ii} {J0 : Jj} (hq : ∀ (I' : Ii) (J' : Jj), P I' J' → Same (W_X12_closes) I0 J0 I' J' → Q I' J') : ∀ (n : Nat)  (I : Ii) (J : Jj), L_X12_closes_0 P n  I J → Same (W_X12_closes) I0 J0 I J → L_X12_closes_0 Q n  I J := by
  intro n
  induction n with
  | zero => intro  I J h _; exact h
  | succ n ih =>
    intro  I J h hs
    have h : Lb_X12_closes_0 P (L_X12_closes_0 P n)  I J := h
    show Lb_X12_closes_0 Q (L_X12_closes_0 Q n)  I J
    have hr0 := ih
    clear ih
    unfold Lb_X12_closes_0 at h ⊢
    obtain ⟨g, h⟩ := h
    refine ⟨g, ?_⟩
    refine ⟨fun c => ?_, fun c => ?_⟩
    · replace h := h.1 c
      exact hq _ _ h hs
    · replace h := h.2 c
      refine fr_X12_isSign h (fun v h => ?_)
      refine ⟨fun c => ?_, fun c => ?_⟩
      · replace h := h.1 c
        exact hq _ _ h hs
      · replace h := h.2 c
        intro I1 e1
        replace h := h I1 e1
        replace hs := hs.upI e1 rfl
        obtain ⟨g, h⟩ := h
        refine ⟨g, ?_⟩
        intro I1 e1
        replace h := h I1 e1
        replace hs := hs.upI e1 rfl
        intro I1 e1
        replace h := h I1 e1
        replace hs := hs.upI e1 rfl
        refine fr_X12_goOn h (fun I2 J2 h hs2 => ?_)
        replace hs := hs.trans hs2 (WL_sub rfl)
        refine fr_X12_mustSign h (fun I2 J2 h hs2 => ?_)
        replace hs := hs.trans hs2 (WL_sub rfl)
        exact hr0 _ _ h hs
set_option maxHeartbeats 4000000 in
set_option maxRecDepth 100000 in
theorem fr_X12_closes {P Q : Ii → Jj → Prop} {I0 : Ii} {J0 : Jj} (h : wp_X12_closes I0 J0 P) (hq : ∀ (I' : Ii) (J' : Jj), P I' J' → Same (W_X12_closes) I0 J0 I' J' → Q I' J') : wp_X12_closes I0 J0 Q := by
  have hs := Same.rf (W := (W_X12_closes)) I0 J0
  unfold wp_X12_closes at h ⊢
  obtain ⟨n, h⟩ := h
  exact ⟨n, fl_X12_closes_0 hq n _ _ h hs⟩
def W_X12_may : Nat → Nat → Prop := WL [(10, 1000)]
theorem W_X12_may_n {k : Nat} (h : wlk [(10, 1000)] k = false := by rfl) : ∀ i, ¬ W_X12_may k i := WL_n h
set_option maxHeartbeats 4000000 in
set_option maxRecDepth 100000 in
theorem fr_X12_may {l1 : Int} {l2 : Int} {l3 : Int} {P Q : Int → Ii → Jj → Prop} {I0 : Ii} {J0 : Jj} (h : wp_X12_may l1 l2 l3 I0 J0 P) (hq : ∀ (v : Int) (I' : Ii) (J' : Jj), P v I' J' → Same (W_X12_may) I0 J0 I' J' → Q v I' J') : wp_X12_may l1 l2 l3 I0 J0 Q := by
  have hs := Same.rf (W := (W_X12_may)) I0 J0
  unfold wp_X12_may at h ⊢
  obtain ⟨g, h⟩ := h
  refine ⟨g, ?_⟩
  refine ⟨fun c => ?_, fun c => ?_, fun c => ?_, fun c => ?_, fun c => ?_, fun c => ?_, fun c => ?_, fun c => ?_⟩
  · replace h := h.1 c
    refine fr_X12_isIn h (fun v h => ?_)
    obtain ⟨g, h⟩ := h
    refine ⟨g, ?_⟩
    exact hq _ _ _ h hs
  · replace h := h.2.1 c
    refine fr_X12_whyShrink h (fun v I2 J2 h hs2 => ?_)
    replace hs := hs.trans hs2 (WL_sub rfl)
    obtain ⟨g, h⟩ := h
    refine ⟨g, ?_⟩
    refine ⟨fun c => ?_, fun c => ?_⟩
    · replace h := h.1 c
      exact hq _ _ _ h hs
    · replace h := h.2 c
      exact hq _ _ _ h hs
  · replace h := h.2.2.1 c
    obtain ⟨g, h⟩ := h
    refine ⟨g, ?_⟩
    refine ⟨fun c => ?_, fun c => ?_⟩
    · replace h := h.1 c
      exact hq _ _ _ h hs
    · replace h := h.2 c
      exact hq _ _ _ h hs
  · replace h := h.2.2.2.1 c
    refine fr_X12_areThere h (fun v h => ?_)
    refine ⟨fun c => ?_, fun c => ?_⟩
    · replace h := h.1 c
      exact hq _ _ _ h hs
    · replace h := h.2 c
      refine fr_X12_whyMove h (fun v h => ?_)
      obtain ⟨g, h⟩ := h
      refine ⟨g, ?_⟩
      refine ⟨fun c => ?_, fun c => ?_⟩
      · replace h := h.1 c
        exact hq _ _ _ h hs
      · replace h := h.2 c
        exact hq _ _ _ h hs
  · replace h := h.2.2.2.2.1 c
    refine fr_X12_nextNow h (fun v h => ?_)
    obtain ⟨g, h⟩ := h
    refine ⟨g, ?_⟩
    refine ⟨fun c => ?_, fun c => ?_⟩
    · replace h := h.1 c
      exact hq _ _ _ h hs
    · replace h := h.2 c
      exact hq _ _ _ h hs
  · replace h := h.2.2.2.2.2.1 c
    refine fr_X12_isIn h (fun v h => ?_)
    obtain ⟨g, h⟩ := h
    refine ⟨g, ?_⟩
    exact hq _ _ _ h hs
  · replace h := h.2.2.2.2.2.2.1 c
    refine fr_X12_groups h (fun v h => ?_)
    obtain ⟨g, h⟩ := h
    refine ⟨g, ?_⟩
    refine ⟨fun c => ?_, fun c => ?_⟩
    · replace h := h.1 c
      exact hq _ _ _ h hs
    · replace h := h.2 c
      exact hq _ _ _ h hs
  · replace h := h.2.2.2.2.2.2.2 c
    obtain ⟨g, h⟩ := h
    refine ⟨g, ?_⟩
    obtain ⟨g, h⟩ := h
    refine ⟨g, ?_⟩
    refine ⟨fun c => ?_, fun c => ?_⟩
    · replace h := h.1 c
      exact hq _ _ _ h hs
    · replace h := h.2 c
      refine fr_X12_mayApart h (fun v h => ?_)
      refine ⟨fun c => ?_, fun c => ?_⟩
      · replace h := h.1 c
        exact hq _ _ _ h hs
      · replace h := h.2 c
        exact hq _ _ _ h hs
def W_X12_tell : Nat → Nat → Prop := WL [(0, 46), (21, 1000)]
theorem W_X12_tell_n {k : Nat} (h : wlk [(0, 46), (21, 1000)] k = false := by rfl) : ∀ i, ¬ W_X12_tell k i := WL_n h
set_option maxHeartbeats 4000000 in
set_option maxRecDepth 100000 in
theorem fr_X12_tell {l1 : Int} {P Q : Ii → Jj → Prop} {I0 : Ii} {J0 : Jj} (h : wp_X12_tell l1 I0 J0 P) (hq : ∀ (I' : Ii) (J' : Jj), P I' J' → Same (W_X12_tell) I0 J0 I' J' → Q I' J') : wp_X12_tell l1 I0 J0 Q := by
  have hs := Same.rf (W := (W_X12_tell)) I0 J0
  unfold wp_X12_tell at h ⊢
  obtain ⟨g, h⟩ := h
  refine ⟨g, ?_⟩
  intro I1 e1
  replace h := h I1 e1
  replace hs := hs.upI e1 rfl
  intro I1 e1
  replace h := h I1 e1
  replace hs := hs.upI e1 rfl
  exact hq _ _ h hs
def W_X12_tellName : Nat → Nat → Prop := WL [(0, 46), (21, 1000)]
theorem W_X12_tellName_n {k : Nat} (h : wlk [(0, 46), (21, 1000)] k = false := by rfl) : ∀ i, ¬ W_X12_tellName k i := WL_n h
theorem ls_X12_tellName_3 {l1 : Int64} {Q : Ii → Jj → Prop} {n : Nat} {l3 : Int} {I : Ii} {J : Jj} (h : Lb_X12_tellName_3 l1 Q (L_X12_tellName_3 l1 Q n) l3 I J) : L_X12_tellName_3 l1 Q (n + 1) l3 I J := h
set_option maxHeartbeats 4000000 in
set_option maxRecDepth 100000 in
theorem fl_X12_tellName_3 {l1 : Int64} {P Q : Ii → Jj → Prop} {I0 : Ii} {J0 : Jj} (hq : ∀ (I' : Ii) (J' : Jj), P I' J' → Same (W_X12_tellName) I0 J0 I' J' → Q I' J') : ∀ (n : Nat) (l3 : Int) (I : Ii) (J : Jj), L_X12_tellName_3 l1 P n l3 I J → Same (W_X12_tellName) I0 J0 I J → L_X12_tellName_3 l1 Q n l3 I J := by
  intro n
  induction n with
  | zero => intro l3 I J h _; exact h
  | succ n ih =>
    intro l3 I J h hs
    have h : Lb_X12_tellName_3 l1 P (L_X12_tellName_3 l1 P n) l3 I J := h
    show Lb_X12_tellName_3 l1 Q (L_X12_tellName_3 l1 Q n) l3 I J
    have hr3 := ih
    clear ih
    unfold Lb_X12_tellName_3 at h ⊢
    obtain ⟨g, h⟩ := h
    refine ⟨g, ?_⟩
    refine ⟨fun c => ?_, fun c => ?_⟩
    · replace h := h.1 c
      exact hq _ _ h hs
    · replace h := h.2 c
      refine ⟨fun c => ?_, fun c => ?_⟩
      · replace h := h.1 c
        exact hr3 _ _ _ h hs
      · replace h := h.2 c
        refine fr_X12_tell h (fun I2 J2 h hs2 => ?_)
        replace hs := hs.trans hs2 (WL_sub rfl)
        exact hr3 _ _ _ h hs
set_option maxHeartbeats 4000000 in
set_option maxRecDepth 100000 in
theorem fr_X12_tellName {l1 : Int64} {P Q : Ii → Jj → Prop} {I0 : Ii} {J0 : Jj} (h : wp_X12_tellName l1 I0 J0 P) (hq : ∀ (I' : Ii) (J' : Jj), P I' J' → Same (W_X12_tellName) I0 J0 I' J' → Q I' J') : wp_X12_tellName l1 I0 J0 Q := by
  have hs := Same.rf (W := (W_X12_tellName)) I0 J0
  unfold wp_X12_tellName at h ⊢
  obtain ⟨n, h⟩ := h
  exact ⟨n, fl_X12_tellName_3 hq n _ _ _ h hs⟩
def W_X12_report : Nat → Nat → Prop := WL [(0, 0), (0, 46), (0, 47), (21, 1000)]
theorem W_X12_report_n {k : Nat} (h : wlk [(0, 0), (0, 46), (0, 47), (21, 1000)] k = false := by rfl) : ∀ i, ¬ W_X12_report k i := WL_n h
theorem ls_X12_report_48 {Q : Int → Ii → Jj → Prop} {r22 : Int → Int → Ii → Jj → Prop} {n : Nat} {l1 : Int} {l2 : Int} {l3 : Int} {I : Ii} {J : Jj} (h : Lb_X12_report_48 Q r22 (L_X12_report_48 Q r22 n) l1 l2 l3 I J) : L_X12_report_48 Q r22 (n + 1) l1 l2 l3 I J := h
set_option maxHeartbeats 4000000 in
set_option maxRecDepth 100000 in
theorem fl_X12_report_48 {P Q : Int → Ii → Jj → Prop} {I0 : Ii} {J0 : Jj} (hq : ∀ (v : Int) (I' : Ii) (J' : Jj), P v I' J' → Same (W_X12_report) I0 J0 I' J' → Q v I' J') {r22 q22 : Int → Int → Ii → Jj → Prop} (hr22 : ∀ (l1 : Int) (l2 : Int) (I' : Ii) (J' : Jj), r22 l1 l2 I' J' → Same (W_X12_report) I0 J0 I' J' → q22 l1 l2 I' J') : ∀ (n : Nat) (l1 : Int) (l2 : Int) (l3 : Int) (I : Ii) (J : Jj), L_X12_report_48 P r22 n l1 l2 l3 I J → Same (W_X12_report) I0 J0 I J → L_X12_report_48 Q q22 n l1 l2 l3 I J := by
  intro n
  induction n with
  | zero => intro l1 l2 l3 I J h _; exact h
  | succ n ih =>
    intro l1 l2 l3 I J h hs
    have h : Lb_X12_report_48 P r22 (L_X12_report_48 P r22 n) l1 l2 l3 I J := h
    show Lb_X12_report_48 Q q22 (L_X12_report_48 Q q22 n) l1 l2 l3 I J
    have hr48 := ih
    clear ih
    unfold Lb_X12_report_48 at h ⊢
    obtain ⟨g, h⟩ := h
    refine ⟨g, ?_⟩
    obtain ⟨g, h⟩ := h
    refine ⟨g, ?_⟩
    refine ⟨fun c => ?_, fun c => ?_⟩
    · replace h := h.1 c
      refine fr_X12_tell h (fun I2 J2 h hs2 => ?_)
      replace hs := hs.trans hs2 (WL_sub rfl)
      exact hr22 _ _ _ _ h hs
    · replace h := h.2 c
      obtain ⟨g, h⟩ := h
      refine ⟨g, ?_⟩
      obtain ⟨g, h⟩ := h
      refine ⟨g, ?_⟩
      obtain ⟨g, h⟩ := h
      refine ⟨g, ?_⟩
      refine ⟨fun c => ?_, fun c => ?_⟩
      · replace h := h.1 c
        refine fr_X12_tell h (fun I2 J2 h hs2 => ?_)
        replace hs := hs.trans hs2 (WL_sub rfl)
        obtain ⟨g, h⟩ := h
        refine ⟨g, ?_⟩
        refine fr_X12_tellName h (fun I2 J2 h hs2 => ?_)
        replace hs := hs.trans hs2 (WL_sub rfl)
        refine fr_X12_hasBit h (fun v h => ?_)
        refine ⟨fun c => ?_, fun c => ?_⟩
        · replace h := h.1 c
          exact hr48 _ _ _ _ _ h hs
        · replace h := h.2 c
          refine fr_X12_tell h (fun I2 J2 h hs2 => ?_)
          replace hs := hs.trans hs2 (WL_sub rfl)
          exact hr48 _ _ _ _ _ h hs
      · replace h := h.2 c
        exact hr48 _ _ _ _ _ h hs
theorem ls_X12_report_22 {Q : Int → Ii → Jj → Prop} {n : Nat} {l1 : Int} {l2 : Int} {I : Ii} {J : Jj} (h : Lb_X12_report_22 Q (L_X12_report_22 Q n) l1 l2 I J) : L_X12_report_22 Q (n + 1) l1 l2 I J := h
set_option maxHeartbeats 4000000 in
set_option maxRecDepth 100000 in
theorem fl_X12_report_22 {P Q : Int → Ii → Jj → Prop} {I0 : Ii} {J0 : Jj} (hq : ∀ (v : Int) (I' : Ii) (J' : Jj), P v I' J' → Same (W_X12_report) I0 J0 I' J' → Q v I' J') : ∀ (n : Nat) (l1 : Int) (l2 : Int) (I : Ii) (J : Jj), L_X12_report_22 P n l1 l2 I J → Same (W_X12_report) I0 J0 I J → L_X12_report_22 Q n l1 l2 I J := by
  intro n
  induction n with
  | zero => intro l1 l2 I J h _; exact h
  | succ n ih =>
    intro l1 l2 I J h hs
    have h : Lb_X12_report_22 P (L_X12_report_22 P n) l1 l2 I J := h
    show Lb_X12_report_22 Q (L_X12_report_22 Q n) l1 l2 I J
    have hr22 := ih
    clear ih
    unfold Lb_X12_report_22 at h ⊢
    obtain ⟨g, h⟩ := h
    refine ⟨g, ?_⟩
    obtain ⟨g, h⟩ := h
    refine ⟨g, ?_⟩
    refine ⟨fun c => ?_, fun c => ?_⟩
    · replace h := h.1 c
      exact hq _ _ _ h hs
    · replace h := h.2 c
      refine fr_X12_tell h (fun I2 J2 h hs2 => ?_)
      replace hs := hs.trans hs2 (WL_sub rfl)
      refine fr_X12_tell h (fun I2 J2 h hs2 => ?_)
      replace hs := hs.trans hs2 (WL_sub rfl)
      obtain ⟨n, h⟩ := h
      exact ⟨n, fl_X12_report_48 hq hr22 n _ _ _ _ _ h hs⟩
set_option maxHeartbeats 4000000 in
set_option maxRecDepth 100000 in
theorem fr_X12_report {P Q : Int → Ii → Jj → Prop} {I0 : Ii} {J0 : Jj} (h : wp_X12_report I0 J0 P) (hq : ∀ (v : Int) (I' : Ii) (J' : Jj), P v I' J' → Same (W_X12_report) I0 J0 I' J' → Q v I' J') : wp_X12_report I0 J0 Q := by
  have hs := Same.rf (W := (W_X12_report)) I0 J0
  unfold wp_X12_report at h ⊢
  intro I1 e1
  replace h := h I1 e1
  replace hs := hs.upI e1 rfl
  intro I1 e1
  replace h := h I1 e1
  replace hs := hs.upI e1 rfl
  intro I1 e1
  replace h := h I1 e1
  replace hs := hs.upI e1 rfl
  refine fr_X12_borderNow h (fun v h => ?_)
  obtain ⟨n, h⟩ := h
  exact ⟨n, fl_X12_report_22 hq n _ _ _ _ h hs⟩
def W_X12_reportByte : Nat → Nat → Prop := WL [(0, 0)]
theorem W_X12_reportByte_n {k : Nat} (h : wlk [(0, 0)] k = false := by rfl) : ∀ i, ¬ W_X12_reportByte k i := WL_n h
set_option maxHeartbeats 4000000 in
set_option maxRecDepth 100000 in
theorem fb_X12_reportByte_29 {l1 : Int} {P Q : Int → Ii → Jj → Prop} {I0 : Ii} {J0 : Jj} (hq : ∀ (v : Int) (I' : Ii) (J' : Jj), P v I' J' → Same (W_X12_reportByte) I0 J0 I' J' → Q v I' J') {t1 : Int} {I : Ii} {J : Jj} (h : B_X12_reportByte_29 l1 P t1 I J) (hs : Same (W_X12_reportByte) I0 J0 I J) : B_X12_reportByte_29 l1 Q t1 I J := by
  unfold B_X12_reportByte_29 at h ⊢
  refine fr_X12_goes h (fun v I2 J2 h hs2 => ?_)
  replace hs := hs.trans hs2 (WL_sub rfl)
  refine ⟨fun c => ?_, fun c => ?_⟩
  · replace h := h.1 c
    exact hq _ _ _ h hs
  · replace h := h.2 c
    obtain ⟨g, h⟩ := h
    refine ⟨g, ?_⟩
    exact hq _ _ _ h hs
set_option maxHeartbeats 4000000 in
set_option maxRecDepth 100000 in
theorem fr_X12_reportByte {l1 : Int} {P Q : Int → Ii → Jj → Prop} {I0 : Ii} {J0 : Jj} (h : wp_X12_reportByte l1 I0 J0 P) (hq : ∀ (v : Int) (I' : Ii) (J' : Jj), P v I' J' → Same (W_X12_reportByte) I0 J0 I' J' → Q v I' J') : wp_X12_reportByte l1 I0 J0 Q := by
  have hs := Same.rf (W := (W_X12_reportByte)) I0 J0
  unfold wp_X12_reportByte at h ⊢
  obtain ⟨g, h⟩ := h
  refine ⟨g, ?_⟩
  refine ⟨fun c => ?_, fun c => ?_⟩
  · replace h := h.1 c
    exact fb_X12_reportByte_29 hq h hs
  · replace h := h.2 c
    refine fr_X12_isIn h (fun v h => ?_)
    refine ⟨fun c => ?_, fun c => ?_⟩
    · replace h := h.1 c
      exact fb_X12_reportByte_29 hq h hs
    · replace h := h.2 c
      exact fb_X12_reportByte_29 hq h hs
def W_X12_feed : Nat → Nat → Prop := WL [(0, 0), (0, 2), (1, 1000)]
theorem W_X12_feed_n {k : Nat} (h : wlk [(0, 0), (0, 2), (1, 1000)] k = false := by rfl) : ∀ i, ¬ W_X12_feed k i := WL_n h
set_option maxHeartbeats 4000000 in
set_option maxRecDepth 100000 in
theorem fb_X12_feed_19 {l1 : Int} {l2 : Int} {l3 : Int} {l4 : Int} {l5 : Int} {P Q : Int → Ii → Jj → Prop} {I0 : Ii} {J0 : Jj} (hq : ∀ (v : Int) (I' : Ii) (J' : Jj), P v I' J' → Same (W_X12_feed) I0 J0 I' J' → Q v I' J') {t1 : Int} {I : Ii} {J : Jj} (h : B_X12_feed_19 l1 l2 l3 l4 l5 P t1 I J) (hs : Same (W_X12_feed) I0 J0 I J) : B_X12_feed_19 l1 l2 l3 l4 l5 Q t1 I J := by
  unfold B_X12_feed_19 at h ⊢
  refine fr_X12_goes h (fun v I2 J2 h hs2 => ?_)
  replace hs := hs.trans hs2 (WL_sub rfl)
  refine ⟨fun c => ?_, fun c => ?_⟩
  · replace h := h.1 c
    refine fr_X12_four h (fun I2 J2 h hs2 => ?_)
    replace hs := hs.trans hs2 (WL_sub rfl)
    refine fr_X12_four h (fun I2 J2 h hs2 => ?_)
    replace hs := hs.trans hs2 (WL_sub rfl)
    refine fr_X12_four h (fun I2 J2 h hs2 => ?_)
    replace hs := hs.trans hs2 (WL_sub rfl)
    refine fr_X12_four h (fun I2 J2 h hs2 => ?_)
    replace hs := hs.trans hs2 (WL_sub rfl)
    refine fr_X12_four h (fun I2 J2 h hs2 => ?_)
    replace hs := hs.trans hs2 (WL_sub rfl)
    exact hq _ _ _ h hs
  · replace h := h.2 c
    exact hq _ _ _ h hs
set_option maxHeartbeats 4000000 in
set_option maxRecDepth 100000 in
theorem fr_X12_feed {l1 : Int} {l2 : Int} {l3 : Int} {l4 : Int} {l5 : Int} {P Q : Int → Ii → Jj → Prop} {I0 : Ii} {J0 : Jj} (h : wp_X12_feed l1 l2 l3 l4 l5 I0 J0 P) (hq : ∀ (v : Int) (I' : Ii) (J' : Jj), P v I' J' → Same (W_X12_feed) I0 J0 I' J' → Q v I' J') : wp_X12_feed l1 l2 l3 l4 l5 I0 J0 Q := by
  have hs := Same.rf (W := (W_X12_feed)) I0 J0
  unfold wp_X12_feed at h ⊢
  obtain ⟨g, h⟩ := h
  refine ⟨g, ?_⟩
  refine ⟨fun c => ?_, fun c => ?_⟩
  · replace h := h.1 c
    exact fb_X12_feed_19 hq h hs
  · replace h := h.2 c
    exact fb_X12_feed_19 hq h hs
def W_X12_save : Nat → Nat → Prop := WL [(0, 0), (0, 24), (3, 1000), (8, 1000)]
theorem W_X12_save_n {k : Nat} (h : wlk [(0, 0), (0, 24), (3, 1000), (8, 1000)] k = false := by rfl) : ∀ i, ¬ W_X12_save k i := WL_n h
theorem ls_X12_save_34 {Q : Int → Ii → Jj → Prop} {n : Nat} {l1 : Int} {I : Ii} {J : Jj} (h : Lb_X12_save_34 Q (L_X12_save_34 Q n) l1 I J) : L_X12_save_34 Q (n + 1) l1 I J := h
set_option maxHeartbeats 4000000 in
set_option maxRecDepth 100000 in
theorem fl_X12_save_34 {P Q : Int → Ii → Jj → Prop} {I0 : Ii} {J0 : Jj} (hq : ∀ (v : Int) (I' : Ii) (J' : Jj), P v I' J' → Same (W_X12_save) I0 J0 I' J' → Q v I' J') : ∀ (n : Nat) (l1 : Int) (I : Ii) (J : Jj), L_X12_save_34 P n l1 I J → Same (W_X12_save) I0 J0 I J → L_X12_save_34 Q n l1 I J := by
  intro n
  induction n with
  | zero => intro l1 I J h _; exact h
  | succ n ih =>
    intro l1 I J h hs
    have h : Lb_X12_save_34 P (L_X12_save_34 P n) l1 I J := h
    show Lb_X12_save_34 Q (L_X12_save_34 Q n) l1 I J
    have hr34 := ih
    clear ih
    unfold Lb_X12_save_34 at h ⊢
    obtain ⟨g, h⟩ := h
    refine ⟨g, ?_⟩
    refine ⟨fun c => ?_, fun c => ?_⟩
    · replace h := h.1 c
      intro I1 e1
      replace h := h I1 e1
      replace hs := hs.upI e1 rfl
      refine fr_X12_cutNow h (fun v h => ?_)
      exact hq _ _ _ h hs
    · replace h := h.2 c
      obtain ⟨g, h⟩ := h
      refine ⟨g, ?_⟩
      obtain ⟨g, h⟩ := h
      refine ⟨g, ?_⟩
      intro I1 e1
      replace h := h I1 e1
      replace hs := hs.upJ e1 rfl
      exact hr34 _ _ _ h hs
theorem ls_X12_save_7 {Q : Int → Ii → Jj → Prop} {n : Nat} {l1 : Int} {I : Ii} {J : Jj} (h : Lb_X12_save_7 Q (L_X12_save_7 Q n) l1 I J) : L_X12_save_7 Q (n + 1) l1 I J := h
set_option maxHeartbeats 4000000 in
set_option maxRecDepth 100000 in
theorem fl_X12_save_7 {P Q : Int → Ii → Jj → Prop} {I0 : Ii} {J0 : Jj} (hq : ∀ (v : Int) (I' : Ii) (J' : Jj), P v I' J' → Same (W_X12_save) I0 J0 I' J' → Q v I' J') : ∀ (n : Nat) (l1 : Int) (I : Ii) (J : Jj), L_X12_save_7 P n l1 I J → Same (W_X12_save) I0 J0 I J → L_X12_save_7 Q n l1 I J := by
  intro n
  induction n with
  | zero => intro l1 I J h _; exact h
  | succ n ih =>
    intro l1 I J h hs
    have h : Lb_X12_save_7 P (L_X12_save_7 P n) l1 I J := h
    show Lb_X12_save_7 Q (L_X12_save_7 Q n) l1 I J
    have hr7 := ih
    clear ih
    unfold Lb_X12_save_7 at h ⊢
    obtain ⟨g, h⟩ := h
    refine ⟨g, ?_⟩
    refine ⟨fun c => ?_, fun c => ?_⟩
    · replace h := h.1 c
      obtain ⟨n, h⟩ := h
      exact ⟨n, fl_X12_save_34 hq n _ _ _ h hs⟩
    · replace h := h.2 c
      obtain ⟨g, h⟩ := h
      refine ⟨g, ?_⟩
      obtain ⟨g, h⟩ := h
      refine ⟨g, ?_⟩
      intro I1 e1
      replace h := h I1 e1
      replace hs := hs.upI e1 rfl
      exact hr7 _ _ _ h hs
set_option maxHeartbeats 4000000 in
set_option maxRecDepth 100000 in
theorem fr_X12_save {P Q : Int → Ii → Jj → Prop} {I0 : Ii} {J0 : Jj} (h : wp_X12_save I0 J0 P) (hq : ∀ (v : Int) (I' : Ii) (J' : Jj), P v I' J' → Same (W_X12_save) I0 J0 I' J' → Q v I' J') : wp_X12_save I0 J0 Q := by
  have hs := Same.rf (W := (W_X12_save)) I0 J0
  unfold wp_X12_save at h ⊢
  intro I1 e1
  replace h := h I1 e1
  replace hs := hs.upI e1 rfl
  obtain ⟨n, h⟩ := h
  exact ⟨n, fl_X12_save_7 hq n _ _ _ h hs⟩
def W_X12_restore : Nat → Nat → Prop := WL [(0, 0), (0, 23), (2, 1000), (7, 1000)]
theorem W_X12_restore_n {k : Nat} (h : wlk [(0, 0), (0, 23), (2, 1000), (7, 1000)] k = false := by rfl) : ∀ i, ¬ W_X12_restore k i := WL_n h
theorem ls_X12_restore_42 {Q : Int → Ii → Jj → Prop} {n : Nat} {l1 : Int} {I : Ii} {J : Jj} (h : Lb_X12_restore_42 Q (L_X12_restore_42 Q n) l1 I J) : L_X12_restore_42 Q (n + 1) l1 I J := h
set_option maxHeartbeats 4000000 in
set_option maxRecDepth 100000 in
theorem fl_X12_restore_42 {P Q : Int → Ii → Jj → Prop} {I0 : Ii} {J0 : Jj} (hq : ∀ (v : Int) (I' : Ii) (J' : Jj), P v I' J' → Same (W_X12_restore) I0 J0 I' J' → Q v I' J') : ∀ (n : Nat) (l1 : Int) (I : Ii) (J : Jj), L_X12_restore_42 P n l1 I J → Same (W_X12_restore) I0 J0 I J → L_X12_restore_42 Q n l1 I J := by
  intro n
  induction n with
  | zero => intro l1 I J h _; exact h
  | succ n ih =>
    intro l1 I J h hs
    have h : Lb_X12_restore_42 P (L_X12_restore_42 P n) l1 I J := h
    show Lb_X12_restore_42 Q (L_X12_restore_42 Q n) l1 I J
    have hr42 := ih
    clear ih
    unfold Lb_X12_restore_42 at h ⊢
    obtain ⟨g, h⟩ := h
    refine ⟨g, ?_⟩
    refine ⟨fun c => ?_, fun c => ?_⟩
    · replace h := h.1 c
      intro I1 e1
      replace h := h I1 e1
      replace hs := hs.upI e1 rfl
      refine fr_X12_cutNow h (fun v h => ?_)
      exact hq _ _ _ h hs
    · replace h := h.2 c
      obtain ⟨g, h⟩ := h
      refine ⟨g, ?_⟩
      obtain ⟨g, h⟩ := h
      refine ⟨g, ?_⟩
      intro I1 e1
      replace h := h I1 e1
      replace hs := hs.upJ e1 rfl
      exact hr42 _ _ _ h hs
theorem ls_X12_restore_15 {Q : Int → Ii → Jj → Prop} {n : Nat} {l1 : Int} {I : Ii} {J : Jj} (h : Lb_X12_restore_15 Q (L_X12_restore_15 Q n) l1 I J) : L_X12_restore_15 Q (n + 1) l1 I J := h
set_option maxHeartbeats 4000000 in
set_option maxRecDepth 100000 in
theorem fl_X12_restore_15 {P Q : Int → Ii → Jj → Prop} {I0 : Ii} {J0 : Jj} (hq : ∀ (v : Int) (I' : Ii) (J' : Jj), P v I' J' → Same (W_X12_restore) I0 J0 I' J' → Q v I' J') : ∀ (n : Nat) (l1 : Int) (I : Ii) (J : Jj), L_X12_restore_15 P n l1 I J → Same (W_X12_restore) I0 J0 I J → L_X12_restore_15 Q n l1 I J := by
  intro n
  induction n with
  | zero => intro l1 I J h _; exact h
  | succ n ih =>
    intro l1 I J h hs
    have h : Lb_X12_restore_15 P (L_X12_restore_15 P n) l1 I J := h
    show Lb_X12_restore_15 Q (L_X12_restore_15 Q n) l1 I J
    have hr15 := ih
    clear ih
    unfold Lb_X12_restore_15 at h ⊢
    obtain ⟨g, h⟩ := h
    refine ⟨g, ?_⟩
    refine ⟨fun c => ?_, fun c => ?_⟩
    · replace h := h.1 c
      obtain ⟨n, h⟩ := h
      exact ⟨n, fl_X12_restore_42 hq n _ _ _ h hs⟩
    · replace h := h.2 c
      obtain ⟨g, h⟩ := h
      refine ⟨g, ?_⟩
      obtain ⟨g, h⟩ := h
      refine ⟨g, ?_⟩
      intro I1 e1
      replace h := h I1 e1
      replace hs := hs.upI e1 rfl
      exact hr15 _ _ _ h hs
set_option maxHeartbeats 4000000 in
set_option maxRecDepth 100000 in
theorem fr_X12_restore {P Q : Int → Ii → Jj → Prop} {I0 : Ii} {J0 : Jj} (h : wp_X12_restore I0 J0 P) (hq : ∀ (v : Int) (I' : Ii) (J' : Jj), P v I' J' → Same (W_X12_restore) I0 J0 I' J' → Q v I' J') : wp_X12_restore I0 J0 Q := by
  have hs := Same.rf (W := (W_X12_restore)) I0 J0
  unfold wp_X12_restore at h ⊢
  refine fr_X12_goes h (fun v I2 J2 h hs2 => ?_)
  replace hs := hs.trans hs2 (WL_sub rfl)
  refine ⟨fun c => ?_, fun c => ?_⟩
  · replace h := h.1 c
    obtain ⟨n, h⟩ := h
    exact ⟨n, fl_X12_restore_15 hq n _ _ _ h hs⟩
  · replace h := h.2 c
    exact hq _ _ _ h hs
def W_X12_searches : Nat → Nat → Prop := WL [(0, 34), (0, 35), (11, 1000), (12, 1000), (13, 1000), (14, 1000), (15, 1000)]
theorem W_X12_searches_n {k : Nat} (h : wlk [(0, 34), (0, 35), (11, 1000), (12, 1000), (13, 1000), (14, 1000), (15, 1000)] k = false := by rfl) : ∀ i, ¬ W_X12_searches k i := WL_n h
theorem ls_X12_searches_37 {Q : Ii → Jj → Prop} {r9 : Int → Int → Int → Ii → Jj → Prop} {n : Nat} {l1 : Int} {l2 : Int} {l3 : Int} {l4 : Int} {I : Ii} {J : Jj} (h : Lb_X12_searches_37 Q r9 (L_X12_searches_37 Q r9 n) l1 l2 l3 l4 I J) : L_X12_searches_37 Q r9 (n + 1) l1 l2 l3 l4 I J := h
set_option maxHeartbeats 4000000 in
set_option maxRecDepth 100000 in
theorem fl_X12_searches_37 {P Q : Ii → Jj → Prop} {I0 : Ii} {J0 : Jj} (hq : ∀ (I' : Ii) (J' : Jj), P I' J' → Same (W_X12_searches) I0 J0 I' J' → Q I' J') {r9 q9 : Int → Int → Int → Ii → Jj → Prop} (hr9 : ∀ (l1 : Int) (l2 : Int) (l3 : Int) (I' : Ii) (J' : Jj), r9 l1 l2 l3 I' J' → Same (W_X12_searches) I0 J0 I' J' → q9 l1 l2 l3 I' J') : ∀ (n : Nat) (l1 : Int) (l2 : Int) (l3 : Int) (l4 : Int) (I : Ii) (J : Jj), L_X12_searches_37 P r9 n l1 l2 l3 l4 I J → Same (W_X12_searches) I0 J0 I J → L_X12_searches_37 Q q9 n l1 l2 l3 l4 I J := by
  intro n
  induction n with
  | zero => intro l1 l2 l3 l4 I J h _; exact h
  | succ n ih =>
    intro l1 l2 l3 l4 I J h hs
    have h : Lb_X12_searches_37 P r9 (L_X12_searches_37 P r9 n) l1 l2 l3 l4 I J := h
    show Lb_X12_searches_37 Q q9 (L_X12_searches_37 Q q9 n) l1 l2 l3 l4 I J
    have hr37 := ih
    clear ih
    unfold Lb_X12_searches_37 at h ⊢
    obtain ⟨g, h⟩ := h
    refine ⟨g, ?_⟩
    obtain ⟨g, h⟩ := h
    refine ⟨g, ?_⟩
    refine ⟨fun c => ?_, fun c => ?_⟩
    · replace h := h.1 c
      exact hr9 _ _ _ _ _ h hs
    · replace h := h.2 c
      obtain ⟨g, h⟩ := h
      refine ⟨g, ?_⟩
      refine ⟨fun c => ?_, fun c => ?_⟩
      · replace h := h.1 c
        refine fr_X12_joined h (fun v h => ?_)
        obtain ⟨g, h⟩ := h
        refine ⟨g, ?_⟩
        intro I1 e1
        replace h := h I1 e1
        replace hs := hs.upI e1 rfl
        exact hr37 _ _ _ _ _ _ h hs
      · replace h := h.2 c
        obtain ⟨g, h⟩ := h
        refine ⟨g, ?_⟩
        intro I1 e1
        replace h := h I1 e1
        replace hs := hs.upI e1 rfl
        exact hr37 _ _ _ _ _ _ h hs
theorem ls_X12_searches_96 {Q : Ii → Jj → Prop} {n : Nat} {l1 : Int} {l2 : Int} {l3 : Int} {I : Ii} {J : Jj} (h : Lb_X12_searches_96 Q (L_X12_searches_96 Q n) l1 l2 l3 I J) : L_X12_searches_96 Q (n + 1) l1 l2 l3 I J := h
set_option maxHeartbeats 4000000 in
set_option maxRecDepth 100000 in
theorem fl_X12_searches_96 {P Q : Ii → Jj → Prop} {I0 : Ii} {J0 : Jj} (hq : ∀ (I' : Ii) (J' : Jj), P I' J' → Same (W_X12_searches) I0 J0 I' J' → Q I' J') : ∀ (n : Nat) (l1 : Int) (l2 : Int) (l3 : Int) (I : Ii) (J : Jj), L_X12_searches_96 P n l1 l2 l3 I J → Same (W_X12_searches) I0 J0 I J → L_X12_searches_96 Q n l1 l2 l3 I J := by
  intro n
  induction n with
  | zero => intro l1 l2 l3 I J h _; exact h
  | succ n ih =>
    intro l1 l2 l3 I J h hs
    have h : Lb_X12_searches_96 P (L_X12_searches_96 P n) l1 l2 l3 I J := h
    show Lb_X12_searches_96 Q (L_X12_searches_96 Q n) l1 l2 l3 I J
    have hr96 := ih
    clear ih
    unfold Lb_X12_searches_96 at h ⊢
    obtain ⟨g, h⟩ := h
    refine ⟨g, ?_⟩
    obtain ⟨g, h⟩ := h
    refine ⟨g, ?_⟩
    refine ⟨fun c => ?_, fun c => ?_⟩
    · replace h := h.1 c
      exact hq _ _ h hs
    · replace h := h.2 c
      refine fr_X12_looksAt h (fun I2 J2 h hs2 => ?_)
      replace hs := hs.trans hs2 (WL_sub rfl)
      exact hr96 _ _ _ _ _ h hs
theorem ls_X12_searches_9 {Q : Ii → Jj → Prop} {n : Nat} {l1 : Int} {l2 : Int} {l3 : Int} {I : Ii} {J : Jj} (h : Lb_X12_searches_9 Q (L_X12_searches_9 Q n) l1 l2 l3 I J) : L_X12_searches_9 Q (n + 1) l1 l2 l3 I J := h
set_option maxHeartbeats 4000000 in
set_option maxRecDepth 100000 in
theorem fl_X12_searches_9 {P Q : Ii → Jj → Prop} {I0 : Ii} {J0 : Jj} (hq : ∀ (I' : Ii) (J' : Jj), P I' J' → Same (W_X12_searches) I0 J0 I' J' → Q I' J') : ∀ (n : Nat) (l1 : Int) (l2 : Int) (l3 : Int) (I : Ii) (J : Jj), L_X12_searches_9 P n l1 l2 l3 I J → Same (W_X12_searches) I0 J0 I J → L_X12_searches_9 Q n l1 l2 l3 I J := by
  intro n
  induction n with
  | zero => intro l1 l2 l3 I J h _; exact h
  | succ n ih =>
    intro l1 l2 l3 I J h hs
    have h : Lb_X12_searches_9 P (L_X12_searches_9 P n) l1 l2 l3 I J := h
    show Lb_X12_searches_9 Q (L_X12_searches_9 Q n) l1 l2 l3 I J
    have hr9 := ih
    clear ih
    unfold Lb_X12_searches_9 at h ⊢
    obtain ⟨g, h⟩ := h
    refine ⟨g, ?_⟩
    obtain ⟨g, h⟩ := h
    refine ⟨g, ?_⟩
    refine ⟨fun c => ?_, fun c => ?_⟩
    · replace h := h.1 c
      intro I1 e1
      replace h := h I1 e1
      replace hs := hs.upI e1 rfl
      intro I1 e1
      replace h := h I1 e1
      replace hs := hs.upI e1 rfl
      obtain ⟨n, h⟩ := h
      exact ⟨n, fl_X12_searches_96 hq n _ _ _ _ _ h hs⟩
    · replace h := h.2 c
      refine fr_X12_groupWeight h (fun v h => ?_)
      obtain ⟨g, h⟩ := h
      refine ⟨g, ?_⟩
      intro I1 e1
      replace h := h I1 e1
      replace hs := hs.upI e1 rfl
      obtain ⟨n, h⟩ := h
      exact ⟨n, fl_X12_searches_37 hq hr9 n _ _ _ _ _ _ h hs⟩
set_option maxHeartbeats 4000000 in
set_option maxRecDepth 100000 in
theorem fr_X12_searches {P Q : Ii → Jj → Prop} {I0 : Ii} {J0 : Jj} (h : wp_X12_searches I0 J0 P) (hq : ∀ (I' : Ii) (J' : Jj), P I' J' → Same (W_X12_searches) I0 J0 I' J' → Q I' J') : wp_X12_searches I0 J0 Q := by
  have hs := Same.rf (W := (W_X12_searches)) I0 J0
  unfold wp_X12_searches at h ⊢
  refine fr_X12_groups h (fun v h => ?_)
  obtain ⟨n, h⟩ := h
  exact ⟨n, fl_X12_searches_9 hq n _ _ _ _ _ h hs⟩
def W_X12_bestDebts : Nat → Nat → Prop := WL [(0, 0), (0, 34), (0, 35), (11, 1000), (12, 1000), (13, 1000), (14, 1000), (15, 1000)]
theorem W_X12_bestDebts_n {k : Nat} (h : wlk [(0, 0), (0, 34), (0, 35), (11, 1000), (12, 1000), (13, 1000), (14, 1000), (15, 1000)] k = false := by rfl) : ∀ i, ¬ W_X12_bestDebts k i := WL_n h
set_option maxHeartbeats 4000000 in
set_option maxRecDepth 100000 in
theorem fr_X12_bestDebts {P Q : Int → Ii → Jj → Prop} {I0 : Ii} {J0 : Jj} (h : wp_X12_bestDebts I0 J0 P) (hq : ∀ (v : Int) (I' : Ii) (J' : Jj), P v I' J' → Same (W_X12_bestDebts) I0 J0 I' J' → Q v I' J') : wp_X12_bestDebts I0 J0 Q := by
  have hs := Same.rf (W := (W_X12_bestDebts)) I0 J0
  unfold wp_X12_bestDebts at h ⊢
  intro I1 e1
  replace h := h I1 e1
  replace hs := hs.upI e1 rfl
  refine fr_X12_groups h (fun v h => ?_)
  obtain ⟨g, h⟩ := h
  refine ⟨g, ?_⟩
  refine ⟨fun c => ?_, fun c => ?_⟩
  · replace h := h.1 c
    refine fr_X12_searches h (fun I2 J2 h hs2 => ?_)
    replace hs := hs.trans hs2 (WL_sub rfl)
    exact hq _ _ _ h hs
  · replace h := h.2 c
    exact hq _ _ _ h hs
def W_X12_bestCut : Nat → Nat → Prop := WL [(0, 0), (0, 34), (0, 35), (11, 1000), (12, 1000), (13, 1000), (14, 1000), (15, 1000)]
theorem W_X12_bestCut_n {k : Nat} (h : wlk [(0, 0), (0, 34), (0, 35), (11, 1000), (12, 1000), (13, 1000), (14, 1000), (15, 1000)] k = false := by rfl) : ∀ i, ¬ W_X12_bestCut k i := WL_n h
set_option maxHeartbeats 4000000 in
set_option maxRecDepth 100000 in
theorem fr_X12_bestCut {P Q : Int → Ii → Jj → Prop} {I0 : Ii} {J0 : Jj} (h : wp_X12_bestCut I0 J0 P) (hq : ∀ (v : Int) (I' : Ii) (J' : Jj), P v I' J' → Same (W_X12_bestCut) I0 J0 I' J' → Q v I' J') : wp_X12_bestCut I0 J0 Q := by
  have hs := Same.rf (W := (W_X12_bestCut)) I0 J0
  unfold wp_X12_bestCut at h ⊢
  intro I1 e1
  replace h := h I1 e1
  replace hs := hs.upI e1 rfl
  refine fr_X12_groups h (fun v h => ?_)
  obtain ⟨g, h⟩ := h
  refine ⟨g, ?_⟩
  refine ⟨fun c => ?_, fun c => ?_⟩
  · replace h := h.1 c
    refine fr_X12_searches h (fun I2 J2 h hs2 => ?_)
    replace hs := hs.trans hs2 (WL_sub rfl)
    exact hq _ _ _ h hs
  · replace h := h.2 c
    exact hq _ _ _ h hs
def W_X12_stepsToEnd : Nat → Nat → Prop := WL [(0, 0), (2, 1000), (6, 1000)]
theorem W_X12_stepsToEnd_n {k : Nat} (h : wlk [(0, 0), (2, 1000), (6, 1000)] k = false := by rfl) : ∀ i, ¬ W_X12_stepsToEnd k i := WL_n h
set_option maxHeartbeats 4000000 in
set_option maxRecDepth 100000 in
theorem fb_X12_stepsToEnd_73 {l1 : Int} {P Q : Int → Ii → Jj → Prop} {I0 : Ii} {J0 : Jj} (hq : ∀ (v : Int) (I' : Ii) (J' : Jj), P v I' J' → Same (W_X12_stepsToEnd) I0 J0 I' J' → Q v I' J') {l2 : Int} {l3 : Int} {I : Ii} {J : Jj} (h : B_X12_stepsToEnd_73 l1 P l2 l3 I J) (hs : Same (W_X12_stepsToEnd) I0 J0 I J) : B_X12_stepsToEnd_73 l1 Q l2 l3 I J := by
  unfold B_X12_stepsToEnd_73 at h ⊢
  refine fr_X12_thinksNoMore h (fun I2 J2 h hs2 => ?_)
  replace hs := hs.trans hs2 (WL_sub rfl)
  obtain ⟨g, h⟩ := h
  refine ⟨g, ?_⟩
  refine ⟨fun c => ?_, fun c => ?_⟩
  · replace h := h.1 c
    exact hq _ _ _ h hs
  · replace h := h.2 c
    exact hq _ _ _ h hs
theorem ls_X12_stepsToEnd_38 {l1 : Int} {Q : Int → Ii → Jj → Prop} {n : Nat} {l2 : Int} {l3 : Int} {I : Ii} {J : Jj} (h : Lb_X12_stepsToEnd_38 l1 Q (L_X12_stepsToEnd_38 l1 Q n) l2 l3 I J) : L_X12_stepsToEnd_38 l1 Q (n + 1) l2 l3 I J := h
set_option maxHeartbeats 4000000 in
set_option maxRecDepth 100000 in
theorem fl_X12_stepsToEnd_38 {l1 : Int} {P Q : Int → Ii → Jj → Prop} {I0 : Ii} {J0 : Jj} (hq : ∀ (v : Int) (I' : Ii) (J' : Jj), P v I' J' → Same (W_X12_stepsToEnd) I0 J0 I' J' → Q v I' J') : ∀ (n : Nat) (l2 : Int) (l3 : Int) (I : Ii) (J : Jj), L_X12_stepsToEnd_38 l1 P n l2 l3 I J → Same (W_X12_stepsToEnd) I0 J0 I J → L_X12_stepsToEnd_38 l1 Q n l2 l3 I J := by
  intro n
  induction n with
  | zero => intro l2 l3 I J h _; exact h
  | succ n ih =>
    intro l2 l3 I J h hs
    have h : Lb_X12_stepsToEnd_38 l1 P (L_X12_stepsToEnd_38 l1 P n) l2 l3 I J := h
    show Lb_X12_stepsToEnd_38 l1 Q (L_X12_stepsToEnd_38 l1 Q n) l2 l3 I J
    have hr38 := ih
    clear ih
    unfold Lb_X12_stepsToEnd_38 at h ⊢
    obtain ⟨g, h⟩ := h
    refine ⟨g, ?_⟩
    obtain ⟨g, h⟩ := h
    refine ⟨g, ?_⟩
    refine ⟨fun c => ?_, fun c => ?_⟩
    · replace h := h.1 c
      exact fb_X12_stepsToEnd_73 hq h hs
    · replace h := h.2 c
      obtain ⟨g, h⟩ := h
      refine ⟨g, ?_⟩
      refine ⟨fun c => ?_, fun c => ?_⟩
      · replace h := h.1 c
        exact fb_X12_stepsToEnd_73 hq h hs
      · replace h := h.2 c
        refine fr_X12_stepNow h (fun v I2 J2 h hs2 => ?_)
        replace hs := hs.trans hs2 (WL_sub rfl)
        refine fr_X12_nextNow h (fun v h => ?_)
        obtain ⟨g, h⟩ := h
        refine ⟨g, ?_⟩
        refine ⟨fun c => ?_, fun c => ?_⟩
        · replace h := h.1 c
          exact hr38 _ _ _ _ h hs
        · replace h := h.2 c
          exact hr38 _ _ _ _ h hs
set_option maxHeartbeats 4000000 in
set_option maxRecDepth 100000 in
theorem fr_X12_stepsToEnd {l1 : Int} {P Q : Int → Ii → Jj → Prop} {I0 : Ii} {J0 : Jj} (h : wp_X12_stepsToEnd l1 I0 J0 P) (hq : ∀ (v : Int) (I' : Ii) (J' : Jj), P v I' J' → Same (W_X12_stepsToEnd) I0 J0 I' J' → Q v I' J') : wp_X12_stepsToEnd l1 I0 J0 Q := by
  have hs := Same.rf (W := (W_X12_stepsToEnd)) I0 J0
  unfold wp_X12_stepsToEnd at h ⊢
  refine fr_X12_isIn h (fun v h => ?_)
  refine fr_X12_goes h (fun v I2 J2 h hs2 => ?_)
  replace hs := hs.trans hs2 (WL_sub rfl)
  refine ⟨fun c => ?_, fun c => ?_⟩
  · replace h := h.1 c
    refine fr_X12_thinks h (fun I2 J2 h hs2 => ?_)
    replace hs := hs.trans hs2 (WL_sub rfl)
    refine fr_X12_nextNow h (fun v h => ?_)
    obtain ⟨g, h⟩ := h
    refine ⟨g, ?_⟩
    refine ⟨fun c => ?_, fun c => ?_⟩
    · replace h := h.1 c
      obtain ⟨n, h⟩ := h
      exact ⟨n, fl_X12_stepsToEnd_38 hq n _ _ _ _ h hs⟩
    · replace h := h.2 c
      obtain ⟨n, h⟩ := h
      exact ⟨n, fl_X12_stepsToEnd_38 hq n _ _ _ _ h hs⟩
  · replace h := h.2 c
    exact hq _ _ _ h hs
def W_X12_cutBehind : Nat → Nat → Prop := WL [(0, 0), (2, 1000), (6, 1000)]
theorem W_X12_cutBehind_n {k : Nat} (h : wlk [(0, 0), (2, 1000), (6, 1000)] k = false := by rfl) : ∀ i, ¬ W_X12_cutBehind k i := WL_n h
set_option maxHeartbeats 4000000 in
set_option maxRecDepth 100000 in
theorem fr_X12_cutBehind {l1 : Int} {P Q : Int → Ii → Jj → Prop} {I0 : Ii} {J0 : Jj} (h : wp_X12_cutBehind l1 I0 J0 P) (hq : ∀ (v : Int) (I' : Ii) (J' : Jj), P v I' J' → Same (W_X12_cutBehind) I0 J0 I' J' → Q v I' J') : wp_X12_cutBehind l1 I0 J0 Q := by
  have hs := Same.rf (W := (W_X12_cutBehind)) I0 J0
  unfold wp_X12_cutBehind at h ⊢
  refine fr_X12_isIn h (fun v h => ?_)
  refine fr_X12_goes h (fun v I2 J2 h hs2 => ?_)
  replace hs := hs.trans hs2 (WL_sub rfl)
  refine ⟨fun c => ?_, fun c => ?_⟩
  · replace h := h.1 c
    refine fr_X12_thinks h (fun I2 J2 h hs2 => ?_)
    replace hs := hs.trans hs2 (WL_sub rfl)
    refine fr_X12_stepsNow h (fun v I2 J2 h hs2 => ?_)
    replace hs := hs.trans hs2 (WL_sub rfl)
    refine fr_X12_cutNow h (fun v h => ?_)
    refine fr_X12_thinksNoMore h (fun I2 J2 h hs2 => ?_)
    replace hs := hs.trans hs2 (WL_sub rfl)
    exact hq _ _ _ h hs
  · replace h := h.2 c
    exact hq _ _ _ h hs
def W_X12_placesBest : Nat → Nat → Prop := WL [(0, 34), (0, 35), (11, 1000), (12, 1000), (13, 1000), (14, 1000), (15, 1000), (2, 1000)]
theorem W_X12_placesBest_n {k : Nat} (h : wlk [(0, 34), (0, 35), (11, 1000), (12, 1000), (13, 1000), (14, 1000), (15, 1000), (2, 1000)] k = false := by rfl) : ∀ i, ¬ W_X12_placesBest k i := WL_n h
theorem ls_X12_placesBest_8 {Q : Int → Ii → Jj → Prop} {n : Nat} {l1 : Int} {l2 : Int} {I : Ii} {J : Jj} (h : Lb_X12_placesBest_8 Q (L_X12_placesBest_8 Q n) l1 l2 I J) : L_X12_placesBest_8 Q (n + 1) l1 l2 I J := h
set_option maxHeartbeats 4000000 in
set_option maxRecDepth 100000 in
theorem fl_X12_placesBest_8 {P Q : Int → Ii → Jj → Prop} {I0 : Ii} {J0 : Jj} (hq : ∀ (v : Int) (I' : Ii) (J' : Jj), P v I' J' → Same (W_X12_placesBest) I0 J0 I' J' → Q v I' J') : ∀ (n : Nat) (l1 : Int) (l2 : Int) (I : Ii) (J : Jj), L_X12_placesBest_8 P n l1 l2 I J → Same (W_X12_placesBest) I0 J0 I J → L_X12_placesBest_8 Q n l1 l2 I J := by
  intro n
  induction n with
  | zero => intro l1 l2 I J h _; exact h
  | succ n ih =>
    intro l1 l2 I J h hs
    have h : Lb_X12_placesBest_8 P (L_X12_placesBest_8 P n) l1 l2 I J := h
    show Lb_X12_placesBest_8 Q (L_X12_placesBest_8 Q n) l1 l2 I J
    have hr8 := ih
    clear ih
    unfold Lb_X12_placesBest_8 at h ⊢
    refine fr_X12_groups h (fun v h => ?_)
    obtain ⟨g, h⟩ := h
    refine ⟨g, ?_⟩
    obtain ⟨g, h⟩ := h
    refine ⟨g, ?_⟩
    refine ⟨fun c => ?_, fun c => ?_⟩
    · replace h := h.1 c
      exact hq _ _ _ h hs
    · replace h := h.2 c
      obtain ⟨g, h⟩ := h
      refine ⟨g, ?_⟩
      refine fr_X12_comes h (fun v I2 J2 h hs2 => ?_)
      replace hs := hs.trans hs2 (WL_sub rfl)
      refine fr_X12_truth h (fun v h => ?_)
      exact hr8 _ _ _ _ h hs
set_option maxHeartbeats 4000000 in
set_option maxRecDepth 100000 in
theorem fr_X12_placesBest {P Q : Int → Ii → Jj → Prop} {I0 : Ii} {J0 : Jj} (h : wp_X12_placesBest I0 J0 P) (hq : ∀ (v : Int) (I' : Ii) (J' : Jj), P v I' J' → Same (W_X12_placesBest) I0 J0 I' J' → Q v I' J') : wp_X12_placesBest I0 J0 Q := by
  have hs := Same.rf (W := (W_X12_placesBest)) I0 J0
  unfold wp_X12_placesBest at h ⊢
  refine fr_X12_searches h (fun I2 J2 h hs2 => ?_)
  replace hs := hs.trans hs2 (WL_sub rfl)
  obtain ⟨n, h⟩ := h
  exact ⟨n, fl_X12_placesBest_8 hq n _ _ _ _ h hs⟩
def W_X12_placeBest : Nat → Nat → Prop := WL [(0, 0), (0, 23), (0, 34), (0, 35), (11, 1000), (12, 1000), (13, 1000), (14, 1000), (15, 1000), (2, 1000), (4, 1000), (5, 1000)]
theorem W_X12_placeBest_n {k : Nat} (h : wlk [(0, 0), (0, 23), (0, 34), (0, 35), (11, 1000), (12, 1000), (13, 1000), (14, 1000), (15, 1000), (2, 1000), (4, 1000), (5, 1000)] k = false := by rfl) : ∀ i, ¬ W_X12_placeBest k i := WL_n h
set_option maxHeartbeats 4000000 in
set_option maxRecDepth 100000 in
theorem fb_X12_placeBest_15 {P Q : Int → Ii → Jj → Prop} {I0 : Ii} {J0 : Jj} (hq : ∀ (v : Int) (I' : Ii) (J' : Jj), P v I' J' → Same (W_X12_placeBest) I0 J0 I' J' → Q v I' J') {t1 : Int} {I : Ii} {J : Jj} (h : B_X12_placeBest_15 P t1 I J) (hs : Same (W_X12_placeBest) I0 J0 I J) : B_X12_placeBest_15 Q t1 I J := by
  unfold B_X12_placeBest_15 at h ⊢
  refine fr_X12_goes h (fun v I2 J2 h hs2 => ?_)
  replace hs := hs.trans hs2 (WL_sub rfl)
  refine ⟨fun c => ?_, fun c => ?_⟩
  · replace h := h.1 c
    refine fr_X12_laysAside h (fun I2 J2 h hs2 => ?_)
    replace hs := hs.trans hs2 (WL_sub rfl)
    refine fr_X12_placesBest h (fun v I2 J2 h hs2 => ?_)
    replace hs := hs.trans hs2 (WL_sub rfl)
    refine fr_X12_kept h (fun v I2 J2 h hs2 => ?_)
    replace hs := hs.trans hs2 (WL_sub rfl)
    exact hq _ _ _ h hs
  · replace h := h.2 c
    exact hq _ _ _ h hs
set_option maxHeartbeats 4000000 in
set_option maxRecDepth 100000 in
theorem fr_X12_placeBest {P Q : Int → Ii → Jj → Prop} {I0 : Ii} {J0 : Jj} (h : wp_X12_placeBest I0 J0 P) (hq : ∀ (v : Int) (I' : Ii) (J' : Jj), P v I' J' → Same (W_X12_placeBest) I0 J0 I' J' → Q v I' J') : wp_X12_placeBest I0 J0 Q := by
  have hs := Same.rf (W := (W_X12_placeBest)) I0 J0
  unfold wp_X12_placeBest at h ⊢
  refine fr_X12_groups h (fun v h => ?_)
  obtain ⟨g, h⟩ := h
  refine ⟨g, ?_⟩
  refine ⟨fun c => ?_, fun c => ?_⟩
  · replace h := h.1 c
    exact fb_X12_placeBest_15 hq h hs
  · replace h := h.2 c
    exact fb_X12_placeBest_15 hq h hs
def W_X12_does : Nat → Nat → Prop := WL [(0, 26), (0, 27), (0, 34), (0, 35), (0, 44), (10, 1000), (11, 1000), (12, 1000), (13, 1000), (14, 1000), (15, 1000), (2, 1000)]
theorem W_X12_does_n {k : Nat} (h : wlk [(0, 26), (0, 27), (0, 34), (0, 35), (0, 44), (10, 1000), (11, 1000), (12, 1000), (13, 1000), (14, 1000), (15, 1000), (2, 1000)] k = false := by rfl) : ∀ i, ¬ W_X12_does k i := WL_n h
set_option maxHeartbeats 4000000 in
set_option maxRecDepth 100000 in
theorem fb_X12_does_108 {l1 : Int} {l2 : Int} {l3 : Int} {P Q : Int → Ii → Jj → Prop} {I0 : Ii} {J0 : Jj} (hq : ∀ (v : Int) (I' : Ii) (J' : Jj), P v I' J' → Same (W_X12_does) I0 J0 I' J' → Q v I' J') {I : Ii} {J : Jj} (h : B_X12_does_108 l1 l2 l3 P  I J) (hs : Same (W_X12_does) I0 J0 I J) : B_X12_does_108 l1 l2 l3 Q  I J := by
  unfold B_X12_does_108 at h ⊢
  obtain ⟨g, h⟩ := h
  refine ⟨g, ?_⟩
  refine ⟨fun c => ?_, fun c => ?_⟩
  · replace h := h.1 c
    exact hq _ _ _ h hs
  · replace h := h.2 c
    refine fr_X12_setsCredit h (fun v I2 J2 h hs2 => ?_)
    replace hs := hs.trans hs2 (WL_sub rfl)
    intro I1 e1
    replace h := h I1 e1
    replace hs := hs.upI e1 rfl
    exact hq _ _ _ h hs
set_option maxHeartbeats 4000000 in
set_option maxRecDepth 100000 in
theorem fb_X12_does_92 {l1 : Int} {l2 : Int} {l3 : Int} {P Q : Int → Ii → Jj → Prop} {I0 : Ii} {J0 : Jj} (hq : ∀ (v : Int) (I' : Ii) (J' : Jj), P v I' J' → Same (W_X12_does) I0 J0 I' J' → Q v I' J') {I : Ii} {J : Jj} (h : B_X12_does_92 l1 l2 l3 P  I J) (hs : Same (W_X12_does) I0 J0 I J) : B_X12_does_92 l1 l2 l3 Q  I J := by
  unfold B_X12_does_92 at h ⊢
  obtain ⟨g, h⟩ := h
  refine ⟨g, ?_⟩
  refine ⟨fun c => ?_, fun c => ?_⟩
  · replace h := h.1 c
    exact fb_X12_does_108 hq h hs
  · replace h := h.2 c
    refine fr_X12_placesApart h (fun v I2 J2 h hs2 => ?_)
    replace hs := hs.trans hs2 (WL_sub rfl)
    intro I1 e1
    replace h := h I1 e1
    replace hs := hs.upI e1 rfl
    exact fb_X12_does_108 hq h hs
set_option maxHeartbeats 4000000 in
set_option maxRecDepth 100000 in
theorem fb_X12_does_79 {l1 : Int} {l2 : Int} {l3 : Int} {P Q : Int → Ii → Jj → Prop} {I0 : Ii} {J0 : Jj} (hq : ∀ (v : Int) (I' : Ii) (J' : Jj), P v I' J' → Same (W_X12_does) I0 J0 I' J' → Q v I' J') {I : Ii} {J : Jj} (h : B_X12_does_79 l1 l2 l3 P  I J) (hs : Same (W_X12_does) I0 J0 I J) : B_X12_does_79 l1 l2 l3 Q  I J := by
  unfold B_X12_does_79 at h ⊢
  obtain ⟨g, h⟩ := h
  refine ⟨g, ?_⟩
  refine ⟨fun c => ?_, fun c => ?_⟩
  · replace h := h.1 c
    exact fb_X12_does_92 hq h hs
  · replace h := h.2 c
    refine fr_X12_placesBest h (fun v I2 J2 h hs2 => ?_)
    replace hs := hs.trans hs2 (WL_sub rfl)
    intro I1 e1
    replace h := h I1 e1
    replace hs := hs.upI e1 rfl
    exact fb_X12_does_92 hq h hs
set_option maxHeartbeats 4000000 in
set_option maxRecDepth 100000 in
theorem fb_X12_does_65 {l1 : Int} {l2 : Int} {l3 : Int} {P Q : Int → Ii → Jj → Prop} {I0 : Ii} {J0 : Jj} (hq : ∀ (v : Int) (I' : Ii) (J' : Jj), P v I' J' → Same (W_X12_does) I0 J0 I' J' → Q v I' J') {I : Ii} {J : Jj} (h : B_X12_does_65 l1 l2 l3 P  I J) (hs : Same (W_X12_does) I0 J0 I J) : B_X12_does_65 l1 l2 l3 Q  I J := by
  unfold B_X12_does_65 at h ⊢
  obtain ⟨g, h⟩ := h
  refine ⟨g, ?_⟩
  refine ⟨fun c => ?_, fun c => ?_⟩
  · replace h := h.1 c
    exact fb_X12_does_79 hq h hs
  · replace h := h.2 c
    refine fr_X12_stepsNow h (fun v I2 J2 h hs2 => ?_)
    replace hs := hs.trans hs2 (WL_sub rfl)
    intro I1 e1
    replace h := h I1 e1
    replace hs := hs.upI e1 rfl
    exact fb_X12_does_79 hq h hs
set_option maxHeartbeats 4000000 in
set_option maxRecDepth 100000 in
theorem fb_X12_does_52 {l1 : Int} {l2 : Int} {l3 : Int} {P Q : Int → Ii → Jj → Prop} {I0 : Ii} {J0 : Jj} (hq : ∀ (v : Int) (I' : Ii) (J' : Jj), P v I' J' → Same (W_X12_does) I0 J0 I' J' → Q v I' J') {I : Ii} {J : Jj} (h : B_X12_does_52 l1 l2 l3 P  I J) (hs : Same (W_X12_does) I0 J0 I J) : B_X12_does_52 l1 l2 l3 Q  I J := by
  unfold B_X12_does_52 at h ⊢
  obtain ⟨g, h⟩ := h
  refine ⟨g, ?_⟩
  refine ⟨fun c => ?_, fun c => ?_⟩
  · replace h := h.1 c
    exact fb_X12_does_65 hq h hs
  · replace h := h.2 c
    refine fr_X12_stepNow h (fun v I2 J2 h hs2 => ?_)
    replace hs := hs.trans hs2 (WL_sub rfl)
    intro I1 e1
    replace h := h I1 e1
    replace hs := hs.upI e1 rfl
    exact fb_X12_does_65 hq h hs
set_option maxHeartbeats 4000000 in
set_option maxRecDepth 100000 in
theorem fb_X12_does_37 {l1 : Int} {l2 : Int} {l3 : Int} {P Q : Int → Ii → Jj → Prop} {I0 : Ii} {J0 : Jj} (hq : ∀ (v : Int) (I' : Ii) (J' : Jj), P v I' J' → Same (W_X12_does) I0 J0 I' J' → Q v I' J') {I : Ii} {J : Jj} (h : B_X12_does_37 l1 l2 l3 P  I J) (hs : Same (W_X12_does) I0 J0 I J) : B_X12_does_37 l1 l2 l3 Q  I J := by
  unfold B_X12_does_37 at h ⊢
  obtain ⟨g, h⟩ := h
  refine ⟨g, ?_⟩
  refine ⟨fun c => ?_, fun c => ?_⟩
  · replace h := h.1 c
    exact fb_X12_does_52 hq h hs
  · replace h := h.2 c
    refine fr_X12_moves h (fun v I2 J2 h hs2 => ?_)
    replace hs := hs.trans hs2 (WL_sub rfl)
    intro I1 e1
    replace h := h I1 e1
    replace hs := hs.upI e1 rfl
    exact fb_X12_does_52 hq h hs
set_option maxHeartbeats 4000000 in
set_option maxRecDepth 100000 in
theorem fb_X12_does_24 {l1 : Int} {l2 : Int} {l3 : Int} {P Q : Int → Ii → Jj → Prop} {I0 : Ii} {J0 : Jj} (hq : ∀ (v : Int) (I' : Ii) (J' : Jj), P v I' J' → Same (W_X12_does) I0 J0 I' J' → Q v I' J') {I : Ii} {J : Jj} (h : B_X12_does_24 l1 l2 l3 P  I J) (hs : Same (W_X12_does) I0 J0 I J) : B_X12_does_24 l1 l2 l3 Q  I J := by
  unfold B_X12_does_24 at h ⊢
  obtain ⟨g, h⟩ := h
  refine ⟨g, ?_⟩
  refine ⟨fun c => ?_, fun c => ?_⟩
  · replace h := h.1 c
    exact fb_X12_does_37 hq h hs
  · replace h := h.2 c
    refine fr_X12_grows h (fun v I2 J2 h hs2 => ?_)
    replace hs := hs.trans hs2 (WL_sub rfl)
    intro I1 e1
    replace h := h I1 e1
    replace hs := hs.upI e1 rfl
    exact fb_X12_does_37 hq h hs
set_option maxHeartbeats 4000000 in
set_option maxRecDepth 100000 in
theorem fr_X12_does {l1 : Int} {l2 : Int} {l3 : Int} {P Q : Int → Ii → Jj → Prop} {I0 : Ii} {J0 : Jj} (h : wp_X12_does l1 l2 l3 I0 J0 P) (hq : ∀ (v : Int) (I' : Ii) (J' : Jj), P v I' J' → Same (W_X12_does) I0 J0 I' J' → Q v I' J') : wp_X12_does l1 l2 l3 I0 J0 Q := by
  have hs := Same.rf (W := (W_X12_does)) I0 J0
  unfold wp_X12_does at h ⊢
  refine fr_X12_may h (fun v I2 J2 h hs2 => ?_)
  replace hs := hs.trans hs2 (WL_sub rfl)
  refine ⟨fun c => ?_, fun c => ?_⟩
  · replace h := h.1 c
    obtain ⟨g, h⟩ := h
    refine ⟨g, ?_⟩
    refine ⟨fun c => ?_, fun c => ?_⟩
    · replace h := h.1 c
      exact fb_X12_does_24 hq h hs
    · replace h := h.2 c
      refine fr_X12_shrinks h (fun v I2 J2 h hs2 => ?_)
      replace hs := hs.trans hs2 (WL_sub rfl)
      intro I1 e1
      replace h := h I1 e1
      replace hs := hs.upI e1 rfl
      exact fb_X12_does_24 hq h hs
  · replace h := h.2 c
    exact hq _ _ _ h hs
def W_X12_runs : Nat → Nat → Prop := WL [(0, 26), (0, 27), (0, 34), (0, 35), (0, 44), (10, 1000), (11, 1000), (12, 1000), (13, 1000), (14, 1000), (15, 1000), (19, 1000), (2, 1000), (20, 1000)]
theorem W_X12_runs_n {k : Nat} (h : wlk [(0, 26), (0, 27), (0, 34), (0, 35), (0, 44), (10, 1000), (11, 1000), (12, 1000), (13, 1000), (14, 1000), (15, 1000), (19, 1000), (2, 1000), (20, 1000)] k = false := by rfl) : ∀ i, ¬ W_X12_runs k i := WL_n h
set_option maxHeartbeats 4000000 in
set_option maxRecDepth 100000 in
theorem fb_X12_runs_141 {P Q : Int → Ii → Jj → Prop} {I0 : Ii} {J0 : Jj} (hq : ∀ (v : Int) (I' : Ii) (J' : Jj), P v I' J' → Same (W_X12_runs) I0 J0 I' J' → Q v I' J') {r9 q9 : Int → Int → Int → Int → Ii → Jj → Prop} (hr9 : ∀ (l1 : Int) (l2 : Int) (l3 : Int) (l4 : Int) (I' : Ii) (J' : Jj), r9 l1 l2 l3 l4 I' J' → Same (W_X12_runs) I0 J0 I' J' → q9 l1 l2 l3 l4 I' J') {l1 : Int} {l3 : Int} {l4 : Int} {t0 : Int} {t1 : Int} {I : Ii} {J : Jj} (h : B_X12_runs_141 P r9 l1 l3 l4 t0 t1 I J) (hs : Same (W_X12_runs) I0 J0 I J) : B_X12_runs_141 Q q9 l1 l3 l4 t0 t1 I J := by
  unfold B_X12_runs_141 at h ⊢
  refine fr_X12_truth h (fun v h => ?_)
  exact hr9 _ _ _ _ _ _ h hs
set_option maxHeartbeats 4000000 in
set_option maxRecDepth 100000 in
theorem fb_X12_runs_129 {P Q : Int → Ii → Jj → Prop} {I0 : Ii} {J0 : Jj} (hq : ∀ (v : Int) (I' : Ii) (J' : Jj), P v I' J' → Same (W_X12_runs) I0 J0 I' J' → Q v I' J') {r9 q9 : Int → Int → Int → Int → Ii → Jj → Prop} (hr9 : ∀ (l1 : Int) (l2 : Int) (l3 : Int) (l4 : Int) (I' : Ii) (J' : Jj), r9 l1 l2 l3 l4 I' J' → Same (W_X12_runs) I0 J0 I' J' → q9 l1 l2 l3 l4 I' J') {l1 : Int} {l2 : Int} {l4 : Int} {l5 : Int} {t0 : Int} {I : Ii} {J : Jj} (h : B_X12_runs_129 P r9 l1 l2 l4 l5 t0 I J) (hs : Same (W_X12_runs) I0 J0 I J) : B_X12_runs_129 Q q9 l1 l2 l4 l5 t0 I J := by
  unfold B_X12_runs_129 at h ⊢
  obtain ⟨g, h⟩ := h
  refine ⟨g, ?_⟩
  refine ⟨fun c => ?_, fun c => ?_⟩
  · replace h := h.1 c
    exact fb_X12_runs_141 hq hr9 h hs
  · replace h := h.2 c
    exact fb_X12_runs_141 hq hr9 h hs
set_option maxHeartbeats 4000000 in
set_option maxRecDepth 100000 in
theorem fb_X12_runs_106 {P Q : Int → Ii → Jj → Prop} {I0 : Ii} {J0 : Jj} (hq : ∀ (v : Int) (I' : Ii) (J' : Jj), P v I' J' → Same (W_X12_runs) I0 J0 I' J' → Q v I' J') {r9 q9 : Int → Int → Int → Int → Ii → Jj → Prop} (hr9 : ∀ (l1 : Int) (l2 : Int) (l3 : Int) (l4 : Int) (I' : Ii) (J' : Jj), r9 l1 l2 l3 l4 I' J' → Same (W_X12_runs) I0 J0 I' J' → q9 l1 l2 l3 l4 I' J') {l1 : Int} {l2 : Int} {l3 : Int} {l4 : Int} {t0 : Int} {I : Ii} {J : Jj} (h : B_X12_runs_106 P r9 l1 l2 l3 l4 t0 I J) (hs : Same (W_X12_runs) I0 J0 I J) : B_X12_runs_106 Q q9 l1 l2 l3 l4 t0 I J := by
  unfold B_X12_runs_106 at h ⊢
  obtain ⟨g, h⟩ := h
  refine ⟨g, ?_⟩
  refine ⟨fun c => ?_, fun c => ?_⟩
  · replace h := h.1 c
    exact fb_X12_runs_129 hq hr9 h hs
  · replace h := h.2 c
    obtain ⟨g, h⟩ := h
    refine ⟨g, ?_⟩
    exact fb_X12_runs_129 hq hr9 h hs
theorem ls_X12_runs_9 {Q : Int → Ii → Jj → Prop} {n : Nat} {l1 : Int} {l2 : Int} {l3 : Int} {l4 : Int} {I : Ii} {J : Jj} (h : Lb_X12_runs_9 Q (L_X12_runs_9 Q n) l1 l2 l3 l4 I J) : L_X12_runs_9 Q (n + 1) l1 l2 l3 l4 I J := h
set_option maxHeartbeats 4000000 in
set_option maxRecDepth 100000 in
theorem fl_X12_runs_9 {P Q : Int → Ii → Jj → Prop} {I0 : Ii} {J0 : Jj} (hq : ∀ (v : Int) (I' : Ii) (J' : Jj), P v I' J' → Same (W_X12_runs) I0 J0 I' J' → Q v I' J') : ∀ (n : Nat) (l1 : Int) (l2 : Int) (l3 : Int) (l4 : Int) (I : Ii) (J : Jj), L_X12_runs_9 P n l1 l2 l3 l4 I J → Same (W_X12_runs) I0 J0 I J → L_X12_runs_9 Q n l1 l2 l3 l4 I J := by
  intro n
  induction n with
  | zero => intro l1 l2 l3 l4 I J h _; exact h
  | succ n ih =>
    intro l1 l2 l3 l4 I J h hs
    have h : Lb_X12_runs_9 P (L_X12_runs_9 P n) l1 l2 l3 l4 I J := h
    show Lb_X12_runs_9 Q (L_X12_runs_9 Q n) l1 l2 l3 l4 I J
    have hr9 := ih
    clear ih
    unfold Lb_X12_runs_9 at h ⊢
    obtain ⟨g, h⟩ := h
    refine ⟨g, ?_⟩
    refine ⟨fun c => ?_, fun c => ?_⟩
    · replace h := h.1 c
      exact hq _ _ _ h hs
    · replace h := h.2 c
      obtain ⟨g, h⟩ := h
      refine ⟨g, ?_⟩
      obtain ⟨g, h⟩ := h
      refine ⟨g, ?_⟩
      refine ⟨fun c => ?_, fun c => ?_⟩
      · replace h := h.1 c
        exact hq _ _ _ h hs
      · replace h := h.2 c
        obtain ⟨g, h⟩ := h
        refine ⟨g, ?_⟩
        refine ⟨fun c => ?_, fun c => ?_⟩
        · replace h := h.1 c
          exact hq _ _ _ h hs
        · replace h := h.2 c
          obtain ⟨g, h⟩ := h
          refine ⟨g, ?_⟩
          obtain ⟨g, h⟩ := h
          refine ⟨g, ?_⟩
          refine ⟨fun c => ?_, fun c => ?_⟩
          · replace h := h.1 c
            obtain ⟨g, h⟩ := h
            refine ⟨g, ?_⟩
            refine ⟨fun c => ?_, fun c => ?_⟩
            · replace h := h.1 c
              obtain ⟨g, h⟩ := h
              refine ⟨g, ?_⟩
              obtain ⟨g, h⟩ := h
              refine ⟨g, ?_⟩
              obtain ⟨g, h⟩ := h
              refine ⟨g, ?_⟩
              refine fr_X12_does h (fun v I2 J2 h hs2 => ?_)
              replace hs := hs.trans hs2 (WL_sub rfl)
              refine fr_X12_truth h (fun v h => ?_)
              exact hr9 _ _ _ _ _ _ h hs
            · replace h := h.2 c
              obtain ⟨g, h⟩ := h
              refine ⟨g, ?_⟩
              obtain ⟨g, h⟩ := h
              refine ⟨g, ?_⟩
              intro I1 e1
              replace h := h I1 e1
              replace hs := hs.upI e1 rfl
              obtain ⟨g, h⟩ := h
              refine ⟨g, ?_⟩
              obtain ⟨g, h⟩ := h
              refine ⟨g, ?_⟩
              refine ⟨fun c => ?_, fun c => ?_⟩
              · replace h := h.1 c
                exact fb_X12_runs_106 hq hr9 h hs
              · replace h := h.2 c
                exact fb_X12_runs_106 hq hr9 h hs
          · replace h := h.2 c
            obtain ⟨g, h⟩ := h
            refine ⟨g, ?_⟩
            intro I1 e1
            replace h := h I1 e1
            replace hs := hs.upI e1 rfl
            obtain ⟨g, h⟩ := h
            refine ⟨g, ?_⟩
            obtain ⟨g, h⟩ := h
            refine ⟨g, ?_⟩
            intro I1 e1
            replace h := h I1 e1
            replace hs := hs.upI e1 rfl
            exact hr9 _ _ _ _ _ _ h hs
set_option maxHeartbeats 4000000 in
set_option maxRecDepth 100000 in
theorem fr_X12_runs {P Q : Int → Ii → Jj → Prop} {I0 : Ii} {J0 : Jj} (h : wp_X12_runs I0 J0 P) (hq : ∀ (v : Int) (I' : Ii) (J' : Jj), P v I' J' → Same (W_X12_runs) I0 J0 I' J' → Q v I' J') : wp_X12_runs I0 J0 Q := by
  have hs := Same.rf (W := (W_X12_runs)) I0 J0
  unfold wp_X12_runs at h ⊢
  obtain ⟨n, h⟩ := h
  exact ⟨n, fl_X12_runs_9 hq n _ _ _ _ _ _ h hs⟩
def W_X12_runScript : Nat → Nat → Prop := WL [(0, 0), (0, 2), (0, 3), (0, 4), (0, 5), (0, 6), (0, 7), (0, 8), (0, 9), (0, 10), (0, 11), (0, 12), (0, 13), (0, 14), (0, 23), (0, 26), (0, 27), (0, 34), (0, 35), (0, 41), (0, 42), (0, 43), (0, 44), (10, 1000), (11, 1000), (12, 1000), (13, 1000), (14, 1000), (15, 1000), (16, 1000), (17, 1000), (18, 1000), (19, 1000), (2, 1000), (20, 1000), (4, 1000), (5, 1000)]
theorem W_X12_runScript_n {k : Nat} (h : wlk [(0, 0), (0, 2), (0, 3), (0, 4), (0, 5), (0, 6), (0, 7), (0, 8), (0, 9), (0, 10), (0, 11), (0, 12), (0, 13), (0, 14), (0, 23), (0, 26), (0, 27), (0, 34), (0, 35), (0, 41), (0, 42), (0, 43), (0, 44), (10, 1000), (11, 1000), (12, 1000), (13, 1000), (14, 1000), (15, 1000), (16, 1000), (17, 1000), (18, 1000), (19, 1000), (2, 1000), (20, 1000), (4, 1000), (5, 1000)] k = false := by rfl) : ∀ i, ¬ W_X12_runScript k i := WL_n h
set_option maxHeartbeats 4000000 in
set_option maxRecDepth 100000 in
theorem fb_X12_runScript_51 {P Q : Int → Ii → Jj → Prop} {I0 : Ii} {J0 : Jj} (hq : ∀ (v : Int) (I' : Ii) (J' : Jj), P v I' J' → Same (W_X12_runScript) I0 J0 I' J' → Q v I' J') {r14 q14 : Ii → Jj → Prop} (hr14 : ∀  (I' : Ii) (J' : Jj), r14  I' J' → Same (W_X12_runScript) I0 J0 I' J' → q14  I' J') {I : Ii} {J : Jj} (h : B_X12_runScript_51 P r14  I J) (hs : Same (W_X12_runScript) I0 J0 I J) : B_X12_runScript_51 Q q14  I J := by
  unfold B_X12_runScript_51 at h ⊢
  refine fr_X12_closes h (fun I2 J2 h hs2 => ?_)
  replace hs := hs.trans hs2 (WL_sub rfl)
  exact hr14 _ _ h hs
set_option maxHeartbeats 4000000 in
set_option maxRecDepth 100000 in
theorem fb_X12_runScript_77 {P Q : Int → Ii → Jj → Prop} {I0 : Ii} {J0 : Jj} (hq : ∀ (v : Int) (I' : Ii) (J' : Jj), P v I' J' → Same (W_X12_runScript) I0 J0 I' J' → Q v I' J') {I : Ii} {J : Jj} (h : B_X12_runScript_77 P  I J) (hs : Same (W_X12_runScript) I0 J0 I J) : B_X12_runScript_77 Q  I J := by
  unfold B_X12_runScript_77 at h ⊢
  refine fr_X12_endsText h (fun v I2 J2 h hs2 => ?_)
  replace hs := hs.trans hs2 (WL_sub rfl)
  refine ⟨fun c => ?_, fun c => ?_⟩
  · replace h := h.1 c
    refine fr_X12_laysAside h (fun I2 J2 h hs2 => ?_)
    replace hs := hs.trans hs2 (WL_sub rfl)
    refine fr_X12_runs h (fun v I2 J2 h hs2 => ?_)
    replace hs := hs.trans hs2 (WL_sub rfl)
    refine fr_X12_keeps h (fun I2 J2 h hs2 => ?_)
    replace hs := hs.trans hs2 (WL_sub rfl)
    exact hq _ _ _ h hs
  · replace h := h.2 c
    exact hq _ _ _ h hs
set_option maxHeartbeats 4000000 in
set_option maxRecDepth 100000 in
theorem fb_X12_runScript_58 {P Q : Int → Ii → Jj → Prop} {I0 : Ii} {J0 : Jj} (hq : ∀ (v : Int) (I' : Ii) (J' : Jj), P v I' J' → Same (W_X12_runScript) I0 J0 I' J' → Q v I' J') {I : Ii} {J : Jj} (h : B_X12_runScript_58 P  I J) (hs : Same (W_X12_runScript) I0 J0 I J) : B_X12_runScript_58 Q  I J := by
  unfold B_X12_runScript_58 at h ⊢
  refine fr_X12_isGood h (fun v h => ?_)
  refine ⟨fun c => ?_, fun c => ?_⟩
  · replace h := h.1 c
    exact fb_X12_runScript_77 hq h hs
  · replace h := h.2 c
    obtain ⟨g, h⟩ := h
    refine ⟨g, ?_⟩
    refine ⟨fun c => ?_, fun c => ?_⟩
    · replace h := h.1 c
      exact fb_X12_runScript_77 hq h hs
    · replace h := h.2 c
      refine fr_X12_wrong h (fun I2 J2 h hs2 => ?_)
      replace hs := hs.trans hs2 (WL_sub rfl)
      exact fb_X12_runScript_77 hq h hs
theorem ls_X12_runScript_14 {Q : Int → Ii → Jj → Prop} {n : Nat} {I : Ii} {J : Jj} (h : Lb_X12_runScript_14 Q (L_X12_runScript_14 Q n)  I J) : L_X12_runScript_14 Q (n + 1)  I J := h
set_option maxHeartbeats 4000000 in
set_option maxRecDepth 100000 in
theorem fl_X12_runScript_14 {P Q : Int → Ii → Jj → Prop} {I0 : Ii} {J0 : Jj} (hq : ∀ (v : Int) (I' : Ii) (J' : Jj), P v I' J' → Same (W_X12_runScript) I0 J0 I' J' → Q v I' J') : ∀ (n : Nat)  (I : Ii) (J : Jj), L_X12_runScript_14 P n  I J → Same (W_X12_runScript) I0 J0 I J → L_X12_runScript_14 Q n  I J := by
  intro n
  induction n with
  | zero => intro  I J h _; exact h
  | succ n ih =>
    intro  I J h hs
    have h : Lb_X12_runScript_14 P (L_X12_runScript_14 P n)  I J := h
    show Lb_X12_runScript_14 Q (L_X12_runScript_14 Q n)  I J
    have hr14 := ih
    clear ih
    unfold Lb_X12_runScript_14 at h ⊢
    refine fr_X12_isGood h (fun v h => ?_)
    refine ⟨fun c => ?_, fun c => ?_⟩
    · replace h := h.1 c
      exact fb_X12_runScript_58 hq h hs
    · replace h := h.2 c
      obtain ⟨g, h⟩ := h
      refine ⟨g, ?_⟩
      refine ⟨fun c => ?_, fun c => ?_⟩
      · replace h := h.1 c
        exact fb_X12_runScript_58 hq h hs
      · replace h := h.2 c
        refine fr_X12_command h (fun I2 J2 h hs2 => ?_)
        replace hs := hs.trans hs2 (WL_sub rfl)
        obtain ⟨g, h⟩ := h
        refine ⟨g, ?_⟩
        obtain ⟨g, h⟩ := h
        refine ⟨g, ?_⟩
        refine ⟨fun c => ?_, fun c => ?_⟩
        · replace h := h.1 c
          exact fb_X12_runScript_51 hq hr14 h hs
        · replace h := h.2 c
          refine fr_X12_mustSign h (fun I2 J2 h hs2 => ?_)
          replace hs := hs.trans hs2 (WL_sub rfl)
          exact fb_X12_runScript_51 hq hr14 h hs
set_option maxHeartbeats 4000000 in
set_option maxRecDepth 100000 in
theorem fr_X12_runScript {P Q : Int → Ii → Jj → Prop} {I0 : Ii} {J0 : Jj} (h : wp_X12_runScript I0 J0 P) (hq : ∀ (v : Int) (I' : Ii) (J' : Jj), P v I' J' → Same (W_X12_runScript) I0 J0 I' J' → Q v I' J') : wp_X12_runScript I0 J0 Q := by
  have hs := Same.rf (W := (W_X12_runScript)) I0 J0
  unfold wp_X12_runScript at h ⊢
  refine fr_X12_beginsText h (fun I2 J2 h hs2 => ?_)
  replace hs := hs.trans hs2 (WL_sub rfl)
  intro I1 e1
  replace h := h I1 e1
  replace hs := hs.upI e1 rfl
  intro I1 e1
  replace h := h I1 e1
  replace hs := hs.upI e1 rfl
  obtain ⟨n, h⟩ := h
  exact ⟨n, fl_X12_runScript_14 hq n _ _ h hs⟩
