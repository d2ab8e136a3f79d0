/-! ===== how the repeats of a script lie in one another ===== -/
/-- the open repeats ahead of place i -/
def stk (K : Nat → Int) : Nat → Nat × (Nat → Nat)
  | 0 => (0, fun _ => 0)
  | i + 1 => if K i = 8 then ((stk K i).1 + 1, fun j => if j = (stk K i).1 then i else (stk K i).2 j) else if K i = 9 then ((stk K i).1 - 1, (stk K i).2) else stk K i
theorem stk_8 {K : Nat → Int} {i : Nat} (h : K i = 8) : stk K (i + 1) = ((stk K i).1 + 1, fun j => if j = (stk K i).1 then i else (stk K i).2 j) := by
  show (if K i = 8 then _ else _) = _
  rw [if_pos h]
theorem stk_9 {K : Nat → Int} {i : Nat} (h : K i = 9) : stk K (i + 1) = ((stk K i).1 - 1, (stk K i).2) := by
  show (if K i = 8 then _ else _) = _
  rw [if_neg (by omega), if_pos h]
theorem stk_o {K : Nat → Int} {i : Nat} (h : K i ≠ 8) (h9 : K i ≠ 9) : stk K (i + 1) = stk K i := by
  show (if K i = 8 then _ else _) = _
  rw [if_neg h, if_neg h9]
theorem stk_cong {K K' : Nat → Int} : ∀ {i : Nat}, (∀ j, j < i → K j = K' j) → stk K i = stk K' i
  | 0, _ => rfl
  | i + 1, h => by
    unfold stk
    rw [h i (by omega), stk_cong (i := i) (fun j hj => h j (by omega))]
/-- one place of a script -/
def IT (σ K A C : Nat → Int) (i : Nat) : Prop := (K i = 8 ∧ (stk K i).1 < 2 ∧ 1 ≤ A i ∧ A i ≤ 20) ∨ (K i = 9 ∧ 0 < (stk K i).1 ∧ A i = (((stk K i).2 ((stk K i).1 - 1) : Nat) : Int)) ∨ OKC σ (K i) (A i) (C i)
/-- a script is well formed -/
def WFI (σ K A C : Nat → Int) (n d : Nat) (O : Nat → Nat) : Prop := (stk K n).1 = d ∧ (∀ j, j < d → (stk K n).2 j = O j) ∧ ∀ i, i < n → IT σ K A C i
theorem WFI_old {σ K A C : Nat → Int} {n d : Nat} {O : Nat → Nat} {k a c : Int} (h : WFI σ K A C n d O) : (stk (updr K n k) n = stk K n) ∧ ∀ i, i < n → IT σ (updr K n k) (updr A n a) (updr C n c) i := by
  have e : ∀ i, i ≤ n → stk (updr K n k) i = stk K i := fun i hi => stk_cong (fun j hj => updr_ne (by omega))
  refine ⟨e n (Nat.le_refl _), fun i hi => ?_⟩
  unfold IT
  rw [updr_ne (by omega), updr_ne (by omega), updr_ne (by omega), e i (by omega)]
  exact h.2.2 i hi
theorem WFI_cmd {σ K A C : Nat → Int} {n d : Nat} {O : Nat → Nat} {k a c : Int} (h : WFI σ K A C n d O) (hO : OKC σ k a c) : WFI σ (updr K n k) (updr A n a) (updr C n c) (n + 1) d O := by
  have old := WFI_old (k := k) (a := a) (c := c) h
  have kk := hO.1
  have e : stk (updr K n k) (n + 1) = stk K n := by rw [stk_o (by rw [updr_self]; omega) (by rw [updr_self]; omega), old.1]
  refine ⟨by rw [e]; exact h.1, fun j hj => by rw [e]; exact h.2.1 j hj, fun i hi => ?_⟩
  by_cases ci : i = n
  · subst ci
    refine Or.inr (Or.inr ?_)
    rw [updr_self, updr_self, updr_self]; exact hO
  · exact old.2 i (by omega)
theorem WFI_rep {σ K A C : Nat → Int} {n d : Nat} {O : Nat → Nat} {a c : Int} (h : WFI σ K A C n d O) (hd : d < 2) (ha : 1 ≤ a ∧ a ≤ 20) : WFI σ (updr K n 8) (updr A n a) (updr C n c) (n + 1) (d + 1) (fun i => if i = d then n else O i) := by
  have old := WFI_old (k := 8) (a := a) (c := c) h
  have e : stk (updr K n 8) (n + 1) = ((stk K n).1 + 1, fun j => if j = (stk K n).1 then n else (stk K n).2 j) := by rw [stk_8 (by rw [updr_self]), old.1]
  refine ⟨by rw [e]; show (stk K n).1 + 1 = d + 1; rw [h.1], fun j hj => ?_, fun i hi => ?_⟩
  · rw [e]
    show (if j = (stk K n).1 then n else (stk K n).2 j) = if j = d then n else O j
    rw [h.1]
    by_cases cj : j = d
    · rw [if_pos cj, if_pos cj]
    · rw [if_neg cj, if_neg cj]; exact h.2.1 j (by omega)
  · by_cases ci : i = n
    · subst ci
      refine Or.inl ⟨updr_self _ _ _, ?_, ?_⟩
      · rw [old.1, h.1]; exact hd
      · rw [updr_self]; exact ha
    · exact old.2 i (by omega)
theorem WFI_clo {σ K A C : Nat → Int} {n d : Nat} {O : Nat → Nat} {c : Int} (h : WFI σ K A C n d O) (hd : 0 < d) : WFI σ (updr K n 9) (updr A n ((O (d - 1) : Nat) : Int)) (updr C n c) (n + 1) (d - 1) O := by
  have old := WFI_old (k := 9) (a := ((O (d - 1) : Nat) : Int)) (c := c) h
  have e : stk (updr K n 9) (n + 1) = ((stk K n).1 - 1, (stk K n).2) := by rw [stk_9 (by rw [updr_self]), old.1]
  refine ⟨by rw [e]; show (stk K n).1 - 1 = d - 1; rw [h.1], fun j hj => by rw [e]; exact h.2.1 j (by omega), fun i hi => ?_⟩
  by_cases ci : i = n
  · subst ci
    refine Or.inr (Or.inl ⟨updr_self _ _ _, ?_, ?_⟩)
    · rw [old.1, h.1]; exact hd
    · rw [updr_self, old.1, h.1, h.2.1 _ (by omega)]
  · exact old.2 i (by omega)
/-- the repeat that is open at level j -/
theorem stk_in {K : Nat → Int} : ∀ {i j : Nat}, j < (stk K i).1 → (stk K i).2 j < i ∧ K ((stk K i).2 j) = 8 ∧ (stk K ((stk K i).2 j)).1 = j ∧ (∀ j', j' < j → (stk K ((stk K i).2 j)).2 j' = (stk K i).2 j') ∧ ∀ k, (stk K i).2 j < k → k ≤ i → j < (stk K k).1 ∧ (stk K k).2 j = (stk K i).2 j
  | 0, j, h => absurd h (Nat.not_lt_zero _)
  | i + 1, j, h => by
    by_cases c8 : K i = 8
    · rw [stk_8 c8] at h ⊢
      dsimp only at h ⊢
      by_cases cj : j = (stk K i).1
      · rw [if_pos cj]
        refine ⟨by omega, c8, cj.symm, fun j' hj' => by rw [if_neg (by omega)], fun k h1 h2 => ?_⟩
        have : k = i + 1 := by omega
        subst this
        rw [stk_8 c8]
        exact ⟨h, if_pos cj⟩
      · rw [if_neg cj]
        obtain ⟨h1, h2, h3, h4, h5⟩ := stk_in (K := K) (i := i) (j := j) (by omega)
        refine ⟨by omega, h2, h3, fun j' hj' => by rw [if_neg (by omega)]; exact h4 j' hj', fun k k1 k2 => ?_⟩
        by_cases ck : k = i + 1
        · subst ck
          rw [stk_8 c8]
          exact ⟨h, if_neg cj⟩
        · exact h5 k k1 (by omega)
    · by_cases c9 : K i = 9
      · rw [stk_9 c9] at h ⊢
        dsimp only at h ⊢
        obtain ⟨h1, h2, h3, h4, h5⟩ := stk_in (K := K) (i := i) (j := j) (by omega)
        refine ⟨by omega, h2, h3, h4, fun k k1 k2 => ?_⟩
        by_cases ck : k = i + 1
        · subst ck
          rw [stk_9 c9]
          exact ⟨h, rfl⟩
        · exact h5 k k1 (by omega)
      · rw [stk_o c8 c9] at h ⊢
        obtain ⟨h1, h2, h3, h4, h5⟩ := stk_in (K := K) (i := i) (j := j) h
        refine ⟨by omega, h2, h3, h4, fun k k1 k2 => ?_⟩
        by_cases ck : k = i + 1
        · subst ck
          rw [stk_o c8 c9]
          exact ⟨h, rfl⟩
        · exact h5 k k1 (by omega)
section WFS
variable {B : Nat → Int} {E : Nat} {nm : Nat → Int64} {σ K A C : Nat → Int} {n w d p : Nat} {O : Nat → Nat}
/-- how a script goes on -/
abbrev goW (σ : Nat → Int) (t : Sc) : Prop := WFI σ t.1 t.2.1 t.2.2.1 t.2.2.2.1 t.2.2.2.2.2.1 t.2.2.2.2.2.2.2
theorem addS_WF {q dw : Nat} {k a c : Int} (h : WFI σ (updr K n k) (updr A n a) (updr C n c) (n + 1) d O) : PO2 (addS B E K A C n w d O q k a c dw) (fun _ _ _ => True) (goW σ) := by
  unfold addS
  split
  · exact h
  · trivial
theorem oneS_WF (hM : MS σ) (h : WFI σ K A C n d O) (hd : d ≤ 2) : PO2 (oneS B E nm (σ 0).toNat K A C n w d O p) (fun _ _ _ => True) (goW σ) := by
  have b0 := ms_0 hM
  have kb := kW_b (B := B) (E := E) (p := p)
  unfold oneS
  by_cases c5 : tK B E p = 5
  · rw [if_pos c5]
    by_cases cd : d = 0
    · rw [if_pos cd]; trivial
    · rw [if_neg cd]
      unfold cloS
      exact addS_WF (WFI_clo h (by omega))
  rw [if_neg c5]
  unfold cmdS
  by_cases c1 : kW B E p = -1
  · rw [if_pos c1]; trivial
  rw [if_neg c1]
  by_cases c2 : kW B E p = 8 ∧ 2 ≤ d
  · rw [if_pos c2]; trivial
  rw [if_neg c2]
  by_cases c3 : 30 ≤ w
  · rw [if_pos c3]; trivial
  rw [if_neg c3]
  by_cases c8 : kW B E p = 8
  · rw [if_pos c8]
    unfold repS
    by_cases x1 : ¬ nOK B E 1 20 (tE B E p)
    · rw [if_pos x1]; trivial
    rw [if_neg x1]
    by_cases x2 : tK B E (tE B E (tE B E p)) ≠ 4
    · rw [if_pos x2]; trivial
    rw [if_neg x2]
    exact WFI_rep h (by omega) (Classical.not_not.mp x1).2
  rw [if_neg c8]
  by_cases c9 : kW B E p = 2
  · rw [if_pos c9]
    unfold movS
    by_cases x1 : ¬ nOK B E 0 999 (tE B E p)
    · rw [if_pos x1]; trivial
    rw [if_neg x1]
    by_cases x2 : ¬ nOK B E 0 999 (tE B E (tE B E p))
    · rw [if_pos x2]; trivial
    rw [if_neg x2]
    exact addS_WF (WFI_cmd h ⟨by omega, (Classical.not_not.mp x1).2, (Classical.not_not.mp x2).2, fun z => by omega⟩)
  rw [if_neg c9]
  by_cases c10 : kW B E p = 4 ∨ kW B E p = 7
  · rw [if_pos c10]
    unfold numS
    by_cases x1 : ¬ nOK B E 0 999 (tE B E p)
    · rw [if_pos x1]; trivial
    rw [if_neg x1]
    exact addS_WF (WFI_cmd h ⟨by omega, (Classical.not_not.mp x1).2, by omega, fun z => by omega⟩)
  rw [if_neg c10]
  by_cases c11 : kW B E p = 6
  · rw [if_pos c11]
    unfold apaS
    by_cases x1 : ¬ vOK B E nm (σ 0).toNat (tE B E p)
    · rw [if_pos x1]; trivial
    rw [if_neg x1]
    by_cases x2 : ¬ vOK B E nm (σ 0).toNat (tE B E (tE B E p))
    · rw [if_pos x2]; trivial
    rw [if_neg x2]
    have n1 := nmZ_b nm (tW B E (tE B E p)) (σ 0).toNat
    have n2 := nmZ_b nm (tW B E (tE B E (tE B E p))) (σ 0).toNat
    have y1 := (Classical.not_not.mp x1).2
    have y2 := (Classical.not_not.mp x2).2
    exact addS_WF (WFI_cmd h ⟨by omega, by omega, by omega, fun _ => by omega⟩)
  rw [if_neg c11]
  exact addS_WF (WFI_cmd h ⟨by omega, by omega, by omega, fun z => absurd z c11⟩)
theorem scr_WF (hM : MS σ) : ∀ {f : Nat} {K A C : Nat → Int} {n w d p : Nat} {O : Nat → Nat}, WFI σ K A C n d O → PSc E n w d p → PO2 (scr B E nm (σ 0).toNat f (K, A, C, n, w, d, p, O)) (fun c _ _ => 1 ≤ c ∧ c ≤ 6) (fun t => goW σ t ∧ t.2.2.2.2.2.1 = 0 ∧ t.2.2.2.1 ≤ 60)
  | 0, K, A, C, n, w, d, p, O, _, _ => litS (by decide)
  | f + 1, K, A, C, n, w, d, p, O, h, hS => by
    by_cases c0 : tK B E p = 0
    · rw [scr_0 c0]
      by_cases cd : d = 0
      · rw [if_pos cd]; exact ⟨h, cd, by show n ≤ 60; have := hS.1; have := hS.2.1; omega⟩
      · rw [if_neg cd]; exact litS (by decide)
    · have h1 := oneS_PO (B := B) (nm := nm) (m := (σ 0).toNat) (K := K) (A := A) (C := C) (O := O) hS c0
      have h2 := oneS_WF (B := B) (E := E) (nm := nm) (w := w) (p := p) hM h hS.2.2.1
      cases hx : oneS B E nm (σ 0).toNat K A C n w d O p with
      | error e => rw [scr_e c0 hx]; rw [hx] at h1; exact h1
      | ok t =>
        obtain ⟨K', A', C', n', w', d', p', O'⟩ := t
        rw [scr_s c0 hx]
        rw [hx] at h1 h2
        exact scr_WF hM h2 h1.1
end WFS
