/-! ===== a script runs ===== -/
/-- a run of f steps at most: from a place, with turns left, behind dn commands, at a row, to an end -/
def RUN (K A C : Nat → Int) (n : Nat) : Nat → Nat → (Nat → Int) → Nat → (Nat → Int) → Nat → (Nat → Int) → Prop
  | 0, _, _, _, _, _, _ => False
  | f + 1, pc, l, dn, σ, de, τ => ((n ≤ pc ∨ 40 ≤ dn) → de = dn ∧ τ = σ) ∧ (¬ (n ≤ pc ∨ 40 ≤ dn) →
      (K pc = 8 → RUN K A C n f (pc + 1) (updr l (stk K pc).1 (A pc)) dn σ de τ) ∧
      (K pc = 9 → (0 < l ((stk K pc).1 - 1) - 1 → RUN K A C n f ((stk K pc).2 ((stk K pc).1 - 1) + 1) (updr l ((stk K pc).1 - 1) (l ((stk K pc).1 - 1) - 1)) dn σ de τ) ∧ (¬ 0 < l ((stk K pc).1 - 1) - 1 → RUN K A C n f (pc + 1) (updr l ((stk K pc).1 - 1) (l ((stk K pc).1 - 1) - 1)) dn σ de τ)) ∧
      (K pc ≠ 8 → K pc ≠ 9 → (¬ CAN σ (K pc) (A pc) (C pc) → de = dn ∧ τ = σ) ∧ (CAN σ (K pc) (A pc) (C pc) → ∃ σ', PF σ (K pc) (A pc) (C pc) σ' ∧ RUN K A C n f (pc + 1) l (dn + 1) σ' de τ)))
theorem IT_b {σ K A C : Nat → Int} {i : Nat} (h : IT σ K A C i) : 0 ≤ K i ∧ K i ≤ 9 := by
  rcases h with ⟨h, -⟩ | ⟨h, -⟩ | h
  · omega
  · omega
  · have := h.1; omega
theorem IT_cong {σ τ K A C : Nat → Int} {i : Nat} (h : IT σ K A C i) (e : τ 0 = σ 0) : IT τ K A C i := by
  unfold IT OKC at *
  rw [e]
  exact h
theorem IT_8 {σ K A C : Nat → Int} {i : Nat} (h : IT σ K A C i) (c : K i = 8) : (stk K i).1 < 2 ∧ 1 ≤ A i ∧ A i ≤ 20 := by
  rcases h with h | h | h
  · exact h.2
  · have := h.1; omega
  · have := h.1; omega
theorem IT_9 {σ K A C : Nat → Int} {i : Nat} (h : IT σ K A C i) (c : K i = 9) : 0 < (stk K i).1 ∧ A i = (((stk K i).2 ((stk K i).1 - 1) : Nat) : Int) := by
  rcases h with h | h | h
  · have := h.1; omega
  · exact h.2
  · have := h.1; omega
theorem IT_o {σ K A C : Nat → Int} {i : Nat} (h : IT σ K A C i) (c : K i ≠ 8) (c9 : K i ≠ 9) : OKC σ (K i) (A i) (C i) := by
  rcases h with h | h | h
  · exact absurd h.1 c
  · exact absurd h.1 c9
  · exact h
/-- at most two repeats are open -/
theorem stk_2 {σ K A C : Nat → Int} : ∀ {i : Nat}, (∀ j, j < i → IT σ K A C j) → (stk K i).1 ≤ 2
  | 0, _ => Nat.zero_le _
  | i + 1, h => by
    have ih := stk_2 (i := i) (fun j hj => h j (by omega))
    by_cases c8 : K i = 8
    · rw [stk_8 c8]
      have := (IT_8 (h i (by omega)) c8).1
      show (stk K i).1 + 1 ≤ 2
      omega
    · by_cases c9 : K i = 9
      · rw [stk_9 c9]
        show (stk K i).1 - 1 ≤ 2
        omega
      · rw [stk_o c8 c9]; exact ih
/-- behind the head of the innermost repeat the same repeats are open -/
theorem stk_again {K : Nat → Int} {pc : Nat} (h : 0 < (stk K pc).1) : (stk K ((stk K pc).2 ((stk K pc).1 - 1) + 1)).1 = (stk K pc).1 ∧ ∀ j, j < (stk K pc).1 → (stk K ((stk K pc).2 ((stk K pc).1 - 1) + 1)).2 j = (stk K pc).2 j := by
  obtain ⟨h1, h2, h3, h4, h5⟩ := stk_in (K := K) (i := pc) (j := (stk K pc).1 - 1) (by omega)
  rw [stk_8 h2]
  dsimp only
  rw [h3]
  refine ⟨by omega, fun j hj => ?_⟩
  by_cases c : j = (stk K pc).1 - 1
  · rw [if_pos c, c]
  · rw [if_neg c]; exact h4 j (by omega)
section SRN
theorem s_runsL {K A C : Nat → Int} {n w : Nat} {de : Nat} {τ : Nat → Int} (hn : n ≤ 60) : ∀ (f pc : Nat) (l : Nat → Int) (dn : Nat) (σ : Nat → Int) (I : Ii) (J : Jj), RUN K A C n f pc l dn σ de τ → (∀ i, i < n → IT σ K A C i) → VS σ → σ 6 + 99 * ((41 - dn : Nat) : Int) ≤ 1000000000 → I 2 = σ → SX K A C n w I → dn ≤ 40 → pc ≤ n → (∀ j, j < (stk K pc).1 → I 19 j = (((stk K pc).2 j : Nat) : Int) ∧ I 20 j = l j ∧ 1 ≤ l j ∧ l j ≤ 20) → L_X12_runs_9 (fun r I' _ => r = (de : Int) ∧ I' 2 = τ) (f + 1) (dn : Int) (((stk K pc).1 : Nat) : Int) (pc : Int) 1 I J
  | 0, pc, l, dn, σ, I, J, h, _, _, _, _, _, _, _, _ => absurd h id
  | f + 1, pc, l, dn, σ, I, J, h, hI, hV, h6, h2, hX, hdn, hpc, hst => by
    have h41 := hX.1
    refine ls_X12_runs_9 ?_
    unfold Lb_X12_runs_9
    have hd2 : (stk K pc).1 ≤ 2 := stk_2 (σ := σ) (A := A) (C := C) (fun j hj => hI j (by omega))
    refine ⟨rgK (by omega), fun z => absurd z (by decide), fun _ => ⟨rgK (by omega), rgK (by omega), fun c => ?_, fun c => ⟨rgK (by omega), fun c2 => ?_, fun c2 => ?_⟩⟩⟩
    · obtain ⟨e1, e2⟩ := h.1 (Or.inl (by omega))
      exact ⟨by rw [e1], by rw [h2, e2]⟩
    · obtain ⟨e1, e2⟩ := h.1 (Or.inr (by omega))
      exact ⟨by rw [e1], by rw [h2, e2]⟩
    · obtain ⟨g8, g9, go⟩ := h.2 (by omega)
      have hp : pc < n := by omega
      have it := hI pc hp
      have kb := IT_b it
      obtain ⟨x16, x17, x18⟩ := hX.2.2 pc hp
      rw [show ((pc : Int)).toNat = pc by omega, x16]
      refine ⟨by omega, rgK (by omega), fun c8 => ⟨by omega, fun c9 => ⟨by omega, by omega, by omega, ?_⟩, fun c9 => ?_⟩, fun c8 => ?_⟩
      · have hO := IT_o it c8 c9
        obtain ⟨gn, gy⟩ := go c8 c9
        have step : ∀ τ', (CAN σ (K pc) (A pc) (C pc) → PF σ (K pc) (A pc) (C pc) τ' ∧ RUN K A C n f (pc + 1) l (dn + 1) τ' de τ) → wp_X12_does (K pc) (I 17 pc) (I 18 pc) I J (fun v11 I11 J11 => wp_X12_truth v11 I11 J11 (fun v12 I12 J12 => L_X12_runs_9 (fun r I' _ => r = (de : Int) ∧ I' 2 = τ) (f + 1) ((dn : Int) + v12) (((stk K pc).1 : Nat) : Int) ((pc : Int) + 1) v11 I12 J12)) := by
          intro τ' hτ
          refine fr_X12_does (s_does (by rw [h2]; exact hV) (by rw [h2]; exact hO) x17 x18 (by rw [h2]; omega) (τ := τ') (fun q => by rw [h2] at q ⊢; exact (hτ q).1)) (fun v I' J' hh s => ?_)
          rw [h2] at hh
          rcases hh with ⟨hC, rfl, e2⟩ | ⟨hC, rfl, e2⟩
          · refine fr_X12_truth (s_truth (Or.inr rfl)) (fun v hv => ?_)
            subst hv
            obtain ⟨hP, hR⟩ := hτ hC
            have keep := PF_keeps hV hO hC (by omega) hP
            have es : stk K (pc + 1) = stk K pc := stk_o c8 c9
            have k19 : I' 19 = I 19 := s.k
            have k20 : I' 20 = I 20 := s.k
            have := s_runsL (w := w) hn f (pc + 1) l (dn + 1) τ' I' J' hR (fun i hi => IT_cong (hI i hi) (keep.2.1 0 (Or.inl (by omega)))) keep.1 (by have := keep.2.2; omega) e2 (hX.cong s.i s.i s.k s.k s.k) (by omega) (by omega) (by rw [es, k19, k20]; exact hst)
            rw [es] at this
            rwa [show (((dn + 1 : Nat)) : Int) = (dn : Int) + 1 by omega, show (((pc + 1 : Nat)) : Int) = (pc : Int) + 1 by omega] at this
          · refine fr_X12_truth (s_truth (Or.inl rfl)) (fun v hv => ?_)
            subst hv
            obtain ⟨e3, e4⟩ := gn hC
            refine ls_X12_runs_9 ?_
            unfold Lb_X12_runs_9
            exact ⟨rgK (by omega), fun _ => ⟨by rw [e3]; omega, by rw [e2, e4]⟩, fun z => absurd rfl z⟩
        by_cases hC : CAN σ (K pc) (A pc) (C pc)
        · obtain ⟨τ', hP, hR⟩ := gy hC
          exact step τ' (fun _ => ⟨hP, hR⟩)
        · exact step σ (fun z => absurd z hC)
      · obtain ⟨d0, -⟩ := IT_9 it c9
        obtain ⟨ga, gb⟩ := g9 c9
        obtain ⟨s19, s20, l1, l20⟩ := hst ((stk K pc).1 - 1) (by omega)
        have ej : ((((stk K pc).1 : Nat) : Int) - 1).toNat = (stk K pc).1 - 1 := by omega
        refine ⟨by omega, by omega, fun I15 e15 => ⟨by omega, ?_⟩⟩
        rw [ej, s20] at e15
        rw [ej]
        have v15 : I15 20 ((stk K pc).1 - 1) = l ((stk K pc).1 - 1) - 1 := by rw [e15, up2_self]
        have ek : ∀ k, k ≠ 20 → I15 k = I k := fun k z => by rw [e15, up2_key z]
        have hX15 := hX.cong (I' := I15) (by rw [ek 0 (by omega)]) (by rw [ek 0 (by omega)]) (ek 16 (by omega)) (ek 17 (by omega)) (ek 18 (by omega))
        have o20 : ∀ j, I15 20 j = (updr l ((stk K pc).1 - 1) (l ((stk K pc).1 - 1) - 1)) j ∨ (stk K pc).1 ≤ j := fun j => by
          by_cases cj : j = (stk K pc).1 - 1
          · left; rw [cj, v15, updr_self]
          · by_cases cj2 : (stk K pc).1 ≤ j
            · exact Or.inr cj2
            · left; rw [e15, up2_ne (by omega), updr_ne cj]; exact (hst j (by omega)).2.1
        rw [v15]
        refine ⟨rgK (by omega), fun q => ?_, fun q => ?_⟩
        · have hR := gb (by omega)
          have es : stk K (pc + 1) = ((stk K pc).1 - 1, (stk K pc).2) := stk_9 c9
          refine ⟨rgK (by omega), fun _ => ⟨rgK (by omega), fun z => absurd rfl z, fun _ => fr_X12_truth (s_truth (Or.inr rfl)) (fun v hv => ?_)⟩, fun z => absurd rfl z⟩
          subst hv
          have := s_runsL (w := w) hn f (pc + 1) _ dn σ I15 J hR hI hV h6 (by rw [ek 2 (by omega)]; exact h2) hX15 hdn (by omega) (by
            rw [es]
            dsimp only
            intro j hj
            rw [ek 19 (by omega), updr_ne (by omega)]
            obtain ⟨a1, a2, a3⟩ := hst j (by omega)
            refine ⟨a1, ?_, a3⟩
            rcases o20 j with z | z
            · rw [z, updr_ne (by omega)]
            · omega)
          rw [es] at this
          dsimp only at this
          rwa [show (((pc + 1 : Nat)) : Int) = (pc : Int) + 1 by omega, show ((((stk K pc).1 - 1 : Nat)) : Int) = (((stk K pc).1 : Nat) : Int) - 1 by omega] at this
        · have hR := ga (by omega)
          obtain ⟨a1, a2⟩ := stk_again (K := K) (pc := pc) d0
          obtain ⟨b1, -⟩ := stk_in (K := K) (i := pc) (j := (stk K pc).1 - 1) (by omega)
          have e19 : I15 19 ((stk K pc).1 - 1) = (((stk K pc).2 ((stk K pc).1 - 1) : Nat) : Int) := by rw [ek 19 (by omega)]; exact s19
          refine ⟨rgK (by omega), fun z => absurd z (by decide), fun _ => ⟨by omega, ?_⟩⟩
          rw [ej, e19]
          refine ⟨rgK (by omega), fun _ => fr_X12_truth (s_truth (Or.inl rfl)) (fun v hv => ?_), fun z => absurd z (by decide)⟩
          subst hv
          have := s_runsL (w := w) hn f _ _ dn σ I15 J hR hI hV h6 (by rw [ek 2 (by omega)]; exact h2) hX15 hdn (by omega) (by
            rw [a1]
            intro j hj
            rw [a2 j hj, ek 19 (by omega)]
            obtain ⟨x1, x2, x3⟩ := hst j hj
            refine ⟨x1, ?_, ?_⟩
            · rcases o20 j with z | z
              · exact z
              · omega
            · by_cases cj : j = (stk K pc).1 - 1
              · rw [cj, updr_self]; omega
              · rw [updr_ne cj]; exact x3)
          rw [a1] at this
          rwa [show ((((stk K pc).2 ((stk K pc).1 - 1) + 1 : Nat)) : Int) = (((stk K pc).2 ((stk K pc).1 - 1) : Nat) : Int) + 1 by omega, show (((stk K pc).1 : Nat) : Int) = (((stk K pc).1 : Nat) : Int) - 0 by omega] at this
      · obtain ⟨d2, a1, a20⟩ := IT_8 it c8
        have hR := g8 c8
        have es : stk K (pc + 1) = ((stk K pc).1 + 1, fun j => if j = (stk K pc).1 then pc else (stk K pc).2 j) := stk_8 c8
        have ed : ((((stk K pc).1 : Nat) : Int)).toNat = (stk K pc).1 := by omega
        refine ⟨by omega, fun I19 e19 => ⟨by omega, by omega, fun I22 e22 => ?_⟩⟩
        rw [ed] at e19 e22
        have x17' : I19 17 pc = A pc := by rw [e19, up2_key (by omega)]; exact x17 (by omega)
        rw [x17'] at e22
        have ek : ∀ k, k ≠ 19 → k ≠ 20 → I22 k = I k := fun k z z2 => by rw [e22, up2_key z2, e19, up2_key z]
        have := s_runsL (w := w) hn f (pc + 1) _ dn σ I22 J hR hI hV h6 (by rw [ek 2 (by omega) (by omega)]; exact h2) (hX.cong (by rw [ek 0 (by omega) (by omega)]) (by rw [ek 0 (by omega) (by omega)]) (ek 16 (by omega) (by omega)) (ek 17 (by omega) (by omega)) (ek 18 (by omega) (by omega))) hdn (by omega) (by
          rw [es]
          dsimp only
          intro j hj
          by_cases cj : j = (stk K pc).1
          · rw [if_pos cj, cj, e22, up2_ne (by omega), e19, up2_self, up2_self, updr_self]
            exact ⟨rfl, rfl, a1, a20⟩
          · rw [if_neg cj, e22, up2_ne (by omega), e19, up2_ne (by omega), up2_ne (by omega), up2_ne (by omega), updr_ne cj]
            exact hst j (by omega))
        rw [es] at this
        dsimp only at this
        rwa [show (((pc + 1 : Nat)) : Int) = (pc : Int) + 1 by omega, show ((((stk K pc).1 + 1 : Nat)) : Int) = (((stk K pc).1 : Nat) : Int) + 1 by omega] at this
end SRN
