/-! ===== reading a text: the class ===== -/
/-- the class's tokens: consumed up to p, at a depth d -/
def CT (B : Nat → Int) (E d p : Nat) (I : Ii) : Prop := I 101 2 = (E : Int) ∧ I 101 4 = (p : Int) ∧ p ≤ E ∧ I 101 8 = (d : Int) ∧ (∀ i, i < E → I 102 i = B i) ∧ E ≤ 800 ∧ (∀ i, i < E → 0 ≤ B i ∧ B i ≤ 255) ∧ I 101 9 = 0 ∧ I 101 10 = -1 ∧ I 101 11 = -1
/-- the class has told a fault -/
def CE (c : Int) (s d : Nat) (I : Ii) : Prop := I 101 9 = c ∧ I 101 10 = (s : Int) ∧ I 101 11 = (d : Int)
section CPA
variable {I : Ii} {J : Jj} {B : Nat → Int} {E d p : Nat}
theorem CT.step {I' : Ii} {q : Nat} (h : CT B E d p I) (e2 : I' 101 2 = I 101 2) (e8 : I' 101 8 = I 101 8) (e9 : I' 101 9 = I 101 9) (e10 : I' 101 10 = I 101 10) (e11 : I' 101 11 = I 101 11) (eB : I' 102 = I 102) (e4 : I' 101 4 = (q : Int)) (hq : q ≤ E) : CT B E d q I' :=
  ⟨e2.trans h.1, e4, hq, e8.trans h.2.2.2.1, fun i hi => by rw [eB]; exact h.2.2.2.2.1 i hi, h.2.2.2.2.2.1, h.2.2.2.2.2.2.1, e9.trans h.2.2.2.2.2.2.2.1, e10.trans h.2.2.2.2.2.2.2.2.1, e11.trans h.2.2.2.2.2.2.2.2.2⟩
theorem CT.same {I' : Ii} (h : CT B E d p I) (e : I' 101 = I 101) (eB : I' 102 = I 102) : CT B E d p I' :=
  h.step (by rw [e]) (by rw [e]) (by rw [e]) (by rw [e]) (by rw [e]) eB (by rw [e]; exact h.2.1) h.2.2.1
theorem c_advanceT (h : CT B E d p I) : wp_X10_advance I J (fun I' J' => CT B E d (tE B E p) I' ∧ I' 101 3 = (tS B E p : Int) ∧ I' 101 5 = tK B E p ∧ (tK B E p = 1 → J' 101 6 = tW B E p) ∧ (tK B E p = 2 → I' 101 7 = tN B E p ∧ J' 101 6 = J 101 6)) := by
  have h' := h
  obtain ⟨h2, h4, hp, h8, hB, hE, hb, -⟩ := h
  refine fr_X10_advance (c_tok h2 h4 hp hE hB hb) (fun I' J' q s => ⟨?_, q.1, q.2.2.1, q.2.2.2.1, q.2.2.2.2⟩)
  exact CT.step (p := p) (I := I) h' s.i s.i s.i s.i s.i s.k q.2.1 (tE_b hp).2.1
theorem fail_of {c : Int} {s : Nat} (h3 : I 101 3 = (s : Int)) (h8 : I 101 8 = (d : Int)) {Q : Int → Ii → Jj → Prop} (hq : ∀ I', CE c s d I' → Same (WL [(101, 9), (101, 10), (101, 11)]) I J I' J → Q 0 I' J) : wp_X10_fail c I J Q := by
  refine fr_X10_fail (P := fun r I' J' => r = 0 ∧ CE c s d I' ∧ J' = J) ?_ (fun v I' J' h s => ?_)
  · intro I1 e1 I2 e2 I3 e3
    subst e1 e2 e3
    refine ⟨rfl, ⟨?_, ?_, ?_⟩, rfl⟩
    · rw [up2_ne (by omega), up2_ne (by omega), up2_self]
    · rw [up2_ne (by omega), up2_self, up2_ne (by omega)]; exact h3
    · rw [up2_self, up2_ne (by omega), up2_ne (by omega)]; exact h8
  · obtain ⟨rfl, h1, rfl⟩ := h
    exact hq I' h1 s
theorem takes_of {k : Int} (h : CT B E d p I) (hk : 0 ≤ k ∧ k ≤ 6) {Q : Int → Ii → Jj → Prop} (h1 : tK B E p = k → ∀ I' J', CT B E d (tE B E p) I' → I' 101 3 = (tS B E p : Int) → (k = 1 → J' 101 6 = tW B E p) → Same W_X10_takes I J I' J' → Q 1 I' J') (h0 : tK B E p ≠ k → ∀ I' J', CE 1 (tS B E p) d I' → Same W_X10_takes I J I' J' → Q 0 I' J') : wp_X10_takes k I J Q := by
  refine fr_X10_takes (P := fun r I' J' => (tK B E p = k ∧ r = 1 ∧ CT B E d (tE B E p) I' ∧ I' 101 3 = (tS B E p : Int) ∧ (k = 1 → J' 101 6 = tW B E p)) ∨ (tK B E p ≠ k ∧ r = 0 ∧ CE 1 (tS B E p) d I')) ?_ (fun v I' J' h s => ?_)
  · unfold wp_X10_takes
    have kb := tK_b (B := B) (E := E) (p := p)
    refine fr_X10_advance (c_advanceT h) (fun I1 J1 q _ => ?_)
    obtain ⟨q1, q2, q3, q4, q5⟩ := q
    rw [q3]
    refine ⟨rgK (by omega), rgK (by omega), fun c => Or.inl ⟨c, rfl, q1, q2, fun z => q4 (by omega)⟩, fun c => fail_of q2 q1.2.2.2.1 (fun I' hE _ => ⟨fun _ => Or.inr ⟨c, rfl, hE⟩, fun z => absurd rfl z⟩)⟩
  · rcases h with ⟨a, rfl, b, b2, b3⟩ | ⟨a, rfl, b⟩
    · exact h1 a I' J' b b2 b3 s
    · exact h0 a I' J' b s
theorem takesN_of {lo hi : Int} (h : CT B E d p I) (hl : 0 ≤ lo ∧ lo ≤ 999 ∧ 0 ≤ hi ∧ hi ≤ 999) {Q : Int → Ii → Jj → Prop} (h1 : nOK B E lo hi p → ∀ I' J', CT B E d (tE B E p) I' → I' 101 7 = tN B E p → Same W_X10_takesNumber I J I' J' → J' 101 6 = J 101 6 → Q 1 I' J') (h0 : ¬ nOK B E lo hi p → ∀ I' J', CE (numC B E p) (tS B E p) d I' → Same W_X10_takesNumber I J I' J' → Q 0 I' J') : wp_X10_takesNumber lo hi I J Q := by
  refine fr_X10_takesNumber (P := fun r I' J' => (nOK B E lo hi p ∧ r = 1 ∧ CT B E d (tE B E p) I' ∧ I' 101 7 = tN B E p ∧ J' 101 6 = J 101 6) ∨ (¬ nOK B E lo hi p ∧ r = 0 ∧ CE (numC B E p) (tS B E p) d I')) ?_ (fun v I' J' h s => ?_)
  · unfold wp_X10_takesNumber
    have kb := tK_b (B := B) (E := E) (p := p)
    refine fr_X10_advance (c_advanceT h) (fun I1 J1 q _ => ?_)
    obtain ⟨q1, q2, q3, q4, q5⟩ := q
    rw [q3]
    have bad : ∀ c : Int, c = numC B E p → ¬ nOK B E lo hi p → wp_X10_fail c I1 J1 (fun r I' J' => r = 0 ∧ ((nOK B E lo hi p ∧ r = 1 ∧ CT B E d (tE B E p) I' ∧ I' 101 7 = tN B E p ∧ J' 101 6 = J 101 6) ∨ (¬ nOK B E lo hi p ∧ r = 0 ∧ CE (numC B E p) (tS B E p) d I'))) := by
      intro c hc hn
      subst hc
      exact fail_of q2 q1.2.2.2.1 (fun I' hE _ => ⟨rfl, Or.inr ⟨hn, rfl, hE⟩⟩)
    refine ⟨rgK (by omega), fun c => ?_, fun c => ?_⟩
    · have nb := tN_b (B := B) h.2.2.1 c
      have e2 : (2 : Int) = numC B E p := by unfold numC; rw [if_pos c]
      have e7 := (q5 c).1
      have go : ¬ nOK B E lo hi p → B_X10_takesNumber_34 lo hi (fun r I' J' => (nOK B E lo hi p ∧ r = 1 ∧ CT B E d (tE B E p) I' ∧ I' 101 7 = tN B E p ∧ J' 101 6 = J 101 6) ∨ (¬ nOK B E lo hi p ∧ r = 0 ∧ CE (numC B E p) (tS B E p) d I')) I1 J1 := fun hn => fr_X10_fail (bad 2 e2 hn) (fun v I' J' hh _ => ⟨fun z => by rw [hh.1] at hh; exact hh.2, fun z => absurd hh.1 z⟩)
      rw [e7]
      refine ⟨rgK (by omega), rgK (by omega), fun c2 => go (fun z => by have := z.2; omega), fun c2 => ⟨rgK (by omega), fun c3 => Or.inl ⟨⟨c, by omega, c3⟩, rfl, q1, e7, (q5 c).2⟩, fun c3 => go (fun z => by have := z.2; omega)⟩⟩
    · have e1 : (1 : Int) = numC B E p := by unfold numC; rw [if_neg c]
      exact fr_X10_fail (bad 1 e1 (fun z => c z.1)) (fun v I' J' hh _ => ⟨Or.inl hh.1, hh.2⟩)
  · rcases h with ⟨a, rfl, b, b2, b3⟩ | ⟨a, rfl, b⟩
    · exact h1 a I' J' b b2 s b3
    · exact h0 a I' J' b s
end CPA
