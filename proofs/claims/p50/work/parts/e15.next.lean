/-! ===== the step that is chosen ===== -/
def okM (σ : Nat → Int) (lw : Bool) (g p : Nat) : Prop := ¬ (0 < wmZ σ g p ∨ (lw = true ∧ debtsZ σ ≤ dwZ σ g p) ∨ (lw = false ∧ gainZ σ g p ≤ 0))
def kle (σ : Nat → Int) (g p g' p' : Nat) : Prop := gainZ σ g' p' < gainZ σ g p ∨ (gainZ σ g' p' = gainZ σ g p ∧ (dwZ σ g p < dwZ σ g' p' ∨ (dwZ σ g p = dwZ σ g' p' ∧ 10 * g + p ≤ 10 * g' + p')))
def BWm (σ : Nat → Int) (lw : Bool) (S : Nat → Nat → Prop) (r : Int) : Prop := (r = -1 ∧ ∀ g p, S g p → ¬ okM σ lw g p) ∨ ∃ g p : Nat, S g p ∧ okM σ lw g p ∧ r = 10 * (g : Int) + (p : Int) ∧ ∀ g' p', S g' p' → okM σ lw g' p' → kle σ g p g' p'
def FWm (σ : Nat → Int) (lw : Bool) (S : Nat → Nat → Prop) (a : Int × Int × Int) : Prop := (a.1 = -1 ∧ ∀ g p, S g p → ¬ okM σ lw g p) ∨ ∃ g p : Nat, S g p ∧ okM σ lw g p ∧ (a.1 = 10 * (g : Int) + (p : Int) ∧ a.2.1 = gainZ σ g p ∧ a.2.2 = dwZ σ g p) ∧ ∀ g' p', S g' p' → okM σ lw g' p' → kle σ g p g' p'
theorem FWm.to {σ : Nat → Int} {lw : Bool} {S : Nat → Nat → Prop} {a : Int × Int × Int} (h : FWm σ lw S a) : BWm σ lw S a.1 := by
  rcases h with h | ⟨g, p, h1, h2, h3, h4⟩
  · exact Or.inl h
  · exact Or.inr ⟨g, p, h1, h2, h3.1, h4⟩
theorem BWm.one {σ : Nat → Int} {lw : Bool} {S : Nat → Nat → Prop} {r r' : Int} (h : BWm σ lw S r) (h' : BWm σ lw S r') : r = r' := by
  rcases h with h | ⟨g, p, h1, h2, h3, h4⟩
  · rcases h' with h' | ⟨g', p', a1, a2, a3, a4⟩
    · rw [h.1, h'.1]
    · exact absurd a2 (h.2 _ _ a1)
  · rcases h' with h' | ⟨g', p', a1, a2, a3, a4⟩
    · exact absurd h2 (h'.2 _ _ h1)
    · have k1 := h4 _ _ a1 a2
      have k2 := a4 _ _ h1 h2
      unfold kle at k1 k2
      omega
theorem BWm.cong {σ : Nat → Int} {lw : Bool} {S S' : Nat → Nat → Prop} {r : Int} (h : BWm σ lw S r) (e : ∀ g p, S g p ↔ S' g p) : BWm σ lw S' r := by
  rcases h with h | ⟨g, p, h1, h2, h3, h4⟩
  · exact Or.inl ⟨h.1, fun g p hs => h.2 g p ((e g p).mpr hs)⟩
  · exact Or.inr ⟨g, p, (e g p).mp h1, h2, h3, fun g' p' hs => h4 g' p' ((e g' p').mpr hs)⟩
theorem FWm.cong {σ : Nat → Int} {lw : Bool} {S S' : Nat → Nat → Prop} {a : Int × Int × Int} (h : FWm σ lw S a) (e : ∀ g p, S g p ↔ S' g p) : FWm σ lw S' a := by
  rcases h with h | ⟨g, p, h1, h2, h3, h4⟩
  · exact Or.inl ⟨h.1, fun g p hs => h.2 g p ((e g p).mpr hs)⟩
  · exact Or.inr ⟨g, p, (e g p).mp h1, h2, h3, fun g' p' hs => h4 g' p' ((e g' p').mpr hs)⟩
theorem FWm.step {σ : Nat → Int} {lw : Bool} {S : Nat → Nat → Prop} {a : Int × Int × Int} (h : FWm σ lw S a) (g p : Nat) (hlt : ∀ g' p', S g' p' → 10 * g' + p' < 10 * g + p) : FWm σ lw (fun g' p' => S g' p' ∨ (g' = g ∧ p' = p)) (bmS σ lw g p a) := by
  unfold bmS
  by_cases c : okM σ lw g p
  · rw [if_neg c]
    rcases h with h | ⟨g0, p0, h1, h2, h3, h4⟩
    · rw [if_neg (fun z => z.1 h.1)]
      refine Or.inr ⟨g, p, Or.inr ⟨rfl, rfl⟩, c, ⟨rfl, rfl, rfl⟩, fun g' p' hs ho => ?_⟩
      rcases hs with hs | ⟨rfl, rfl⟩
      · exact absurd ho (h.2 _ _ hs)
      · exact Or.inr ⟨rfl, Or.inr ⟨rfl, Nat.le_refl _⟩⟩
    · have hl := hlt _ _ h1
      by_cases c2 : a.1 ≠ -1 ∧ (gainZ σ g p < a.2.1 ∨ (gainZ σ g p = a.2.1 ∧ a.2.2 ≤ dwZ σ g p))
      · rw [if_pos c2]
        refine Or.inr ⟨g0, p0, Or.inl h1, h2, h3, fun g' p' hs ho => ?_⟩
        rcases hs with hs | ⟨rfl, rfl⟩
        · exact h4 _ _ hs ho
        · unfold kle
          rw [h3.2.1, h3.2.2] at c2
          have := c2.2
          omega
      · rw [if_neg c2]
        refine Or.inr ⟨g, p, Or.inr ⟨rfl, rfl⟩, c, ⟨rfl, rfl, rfl⟩, fun g' p' hs ho => ?_⟩
        rcases hs with hs | ⟨rfl, rfl⟩
        · have k := h4 _ _ hs ho
          rw [h3.1, h3.2.1, h3.2.2] at c2
          unfold kle at k ⊢
          have c3 : ¬ (gainZ σ g p < gainZ σ g0 p0 ∨ (gainZ σ g p = gainZ σ g0 p0 ∧ dwZ σ g0 p0 ≤ dwZ σ g p)) := fun z => c2 ⟨by omega, z⟩
          omega
        · exact Or.inr ⟨rfl, Or.inr ⟨rfl, Nat.le_refl _⟩⟩
  · rw [if_pos (Classical.not_not.mp c)]
    rcases h with h | ⟨g0, p0, h1, h2, h3, h4⟩
    · refine Or.inl ⟨h.1, fun g' p' hs => ?_⟩
      rcases hs with hs | ⟨rfl, rfl⟩
      · exact h.2 _ _ hs
      · exact c
    · refine Or.inr ⟨g0, p0, Or.inl h1, h2, h3, fun g' p' hs ho => ?_⟩
      rcases hs with hs | ⟨rfl, rfl⟩
      · exact h4 _ _ hs ho
      · exact absurd ho c
theorem bmR_F {σ : Nat → Int} {lw : Bool} {g P : Nat} {a : Int × Int × Int} (hP : P ≤ 4) (h : FWm σ lw (fun g' p' => g' < g ∧ p' < P) a) : ∀ p, p ≤ P → FWm σ lw (fun g' p' => (g' < g ∧ p' < P) ∨ (g' = g ∧ p' < p)) (bmR σ lw g p a)
  | 0, _ => h.cong (fun g' p' => by omega)
  | p + 1, hp => by
    have ih := bmR_F hP h p (by omega)
    refine (ih.step g p (fun g' p' hs => by omega)).cong (fun g' p' => by omega)
theorem bmZ_F {σ : Nat → Int} {lw : Bool} {P : Nat} (hP : P ≤ 4) (e : (σ 2).toNat = P) : ∀ g, FWm σ lw (fun g' p' => g' < g ∧ p' < P) (bmZ σ lw g)
  | 0 => Or.inl ⟨rfl, fun g p hs => by omega⟩
  | g + 1 => by
    have := bmR_F (lw := lw) hP (bmZ_F (lw := lw) hP e g) P (Nat.le_refl _)
    have e2 : bmZ σ lw (g + 1) = bmR σ lw g P (bmZ σ lw g) := by
      show bmR σ lw g (σ 2).toNat (bmZ σ lw g) = _
      rw [e]
    rw [e2]
    exact this.cong (fun g' p' => by omega)
/-- one move more, from behind -/
theorem BWm.step {σ : Nat → Int} {lw : Bool} {S : Nat → Nat → Prop} {r : Int} (h : BWm σ lw S r) {g p : Nat} (hgt : ∀ g' p', S g' p' → 10 * g + p < 10 * g' + p' ∧ p' < 10) :
    (¬ okM σ lw g p → BWm σ lw (fun g' p' => S g' p' ∨ (g' = g ∧ p' = p)) r) ∧
    (okM σ lw g p → (r < 0 ∨ (0 ≤ r ∧ (gainZ σ (r / 10) (r % 10) < gainZ σ g p ∨ (gainZ σ g p = gainZ σ (r / 10) (r % 10) ∧ dwZ σ g p ≤ dwZ σ (r / 10) (r % 10))))) → BWm σ lw (fun g' p' => S g' p' ∨ (g' = g ∧ p' = p)) (10 * (g : Int) + (p : Int))) ∧
    (okM σ lw g p → ¬ r < 0 → ¬ (gainZ σ (r / 10) (r % 10) < gainZ σ g p ∨ (gainZ σ g p = gainZ σ (r / 10) (r % 10) ∧ dwZ σ g p ≤ dwZ σ (r / 10) (r % 10))) → BWm σ lw (fun g' p' => S g' p' ∨ (g' = g ∧ p' = p)) r) := by
  refine ⟨fun c => ?_, fun c hc => ?_, fun c hr hc => ?_⟩
  · rcases h with h | ⟨g0, p0, h1, h2, h3, h4⟩
    · refine Or.inl ⟨h.1, fun g' p' hs => ?_⟩
      rcases hs with hs | ⟨rfl, rfl⟩
      · exact h.2 _ _ hs
      · exact c
    · refine Or.inr ⟨g0, p0, Or.inl h1, h2, h3, fun g' p' hs ho => ?_⟩
      rcases hs with hs | ⟨rfl, rfl⟩
      · exact h4 _ _ hs ho
      · exact absurd ho c
  · refine Or.inr ⟨g, p, Or.inr ⟨rfl, rfl⟩, c, rfl, fun g' p' hs ho => ?_⟩
    rcases hs with hs | ⟨rfl, rfl⟩
    · rcases h with h | ⟨g0, p0, h1, h2, h3, h4⟩
      · exact absurd ho (h.2 _ _ hs)
      · have k := h4 _ _ hs ho
        have hl := hgt _ _ h1
        have hl2 := hgt _ _ hs
        have e1 : r / 10 = (g0 : Int) := by omega
        have e2 : r % 10 = (p0 : Int) := by omega
        rw [e1, e2] at hc
        unfold kle at k ⊢
        omega
    · exact Or.inr ⟨rfl, Or.inr ⟨rfl, Nat.le_refl _⟩⟩
  · rcases h with h | ⟨g0, p0, h1, h2, h3, h4⟩
    · omega
    · refine Or.inr ⟨g0, p0, Or.inl h1, h2, h3, fun g' p' hs ho => ?_⟩
      rcases hs with hs | ⟨rfl, rfl⟩
      · exact h4 _ _ hs ho
      · have hl := hgt _ _ h1
        have e1 : r / 10 = (g0 : Int) := by omega
        have e2 : r % 10 = (p0 : Int) := by omega
        rw [e1, e2] at hc
        unfold kle
        omega
section WON
variable {σ : Nat → Int} {I : Ii} {J : Jj}
theorem w_next {Q : Int → Ii → Jj → Prop} (h : WO σ I) (hq : Q (nxZ σ) I J) : wp_X12_next I J Q := by
  have hM := h.1.1.M
  have hb := h.1.2
  have h2 := ms_2 hM
  have gr := grs_b hM
  have hdz := debtsZ_b hM
  have hP : (σ 2).toNat ≤ 4 := by omega
  generalize hG : (grs σ).toNat = Gn
  generalize hPn : (σ 2).toNat = P at hP
  have gP : (P : Int) = σ 2 := by omega
  have gG : (Gn : Int) = grs σ := by omega
  have hG14 : Gn ≤ 14 := by omega
  have fin : ∀ (lw : Bool) (r : Int), BWm σ lw (fun g p => g < Gn ∧ p < P) r → r = (bmZ σ lw Gn).1 := fun lw r hr => hr.one (bmZ_F hP hPn Gn).to
  -- one pass
  have pass : ∀ (lw : Bool) (l2 : Int) (r15 : Int → Int → Ii → Jj → Prop), l2 = (if lw = true then 0 else 1) → ((bmZ σ lw Gn).1 < 0 → r15 (debtsZ σ) (l2 + 1) I J) → (¬ (bmZ σ lw Gn).1 < 0 → Q (bmZ σ lw Gn).1 I J) → ∃ n : Nat, L_X12_next_30 Q r15 n (debtsZ σ) l2 (-1) (grs σ - 1) I J := by
    intro lw l2 r15 hl2 hneg hpos
    have key30 : ∀ d, d ≤ Gn → ∀ l3 : Int, (-1 ≤ l3 ∧ l3 ≤ 200) → BWm σ lw (fun g p => (d ≤ g ∧ g < Gn) ∧ p < P) l3 → L_X12_next_30 Q r15 (d + 1) (debtsZ σ) l2 l3 ((d : Int) - 1) I J := by
      intro d
      induction d with
      | zero =>
        intro _ l3 hl3 hB
        show Lb_X12_next_30 Q r15 _ (debtsZ σ) l2 l3 _ I J
        unfold Lb_X12_next_30
        have e := fin lw l3 (hB.cong (fun g p => by omega))
        rw [e]
        rw [e] at hl3
        exact ⟨⟨by omega, by omega⟩, fun _ => ⟨⟨by omega, by omega⟩, hneg, hpos⟩, fun c => absurd (by omega) c⟩
      | succ d ih =>
        intro hd l3 hl3 hB
        show Lb_X12_next_30 Q r15 _ (debtsZ σ) l2 l3 _ I J
        unfold Lb_X12_next_30
        generalize hr30 : L_X12_next_30 Q r15 (d + 1) = r30 at ih ⊢
        refine ⟨⟨by omega, by omega⟩, fun c => by omega, fun _ => ?_⟩
        rw [show (((d + 1 : Nat) : Int) - 1) = (d : Int) by omega, h.2.1.1.2.1, ← gP]
        have key43 : ∀ d2, d2 ≤ P → ∀ l3 : Int, (-1 ≤ l3 ∧ l3 ≤ 200) → BWm σ lw (fun g p => ((d + 1 ≤ g ∧ g < Gn) ∧ p < P) ∨ (g = d ∧ d2 ≤ p ∧ p < P)) l3 → L_X12_next_43 Q r15 r30 (d2 + 1) (debtsZ σ) l2 l3 (d : Int) ((d2 : Int) - 1) I J := by
          intro d2
          induction d2 with
          | zero =>
            intro _ l3 hl3 hB
            show Lb_X12_next_43 Q r15 r30 _ (debtsZ σ) l2 l3 (d : Int) _ I J
            unfold Lb_X12_next_43
            refine ⟨⟨by omega, by omega⟩, fun _ => ?_, fun c => absurd (by omega) c⟩
            have := ih (by omega) l3 hl3 (hB.cong (fun g p => by omega))
            rw [show ((d : Int) + -1) = (d : Int) - 1 by omega]
            exact this
          | succ d2 ih2 =>
            intro hd2 l3 hl3 hB
            show Lb_X12_next_43 Q r15 r30 _ (debtsZ σ) l2 l3 (d : Int) _ I J
            unfold Lb_X12_next_43
            generalize hr43 : L_X12_next_43 Q r15 r30 (d2 + 1) = r43 at ih2 ⊢
            rw [show (((d2 + 1 : Nat) : Int) - 1) = (d2 : Int) by omega, show ((d2 : Int) + -1) = (d2 : Int) - 1 by omega]
            have hg1 : ((d : Nat) : Int) < grs σ := by omega
            have hst := hB.step (g := d) (p := d2) (fun g' p' hs => by omega)
            have hset : ∀ r, BWm σ lw (fun g' p' => (((d + 1 ≤ g' ∧ g' < Gn) ∧ p' < P) ∨ (g' = d ∧ d2 + 1 ≤ p' ∧ p' < P)) ∨ (g' = d ∧ p' = d2)) r → (-1 ≤ r ∧ r ≤ 200) → r43 (debtsZ σ) l2 r (d : Int) ((d2 : Int) - 1) I J := fun r hr hrb => ih2 (by omega) r hrb (hr.cong (fun g p => by omega))
            have hgp := h.1.1.gpb (g := (d : Int)) (by omega) hg1
            have hgn := gainZ_b hM (d : Int) (d2 : Int)
            have hdw := dwZ_b hM (d : Int) (d2 : Int)
            have hwm := wmZ_b σ (d : Int) (d2 : Int)
            -- the comparison
            have b103 : gPt σ (d : Int) ≠ (d2 : Int) → okM σ lw d d2 → B_X12_next_103 Q r15 r30 r43 (debtsZ σ) l2 l3 (d : Int) (d2 : Int) I J := by
              intro hne hok
              unfold B_X12_next_103
              rw [show ((d2 : Int) + -1) = (d2 : Int) - 1 by omega]
              refine ⟨⟨by omega, by omega⟩, fun c => hset _ (hst.2.1 hok (Or.inl c)) (by omega), fun c => ?_⟩
              rcases hB with hB0 | ⟨g0, p0, q1, q2, q3, q4⟩
              · omega
              · have e1 : l3 / 10 = (g0 : Int) := by omega
                have e2 : l3 % 10 = (p0 : Int) := by omega
                have hs1 := hst.2.1 hok
                have hs2 := hst.2.2 hok c
                rw [e1, e2] at hs1 hs2
                rw [e1, e2]
                have bg := gainZ_b hM (g0 : Int) (p0 : Int)
                have bd := dwZ_b hM (g0 : Int) (p0 : Int)
                have hg0 : (g0 : Int) < grs σ := by omega
                have hgp0 := h.1.1.gpb (g := (g0 : Int)) (by omega) hg0
                have hne0 : gPt σ (g0 : Int) ≠ (p0 : Int) := fun z => q2 (Or.inl (by unfold wmZ; rw [if_pos z]; omega))
                have gd : ((0 : Int) ≤ l3 ∧ l3 < 2147483648) ∧ ((1 : Int) ≤ 10 ∧ (10 : Int) < 2147483648) := by omega
                refine w_gain h (by omega) hg1 ⟨by omega, by omega⟩ ⟨gd, gd, w_gain h (by omega) hg0 ⟨by omega, by omega⟩ ⟨⟨by omega, by omega⟩, ⟨by omega, by omega⟩, fun c2 => hset _ (hs1 (Or.inr ⟨by omega, Or.inl c2⟩)) (by omega), fun c2 => ?_⟩⟩
                refine w_gain h (by omega) hg1 ⟨by omega, by omega⟩ ⟨gd, gd, w_gain h (by omega) hg0 ⟨by omega, by omega⟩ ⟨⟨by omega, by omega⟩, ⟨by omega, by omega⟩, fun c3 => hset _ (hs2 (by omega)) hl3, fun c3 => ?_⟩⟩
                refine w_debtsIf h (by omega) hg1 (by omega) hne ⟨gd, gd, w_debtsIf h (by omega) hg0 (by omega) hne0 ⟨⟨by omega, by omega⟩, ⟨by omega, by omega⟩, fun c4 => hset _ (hs2 (by omega)) hl3, fun c4 => hset _ (hs1 (Or.inr ⟨by omega, Or.inr ⟨c3, by omega⟩⟩)) (by omega)⟩⟩
            refine ⟨⟨by omega, by omega⟩, fun c => by omega, fun _ => w_partOf h (by omega) hg1 ⟨⟨by omega, by omega⟩, ⟨by omega, by omega⟩, fun c => ?_, fun c => ⟨?_, fun c2 => ?_, fun c2 => ?_⟩⟩⟩
            · have hno : ¬ okM σ lw d d2 := fun z => z (Or.inl (by unfold wmZ; rw [if_pos c]; omega))
              exact hset _ (hst.1 hno) hl3
            · rw [hl2]; split <;> exact ⟨by omega, by omega⟩
            · have hlw : lw = false := by
                cases lw
                · rfl
                · rw [if_pos rfl] at hl2; exact absurd hl2 c2
              refine w_gain h (by omega) hg1 ⟨by omega, by omega⟩ ⟨⟨by omega, by omega⟩, fun c3 => ?_, fun c3 => ?_⟩
              · exact hset _ (hst.1 (fun z => z (Or.inr (Or.inr ⟨hlw, c3⟩)))) hl3
              · refine w_why h (by omega) hg1 (by omega) ⟨⟨by omega, by omega⟩, fun c4 => ?_, fun c4 => ?_⟩
                · refine b103 c (fun z => ?_)
                  rcases z with z | z | z
                  · omega
                  · rw [hlw] at z; cases z.1
                  · exact c3 z.2
                · exact hset _ (hst.1 (fun z => z (Or.inl (by omega)))) hl3
            · have hlw : lw = true := by
                cases lw
                · rw [if_neg (by decide)] at hl2; omega
                · rfl
              refine w_debtsIf h (by omega) hg1 (by omega) c ⟨⟨by omega, by omega⟩, ⟨by omega, by omega⟩, fun c3 => ?_, fun c3 => ?_⟩
              · refine b103 c (fun z => ?_)
                rcases z with z | z | z
                · have hw0 : wmZ σ (d : Int) (d2 : Int) = 0 := by unfold wmZ; rw [if_neg c, if_neg (by omega)]
                  omega
                · omega
                · rw [hlw] at z; cases z.1
              · exact hset _ (hst.1 (fun z => z (Or.inr (Or.inl ⟨hlw, by omega⟩)))) hl3
        exact ⟨_, key43 P (Nat.le_refl _) l3 hl3 (hB.cong (fun g p => by omega))⟩
    refine ⟨Gn + 1, ?_⟩
    rw [← gG]
    exact key30 Gn (Nat.le_refl _) (-1) (by omega) (Or.inl ⟨rfl, fun g p hs => by omega⟩)
  have b1 := (bmZ_b hM true (g := Gn) (by omega)).1
  have b2 := (bmZ_b hM false (g := Gn) (by omega)).1
  unfold nxZ at hq
  rw [hG] at hq
  -- the second pass
  have p1 : (Q (bmZ σ false Gn).1 I J) → ∀ n : Nat, L_X12_next_15 Q (n + 2) (debtsZ σ) 1 I J := by
    intro hq1 n
    show Lb_X12_next_15 Q (L_X12_next_15 Q (n + 1)) (debtsZ σ) 1 I J
    unfold Lb_X12_next_15
    refine ⟨⟨by decide, by decide⟩, fun c => absurd c (by decide), fun _ => w_groups h ?_⟩
    refine pass false 1 (L_X12_next_15 Q (n + 1)) rfl (fun c => ?_) (fun _ => hq1)
    show Lb_X12_next_15 Q (L_X12_next_15 Q n) (debtsZ σ) (1 + 1) I J
    unfold Lb_X12_next_15
    refine ⟨⟨by decide, by decide⟩, fun _ => ?_, fun c => absurd (by decide) c⟩
    rw [show (bmZ σ false Gn).1 = -1 by omega] at hq1
    exact hq1
  unfold wp_X12_next
  refine w_debts h ⟨⟨by omega, by omega⟩, fun c => ?_, fun c => ?_⟩
  · rw [if_neg (by omega)] at hq
    exact ⟨2, p1 hq 0⟩
  · rw [if_pos (by omega)] at hq
    refine ⟨3, ?_⟩
    show Lb_X12_next_15 Q (L_X12_next_15 Q 2) (debtsZ σ) 0 I J
    unfold Lb_X12_next_15
    refine ⟨⟨by decide, by decide⟩, fun c => absurd c (by decide), fun _ => w_groups h ?_⟩
    refine pass true 0 (L_X12_next_15 Q 2) rfl (fun c => ?_) (fun c => ?_)
    · rw [if_pos (by omega)] at hq
      exact p1 hq 0
    · rw [if_neg (by omega)] at hq
      exact hq
end WON
