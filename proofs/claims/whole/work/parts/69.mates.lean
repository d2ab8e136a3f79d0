/-! ===== mates ===== -/
/-- one group more is looked at as a mate of g -/
def mbS (σ : Nat → Int) (m : Nat → Int) (g h : Nat) (a : Int × Int) : Int × Int :=
  if m h ≠ -1 ∨ joinZ σ g h ≤ a.2 ∨ gPt σ h ≠ gPt σ g ∨ limZ σ < gW σ g + gW σ h then a else ((h : Int), joinZ σ g h)
def mbZ (σ : Nat → Int) (m : Nat → Int) (g : Nat) : Nat → Int × Int
  | 0 => (-1, 0)
  | d + 1 => mbS σ m g (g + 1 + d) (mbZ σ m g d)
def mtZ (σ : Nat → Int) (m : Nat → Int) (g : Nat) : Int := (mbZ σ m g ((grs σ).toNat - (g + 1))).1
/-- the mates of the groups below g, and how many pairs -/
def lmZ (σ : Nat → Int) : Nat → (Nat → Int) × Nat
  | 0 => (fun _ => -1, 0)
  | g + 1 => if (lmZ σ g).1 g = -1 ∧ mtZ σ (lmZ σ g).1 g ≠ -1 then (updr (updr (lmZ σ g).1 g (mtZ σ (lmZ σ g).1 g)) (mtZ σ (lmZ σ g).1 g).toNat (g : Int), (lmZ σ g).2 + 1) else lmZ σ g
theorem lmZ_succ (σ : Nat → Int) (g : Nat) : lmZ σ (g + 1) = if (lmZ σ g).1 g = -1 ∧ mtZ σ (lmZ σ g).1 g ≠ -1 then (updr (updr (lmZ σ g).1 g (mtZ σ (lmZ σ g).1 g)) (mtZ σ (lmZ σ g).1 g).toNat (g : Int), (lmZ σ g).2 + 1) else lmZ σ g := rfl
def mateZ (σ : Nat → Int) : Nat → Int := (lmZ σ (grs σ).toNat).1
def pairZ (σ : Nat → Int) : Nat := (lmZ σ (grs σ).toNat).2
theorem mbZ_b {σ : Nat → Int} (hM : MS σ) (m : Nat → Int) (g : Nat) : ∀ d, ((mbZ σ m g d).1 = -1 ∨ ((g : Int) < (mbZ σ m g d).1 ∧ (mbZ σ m g d).1 < ((g + 1 + d : Nat) : Int) ∧ m (mbZ σ m g d).1.toNat = -1 ∧ gPt σ (mbZ σ m g d).1 = gPt σ g)) ∧ 0 ≤ (mbZ σ m g d).2 ∧ (mbZ σ m g d).2 ≤ 3960
  | 0 => by
    show ((-1 : Int) = -1 ∨ _) ∧ (0 : Int) ≤ 0 ∧ (0 : Int) ≤ 3960
    exact ⟨Or.inl rfl, by omega, by omega⟩
  | d + 1 => by
    have ih := mbZ_b hM m g d
    have bj := joinZ_b hM (g : Int) ((g + 1 + d : Nat) : Int)
    have e : mbZ σ m g (d + 1) = mbS σ m g (g + 1 + d) (mbZ σ m g d) := rfl
    rw [e]
    unfold mbS
    split
    · refine ⟨?_, ih.2⟩
      rcases ih.1 with h | h
      · exact Or.inl h
      · exact Or.inr ⟨h.1, by omega, h.2.2⟩
    · rename_i c
      refine ⟨Or.inr ⟨?_, ?_, ?_, ?_⟩, by dsimp only; omega, by dsimp only; omega⟩
      · show (g : Int) < ((g + 1 + d : Nat) : Int); omega
      · show ((g + 1 + d : Nat) : Int) < ((g + 1 + (d + 1) : Nat) : Int); omega
      · show m (g + 1 + d) = -1
        exact Classical.byContradiction (fun z => c (Or.inl z))
      · show gPt σ ((g + 1 + d : Nat) : Int) = gPt σ g
        exact Classical.byContradiction (fun z => c (Or.inr (Or.inr (Or.inl z))))
theorem mtZ_b {σ : Nat → Int} (hM : MS σ) (m : Nat → Int) {g : Nat} (hg : (g : Int) < grs σ) : mtZ σ m g = -1 ∨ ((g : Int) < mtZ σ m g ∧ mtZ σ m g < grs σ ∧ m (mtZ σ m g).toNat = -1 ∧ gPt σ (mtZ σ m g) = gPt σ g) := by
  have gr := grs_b hM
  have h := (mbZ_b hM m g ((grs σ).toNat - (g + 1))).1
  rcases h with h | h
  · exact Or.inl h
  · refine Or.inr ⟨h.1, ?_, h.2.2.1, h.2.2.2⟩
    have := h.2.1
    unfold mtZ
    omega
/-- mates are mates of one another, and in one part -/
def Mok (σ : Nat → Int) (m : Nat → Int) : Prop := (∀ g : Nat, m g = -1 ∨ ((g : Int) < grs σ ∧ 0 ≤ m g ∧ m g < grs σ ∧ m g ≠ (g : Int) ∧ m (m g).toNat = (g : Int) ∧ gPt σ (m g) = gPt σ g))
theorem lmZ_ok {σ : Nat → Int} (hM : MS σ) : ∀ {g : Nat}, (g : Int) ≤ grs σ → Mok σ (lmZ σ g).1
  | 0, _ => fun g => Or.inl rfl
  | g + 1, hg => by
    have gr := grs_b hM
    have ih := lmZ_ok hM (g := g) (by omega)
    rw [lmZ_succ]
    split
    · rename_i c
      have hb := (mtZ_b hM (lmZ σ g).1 (g := g) (by omega)).resolve_left c.2
      generalize hT : mtZ σ (lmZ σ g).1 g = T at *
      generalize (lmZ σ g).1 = m at *
      intro x
      show updr (updr m g T) T.toNat (g : Int) x = -1 ∨ ((x : Int) < grs σ ∧ 0 ≤ updr (updr m g T) T.toNat (g : Int) x ∧ updr (updr m g T) T.toNat (g : Int) x < grs σ ∧ updr (updr m g T) T.toNat (g : Int) x ≠ (x : Int) ∧ updr (updr m g T) T.toNat (g : Int) (updr (updr m g T) T.toNat (g : Int) x).toNat = (x : Int) ∧ gPt σ (updr (updr m g T) T.toNat (g : Int) x) = gPt σ x)
      have eT : updr (updr m g T) T.toNat (g : Int) T.toNat = (g : Int) := updr_self _ _ _
      have eg : updr (updr m g T) T.toNat (g : Int) g = T := by rw [updr_ne (by omega), updr_self]
      by_cases q1 : x = T.toNat
      · subst q1
        rw [eT, show ((g : Int)).toNat = g by omega, eg]
        right
        have : ((T.toNat : Nat) : Int) = T := by omega
        rw [this]
        exact ⟨by omega, by omega, by omega, by omega, rfl, hb.2.2.2.symm⟩
      · by_cases q2 : x = g
        · subst q2
          rw [eg, eT]
          exact Or.inr ⟨by omega, by omega, by omega, by omega, rfl, hb.2.2.2⟩
        · have ex : updr (updr m g T) T.toNat (g : Int) x = m x := by rw [updr_ne q1, updr_ne q2]
          rw [ex]
          rcases ih x with h | h
          · exact Or.inl h
          · right
            refine ⟨h.1, h.2.1, h.2.2.1, h.2.2.2.1, ?_, h.2.2.2.2.2⟩
            have n1 : (m x).toNat ≠ T.toNat := fun z => by
              have := h.2.2.2.2.1
              rw [z, hb.2.2.1] at this; omega
            have n2 : (m x).toNat ≠ g := fun z => by
              have := h.2.2.2.2.1
              rw [z, c.1] at this; omega
            rw [updr_ne n1, updr_ne n2]
            exact h.2.2.2.2.1
    · exact ih
theorem Mok.b {σ : Nat → Int} {m : Nat → Int} (h : Mok σ m) (hM : MS σ) (g : Nat) : -1 ≤ m g ∧ m g ≤ 13 := by
  have gr := grs_b hM
  rcases h g with h | h <;> omega
theorem lmZ_n (σ : Nat → Int) : ∀ g, (lmZ σ g).2 ≤ g
  | 0 => Nat.le_refl 0
  | g + 1 => by
    have := lmZ_n σ g
    rw [lmZ_succ]
    split
    · dsimp only; omega
    · omega
section MT
variable {I : Ii} {J : Jj}
theorem s_mateBehind {x : Int} {g : Nat} {m : Nat → Int} (hV : VS (I 2)) (hx : x = (g : Int)) (hg : (g : Int) < grs (I 2)) (hm : ∀ i, i < 14 → I 10 i = m i) (hmb : ∀ i, -1 ≤ m i ∧ m i ≤ 13) : wp_X12_mateBehind x I J (fun r _ _ => r = mtZ (I 2) m g) := by
  have hM := hV.M
  have gr := grs_b hM
  have bl := limZ_b hM
  subst hx
  have e0 : (g : Int) + 1 = ((g + 1 : Nat) : Int) := by omega
  unfold wp_X12_mateBehind
  rw [e0]
  refine ⟨15, loopN (L := fun n (a : Int × Int) v => L_X12_mateBehind_9 (g : Int) _ n a.1 a.2 v I J) (fun v a => g + 1 ≤ v ∧ a = mbZ (I 2) m g (v - (g + 1))) (N := (grs (I 2)).toNat) (fun n v a hv ha k => ?_) 15 (g + 1) (-1, 0) (by omega) (by omega) ⟨by omega, by rw [Nat.sub_self]; rfl⟩⟩
  obtain ⟨hgv, ha⟩ := ha
  refine ls_X12_mateBehind_9 ?_
  generalize hr : L_X12_mateBehind_9 (g : Int) _ n = r at k ⊢
  unfold Lb_X12_mateBehind_9
  have ba := mbZ_b hM m g (v - (g + 1))
  rw [← ha] at ba
  refine fr_X12_groups (s_groups hM) (fun w hw => ?_)
  subst hw
  refine ⟨rgK (by omega), rgK (by omega), fun c => ?_, fun c => ?_⟩
  · rw [ha, show v = (grs (I 2)).toNat by omega]; rfl
  · have bj := joinZ_b hM (g : Int) (v : Int)
    have bm := hmb v
    have bw1 := gW_b hM (g : Int)
    have bw2 := gW_b hM (v : Int)
    have hvv : hasV (I 2) (v : Int) := hV.GV.has hM (by omega) (by omega)
    have hvg : hasV (I 2) (g : Int) := hV.GV.has hM (by omega) (by omega)
    have bp1 := gPt_b hM hvv
    have bp2 := gPt_b hM hvg
    have nx : ∀ a' : Int × Int, a' = mbS (I 2) m g v a → r a'.1 a'.2 ((v : Int) + 1) I J := fun a' e => k (by omega) a' ⟨by omega, by
      rw [e, ha, show v + 1 - (g + 1) = (v - (g + 1)) + 1 by omega]
      show _ = mbS (I 2) m g (g + 1 + (v - (g + 1))) _
      rw [show g + 1 + (v - (g + 1)) = v by omega]⟩
    refine fr_X12_joined (s_joined hM (rgK (by omega)) (rgK (by omega))) (fun j hj => ?_)
    subst hj
    rw [show ((v : Int)).toNat = v by omega, hm v (by omega)]
    refine ⟨by omega, rgK (by omega), fun d => nx a ?_, fun d => ⟨rgK (by omega), rgK (by omega), fun d2 => nx a ?_, fun d2 => ?_⟩⟩
    · unfold mbS; rw [if_pos (Or.inl d)]
    · unfold mbS; rw [if_pos (Or.inr (Or.inl d2))]
    · refine fr_X12_groupPart (s_gPt hM (rgK (by omega)) hvv) (fun p1 hp1 => fr_X12_groupPart (s_gPt hM (rgK (by omega)) hvg) (fun p2 hp2 => ?_))
      subst hp1 hp2
      refine ⟨rgK (by omega), rgK (by omega), fun d3 => nx a ?_, fun d3 => fr_X12_groupWeight (s_groupWeight hM (rgK (by omega))) (fun w1 hw1 => fr_X12_groupWeight (s_groupWeight hM (rgK (by omega))) (fun w2 hw2 => fr_X12_limit (s_limit hM) (fun w3 hw3 => ?_)))⟩
      · unfold mbS; rw [if_pos (Or.inr (Or.inr (Or.inl d3)))]
      · subst hw1 hw2 hw3
        refine ⟨rgK (by omega), rgK (by omega), fun d4 => nx ((v : Int), joinZ (I 2) g v) ?_, fun d4 => nx a ?_⟩
        · unfold mbS; rw [if_neg (by omega)]
        · unfold mbS; rw [if_pos (Or.inr (Or.inr (Or.inr (by omega))))]
theorem s_laysMates' (hV : VS (I 2)) {Q : Int → Ii → Jj → Prop} (hQ : ∀ (r : Int) (I' : Ii), r = (pairZ (I 2) : Int) → (∀ i, i < 14 → I' 10 i = mateZ (I 2) i) → Q r I' J) : wp_X12_laysMates I J Q := by
  have hM := hV.M
  have gr := grs_b hM
  refine ⟨15, loopN (L := fun n (a : Ii) v => L_X12_laysMates_4 Q n 0 v a J) (fun v a => (∀ q, q ≠ 10 → a q = I q) ∧ ∀ i, i < v → a 10 i = -1) (N := 14) (fun n v a hv ha k => ?_) 15 0 I (by omega) (by omega) ⟨fun _ _ => rfl, fun i hi => by omega⟩⟩
  refine ls_X12_laysMates_4 ?_
  unfold Lb_X12_laysMates_4
  refine ⟨rgK (by omega), fun c => ?_, fun c => ⟨by omega, fun I3 e3 => k (by omega) _ ⟨fun q hq => ?_, fun i hi => ?_⟩⟩⟩
  · have h2 : ∀ {b : Ii}, (∀ q, q ≠ 10 → b q = I q) → b 2 = I 2 := fun h => h 2 (by decide)
    refine ⟨15, loopN (L := fun n2 (b : Ii × Nat) g => L_X12_laysMates_25 Q n2 (b.2 : Int) g b.1 J) (fun g b => (∀ q, q ≠ 10 → b.1 q = I q) ∧ (∀ i, i < 14 → b.1 10 i = (lmZ (I 2) g).1 i) ∧ b.2 = (lmZ (I 2) g).2) (N := (grs (I 2)).toNat) (fun n2 g b hg hb k2 => ?_) 15 0 (a, 0) (by omega) (by omega) ⟨ha.1, fun i hi => ha.2 i (by omega), rfl⟩⟩
    obtain ⟨b0, b1, b2⟩ := hb
    have e2 := h2 b0
    have ok := lmZ_ok hM (g := g) (by omega)
    have ln := lmZ_n (I 2) g
    refine ls_X12_laysMates_25 ?_
    unfold Lb_X12_laysMates_25
    refine fr_X12_groups (s_groups (by rw [e2]; exact hM)) (fun w hw => ?_)
    rw [e2] at hw
    subst hw
    refine ⟨rgK (by omega), rgK (by omega), fun c2 => ?_, fun c2 => ?_⟩
    · have hgn : g = (grs (I 2)).toNat := by omega
      exact hQ _ _ (by rw [b2, hgn]; rfl) (fun i hi => by rw [b1 i hi, hgn]; rfl)
    · have bm := ok.b hM g
      rw [show ((g : Int)).toNat = g by omega, b1 g (by omega)]
      have go : ∀ t : Int, (t = -1 ∧ ¬ ((lmZ (I 2) g).1 g = -1 ∧ mtZ (I 2) (lmZ (I 2) g).1 g ≠ -1)) ∨ (t = mtZ (I 2) (lmZ (I 2) g).1 g ∧ (lmZ (I 2) g).1 g = -1) → B_X12_laysMates_52 Q (L_X12_laysMates_25 Q n2) (b.2 : Int) (g : Int) t b.1 J := by
        intro t ht
        have bt : t = -1 ∨ ((g : Int) < t ∧ t < grs (I 2)) := by
          rcases ht with ht | ht
          · exact Or.inl ht.1
          · rcases mtZ_b hM (lmZ (I 2) g).1 (g := g) (by omega) with h | h
            · exact Or.inl (by rw [ht.1]; exact h)
            · exact Or.inr (by rw [ht.1]; exact ⟨h.1, h.2.1⟩)
        unfold B_X12_laysMates_52
        refine ⟨rgK (by omega), fun d => ⟨by omega, fun I12 e12 => ⟨by omega, fun I14 e14 => ?_⟩⟩, fun d => ?_⟩
        · have hc : (lmZ (I 2) g).1 g = -1 ∧ mtZ (I 2) (lmZ (I 2) g).1 g ≠ -1 := by
            rcases ht with ht | ht
            · exact absurd ht.1 d
            · exact ⟨ht.2, by rw [← ht.1]; exact d⟩
          have ht : t = mtZ (I 2) (lmZ (I 2) g).1 g := by
            rcases ht with ht | ht
            · exact absurd ht.1 d
            · exact ht.1
          have := k2 (by omega) (I14, b.2 + 1) ⟨fun q hq => ?_, fun i hi => ?_, ?_⟩
          · rwa [show (((b.2 + 1 : Nat)) : Int) = (b.2 : Int) + 1 by omega] at this
          · show I14 q = I q
            rw [e14, up2_key hq, e12, up2_key hq]; exact b0 q hq
          · show I14 10 i = _
            rw [e14, up2_row, e12, up2_row, lmZ_succ, if_pos hc, ← ht]
            show updr (updr (b.1 10) (g : Int).toNat t) t.toNat (g : Int) i = updr (updr (lmZ (I 2) g).1 g t) t.toNat (g : Int) i
            rw [show ((g : Int)).toNat = g by omega]
            by_cases q : i = t.toNat
            · rw [q, updr_self, updr_self]
            · rw [updr_ne q, updr_ne q]
              by_cases q2 : i = g
              · rw [q2, updr_self, updr_self]
              · rw [updr_ne q2, updr_ne q2]; exact b1 i hi
          · rw [lmZ_succ, if_pos hc, b2]
        · have hc : ¬ ((lmZ (I 2) g).1 g = -1 ∧ mtZ (I 2) (lmZ (I 2) g).1 g ≠ -1) := by
            rcases ht with ht | ht
            · exact ht.2
            · exact fun z => z.2 (by rw [← ht.1]; exact d)
          exact k2 (by omega) b ⟨b0, fun i hi => by rw [lmZ_succ, if_neg hc]; exact b1 i hi, by rw [lmZ_succ, if_neg hc]; exact b2⟩
      refine ⟨by omega, rgK (by omega), fun d => go (-1) (Or.inl ⟨rfl, fun z => d z.1⟩), fun d => ?_⟩
      refine fr_X12_mateBehind (s_mateBehind (m := (lmZ (I 2) g).1) (by rw [e2]; exact hV) rfl (by rw [e2]; omega) b1 (fun i => ok.b hM i)) (fun t ht => go t (Or.inr ⟨?_, d⟩))
      rw [ht, e2]
  · rw [e3, up2_key hq]; exact ha.1 q hq
  · rw [e3, up2_row, show ((v : Int)).toNat = v by omega]
    by_cases q : i = v
    · rw [q, updr_self]
    · rw [updr_ne q]; exact ha.2 i (by omega)
theorem s_laysMates (hV : VS (I 2)) : wp_X12_laysMates I J (fun r I' _ => r = (pairZ (I 2) : Int) ∧ ∀ i, i < 14 → I' 10 i = mateZ (I 2) i) := s_laysMates' hV (fun _ _ h1 h2 => ⟨h1, h2⟩)
end MT
