/-! ===== the class's mates ===== -/
/-- the joins tell the row -/
def JN (σ : Nat → Int) (I : Ii) : Prop := ∀ g h : Nat, (g : Int) < grs σ → (h : Int) < grs σ → g ≠ h → I 121 (14 * g + h) = joinZ σ g h
section PR
variable {I : Ii} {J : Jj} {σ : Nat → Int} {nm : Nat → Int64} {k2 : Nat}
theorem c_join (hk : sK k2) (hV : VS σ) (hR : RG 200 I J σ nm) (hS : RS k2 I σ) : wp_X5_join 200 k2 I J (fun I' _ => JN σ I') := by
  have b0 := ms_0 hV.M
  have b1 := ms_1 hV.M
  have b5 := ms_5 hV.M
  have gr := grs_b hV.M
  have kg := sK_ge hk
  have hm := hR.m
  refine ⟨gK200, hk, fill_of (n := 196) rfl (fun I1 e1 => ⟨hk, ?_⟩)⟩
  have o1 : ∀ q, q ≠ 121 → I1 q = I q := fun q h1 => by rw [e1, upr_ne h1]
  rw [o1 _ (by omega), hS.l]
  refine ⟨41, loopN (L := fun n (a : Ii) v => L_X5_join_16 200 k2 _ n (σ 5 * 14) v a J) (fun v a => (∀ q, q ≠ 121 → a q = I q) ∧ (∀ g h : Nat, (g : Int) < grs σ → (h : Int) < grs σ → g ≠ h → a 121 (14 * g + h) = sm (fun e => if (gAt σ (σ (110 + e)).toNat = g ∧ gAt σ (σ (150 + e)).toNat = h) ∨ (gAt σ (σ (110 + e)).toNat = h ∧ gAt σ (σ (150 + e)).toNat = g) then σ (190 + e) else 0) v)) (N := (σ 1).toNat) (fun n e a he ha kk => ?_) 41 0 I1 (by omega) (by omega) ⟨o1, fun g h hg hh _ => ?_⟩⟩
  · obtain ⟨a0, a1⟩ := ha
    have h0 : a 200 1 = σ 1 := by rw [a0 _ (by decide)]; exact hm
    refine ls_X5_join_16 ?_
    unfold Lb_X5_join_16
    refine ⟨rgK (by omega), rgK (by omega), fun c => ?_, fun c => ?_⟩
    · have hvn : e = (σ 1).toNat := by omega
      subst hvn
      exact a1
    · have he' : e < (σ 1).toNat := by omega
      have ha := hV.a he'
      have hb := hV.b he'
      have hw := hV.w he'
      have r3 : a 203 e = σ (110 + e) := by rw [a0 _ (by decide)]; exact hR.a he'
      have r4 : a 204 e = σ (150 + e) := by rw [a0 _ (by decide)]; exact hR.b he'
      have r5 : a 205 e = σ (190 + e) := by rw [a0 _ (by decide)]; exact hR.h he'
      have ga := hV.g (v := (σ (110 + e)).toNat) (by omega)
      have gb := hV.g (v := (σ (150 + e)).toNat) (by omega)
      refine at_of (n := 40) rfl rfl (by omega) ?_
      rw [r3]
      refine at_of (srX8_3 hk) (i := 14 * (σ 5).toNat + (σ (110 + e)).toNat) (by omega) (by omega) ?_
      rw [a0 _ (by omega), hS.gA (by omega)]
      refine at_of (n := 40) rfl rfl (by omega) ?_
      rw [r4]
      refine at_of (srX8_3 hk) (i := 14 * (σ 5).toNat + (σ (150 + e)).toNat) (by omega) (by omega) ?_
      rw [a0 _ (by omega), hS.gA (by omega)]
      refine at_of (n := 40) rfl rfl (by omega) ?_
      rw [r5]
      have hnx : ∀ (g h : Nat), sm (fun e => if (gAt σ (σ (110 + e)).toNat = g ∧ gAt σ (σ (150 + e)).toNat = h) ∨ (gAt σ (σ (110 + e)).toNat = h ∧ gAt σ (σ (150 + e)).toNat = g) then σ (190 + e) else 0) (e + 1) = sm (fun e => if (gAt σ (σ (110 + e)).toNat = g ∧ gAt σ (σ (150 + e)).toNat = h) ∨ (gAt σ (σ (110 + e)).toNat = h ∧ gAt σ (σ (150 + e)).toNat = g) then σ (190 + e) else 0) e + (if (gAt σ (σ (110 + e)).toNat = g ∧ gAt σ (σ (150 + e)).toNat = h) ∨ (gAt σ (σ (110 + e)).toNat = h ∧ gAt σ (σ (150 + e)).toNat = g) then σ (190 + e) else 0) := fun g h => rfl
      generalize gAt σ (σ (110 + e)).toNat = A at *
      generalize gAt σ (σ (150 + e)).toNat = B at *
      refine add_of (n := 196) rfl (i := 14 * A.toNat + B.toNat) (by omega) (by omega) (fun I10 e10 => ?_)
      refine at_of (n := 40) rfl rfl (by omega) ?_
      have g10 : I10 205 = a 205 := by rw [e10, up2_key (by decide)]
      rw [g10, r5]
      refine add_of (n := 196) rfl (i := 14 * B.toNat + A.toNat) (by omega) (by omega) (fun I12 e12 => ?_)
      refine kk he' I12 ⟨fun q hq => by rw [e12, up2_key hq, e10, up2_key hq]; exact a0 q hq, fun g h hg hh hne => ?_⟩
      rw [hnx, ← a1 g h hg hh hne, e12, up2_row]
      have e10' : I10 121 = updr (a 121) (14 * A.toNat + B.toNat) (a 121 (14 * A.toNat + B.toNat) + σ (190 + e)) := by rw [e10, up2_row]
      by_cases q1 : 14 * g + h = 14 * B.toNat + A.toNat
      · rw [q1, updr_self, e10', updr_ne (by omega), if_pos (by omega)]
      · rw [updr_ne q1, e10']
        by_cases q2 : 14 * g + h = 14 * A.toNat + B.toNat
        · rw [q2, updr_self, if_pos (by omega)]
        · rw [updr_ne q2, if_neg (by omega)]; omega
  · rw [e1, upr_self, filR_lt (by omega)]; rfl
theorem c_mateBehind {x : Int} {g : Nat} {m : Nat → Int} (hV : VS σ) (hE : ME σ I) (hJ : JN σ I) (hx : x = (g : Int)) (hg : (g : Int) < grs σ) (hm : ∀ i, i < 14 → I 122 i = m i) (hmb : ∀ i, -1 ≤ m i ∧ m i ≤ 13) : wp_X5_mateBehind x I J (fun r _ _ => r = mtZ σ m g) := by
  have hM := hV.M
  have gr := grs_b hM
  have bl := limZ_b hM
  have b2 := ms_2 hM
  obtain ⟨e0, e1, e2, e3, e4, e5, e6, e7, e8⟩ := hE
  subst hx
  have q0 : (g : Int) + 1 = ((g + 1 : Nat) : Int) := by omega
  unfold wp_X5_mateBehind
  rw [q0]
  refine ⟨15, loopN (L := fun n (a : Int × Int) v => L_X5_mateBehind_10 (g : Int) _ n a.1 a.2 v I J) (fun v a => g + 1 ≤ v ∧ a = mbZ σ m g (v - (g + 1))) (N := (grs σ).toNat) (fun n v a hv ha k => ?_) 15 (g + 1) (-1, 0) (by omega) (by omega) ⟨by omega, by rw [Nat.sub_self]; rfl⟩⟩
  obtain ⟨hgv, ha⟩ := ha
  refine ls_X5_mateBehind_10 ?_
  generalize hr : L_X5_mateBehind_10 (g : Int) _ n = r at k ⊢
  unfold Lb_X5_mateBehind_10
  have ba := mbZ_b hM m g (v - (g + 1))
  rw [← ha] at ba
  refine ⟨rgK (by omega), rgK (by omega), fun c => ?_, fun c => ?_⟩
  · rw [ha, show v = (grs σ).toNat by omega]; rfl
  · have bj := joinZ_b hM (g : Int) (v : Int)
    have bm := hmb v
    have bw1 := gW_b hM (g : Int)
    have bw2 := gW_b hM (v : Int)
    have bp1 := hV.gpb (g := (v : Int)) (by omega) (by omega)
    have bp2 := hV.gpb (g := (g : Int)) (by omega) hg
    have nx : ∀ a' : Int × Int, a' = mbS σ m g v a → r a'.1 a'.2 ((v : Int) + 1) I J := fun a' e => k (by omega) a' ⟨by omega, by
      rw [e, ha, show v + 1 - (g + 1) = (v - (g + 1)) + 1 by omega]
      show _ = mbS σ m g (g + 1 + (v - (g + 1))) _
      rw [show g + 1 + (v - (g + 1)) = v by omega]⟩
    refine at_of (n := 14) rfl rfl (by omega) (at_of (n := 14) rfl rfl (by omega) (at_of (n := 14) rfl rfl (by omega) ?_))
    rw [(e6 g hg).2.1, (e6 v (by omega)).2.1, hm v (by omega)]
    refine ⟨rgK (by omega), fun d => nx a ?_, fun d => at_of (n := 14) rfl rfl (by omega) (at_of (n := 14) rfl rfl (by omega) ?_)⟩
    · unfold mbS; rw [if_pos (Or.inl d)]
    · rw [(e6 g hg).2.2, (e6 v (by omega)).2.2]
      refine ⟨rgK (by omega), rgK (by omega), fun d3 => nx a ?_, fun d3 => ⟨rgK (by omega), rgK (by omega), fun d4 => nx a ?_, fun d4 => at_of (n := 196) rfl (i := 14 * g + v) (by omega) (by omega) ?_⟩⟩
      · unfold mbS; rw [if_pos (Or.inr (Or.inr (Or.inl d3)))]
      · unfold mbS; rw [if_pos (Or.inr (Or.inr (Or.inr (by omega))))]
      · rw [hJ g v hg (by omega) (by omega)]
        refine ⟨rgK (by omega), rgK (by omega), fun d2 => nx a ?_, fun d2 => at_of (n := 196) rfl (i := 14 * g + v) (by omega) (by omega) ?_⟩
        · unfold mbS; rw [if_pos (Or.inr (Or.inl d2))]
        · rw [hJ g v hg (by omega) (by omega)]
          refine nx ((v : Int), joinZ σ g v) ?_
          unfold mbS; rw [if_neg (by omega)]
/-- the pairs tell the mates -/
def PA (σ : Nat → Int) (I : Ii) : Prop := I 120 4 = (if pairZ σ = 0 then 0 else 1) ∧ ∀ i, i < 14 → I 122 i = mateZ σ i
theorem c_findMates (hV : VS σ) (hE : ME σ I) (hJ : JN σ I) : wp_X5_findMates I J (fun I' _ => PA σ I') := by
  have hM := hV.M
  have gr := grs_b hM
  have e0 := hE.1
  refine fill_of (n := 14) rfl (fun I1 e1 I2 e2 => ?_)
  have o2 : ∀ q, q ≠ 122 → q ≠ 120 → I2 q = I q := fun q h1 h2 => by rw [e2, up2_key h2, e1, upr_ne h1]
  refine ⟨15, loopN (L := fun n2 (b : Ii) g => L_X5_findMates_15 _ n2 g b J) (fun g b => (∀ q, q ≠ 122 → q ≠ 120 → b q = I q) ∧ (∀ i, i < 14 → b 122 i = (lmZ σ g).1 i) ∧ b 120 4 = (if (lmZ σ g).2 = 0 then 0 else 1)) (N := (grs σ).toNat) (fun n2 g b hg hb k2 => ?_) 15 0 I2 (by omega) (by omega) ⟨o2, fun i hi => ?_, ?_⟩⟩
  · obtain ⟨b0, b1, b2⟩ := hb
    have ok := lmZ_ok hM (g := g) (by omega)
    have h0 : b 113 0 = grs σ := by rw [b0 _ (by decide) (by decide)]; exact e0
    refine ls_X5_findMates_15 ?_
    generalize hr : L_X5_findMates_15 _ n2 = r at k2 ⊢
    unfold Lb_X5_findMates_15
    refine ⟨rgK (by omega), rgK (by omega), fun c2 => ?_, fun c2 => ?_⟩
    · have hgn : g = (grs σ).toNat := by omega
      exact ⟨by rw [b2, hgn]; rfl, fun i hi => by rw [b1 i hi, hgn]; rfl⟩
    · have bm := ok.b hM g
      have go : ∀ t : Int, (t = -1 ∧ ¬ ((lmZ σ g).1 g = -1 ∧ mtZ σ (lmZ σ g).1 g ≠ -1)) ∨ (t = mtZ σ (lmZ σ g).1 g ∧ (lmZ σ g).1 g = -1) → B_X5_findMates_45 (fun I' _ => PA σ I') r (g : Int) t b J := by
        intro t ht
        have bt : t = -1 ∨ ((g : Int) < t ∧ t < grs σ) := by
          rcases ht with ht | ht
          · exact Or.inl ht.1
          · rcases mtZ_b hM (lmZ σ g).1 (g := g) (by omega) with h | h
            · exact Or.inl (by rw [ht.1]; exact h)
            · exact Or.inr (by rw [ht.1]; exact ⟨h.1, h.2.1⟩)
        unfold B_X5_findMates_45
        refine ⟨rgK (by omega), fun d => ?_, fun d => ?_⟩
        · have hc : ¬ ((lmZ σ g).1 g = -1 ∧ mtZ σ (lmZ σ g).1 g ≠ -1) := by
            rcases ht with ht | ht
            · exact ht.2
            · exact fun z => z.2 (by rw [← ht.1]; exact d)
          exact k2 (by omega) b ⟨b0, fun i hi => by rw [lmZ_succ, if_neg hc]; exact b1 i hi, by rw [lmZ_succ, if_neg hc]; exact b2⟩
        · have hc : (lmZ σ g).1 g = -1 ∧ mtZ σ (lmZ σ g).1 g ≠ -1 := by
            rcases ht with ht | ht
            · exact absurd ht.1 d
            · exact ⟨ht.2, by rw [← ht.1]; exact d⟩
          have ht : t = mtZ σ (lmZ σ g).1 g := by
            rcases ht with ht | ht
            · exact absurd ht.1 d
            · exact ht.1
          refine put_of (n := 14) rfl rfl (by omega) (fun I9 e9 => put_of (n := 14) rfl (i := t.toNat) (by omega) (by omega) (fun I10 e10 I11 e11 => ?_))
          refine k2 (by omega) I11 ⟨fun q h1 h2 => ?_, fun i hi => ?_, ?_⟩
          · rw [e11, up2_key h2, e10, up2_key h1, e9, up2_key h1]; exact b0 q h1 h2
          · rw [e11, up2_key (by decide), e10, up2_row, e9, up2_row, lmZ_succ, if_pos hc, ← ht]
            show updr (updr (b 122) g t) t.toNat (g : Int) i = updr (updr (lmZ σ g).1 g t) t.toNat (g : Int) i
            by_cases q : i = t.toNat
            · rw [q, updr_self, updr_self]
            · rw [updr_ne q, updr_ne q]
              by_cases q2 : i = g
              · rw [q2, updr_self, updr_self]
              · rw [updr_ne q2, updr_ne q2]; exact b1 i hi
          · rw [e11, up2_self, lmZ_succ, if_pos hc, if_neg (by omega)]
      refine at_of (n := 14) rfl rfl (by omega) ?_
      rw [b1 g (by omega)]
      refine ⟨rgK (by omega), fun d => go (-1) (Or.inl ⟨rfl, fun z => d z.1⟩), fun d => ?_⟩
      have hEb : ME σ b := by
        unfold ME
        rw [b0 _ (by decide) (by decide), b0 114 (by decide) (by decide), b0 115 (by decide) (by decide), b0 116 (by decide) (by decide), b0 117 (by decide) (by decide), b0 118 (by decide) (by decide), b0 119 (by decide) (by decide)]
        exact hE
      have hJb : JN σ b := by
        unfold JN
        rw [b0 _ (by decide) (by decide)]
        exact hJ
      exact fr_X5_mateBehind (c_mateBehind (m := (lmZ σ g).1) hV hEb hJb rfl (by omega) b1 (fun i => ok.b hM i)) (fun t ht => go t (Or.inr ⟨ht, d⟩))
  · rw [e2, up2_key (by decide), e1, upr_self, filR_lt hi]; rfl
  · rw [e2, up2_self]; rfl
theorem ME.fr {l : List (Nat × Nat)} {I' : Ii} {J' : Jj} (h : ME σ I) (hs : Same (WL l) I J I' J') (hn : ([113, 114, 115, 116, 117, 118, 119].all (fun q => !wlk l q)) = true := by rfl) : ME σ I' := by
  unfold ME
  rw [hs.k (all_not hn (q := 113) (by simp)), hs.k (all_not hn (q := 114) (by simp)), hs.k (all_not hn (q := 115) (by simp)), hs.k (all_not hn (q := 116) (by simp)), hs.k (all_not hn (q := 117) (by simp)), hs.k (all_not hn (q := 118) (by simp)), hs.k (all_not hn (q := 119) (by simp))]
  exact h
theorem c_findPairs (hV : VS σ) (hR : RG 200 I J σ nm) (hS : RS 300 I σ) : wp_X11_findPairs I J (fun I' _ => ME σ I' ∧ PA σ I') := by
  refine fr_X4_take (c_take sK300 hV hR hS) (fun I3 J3 hE s3 => ?_)
  refine fr_X5_join (c_join sK300 hV (hR.fr s3) (hS.fr s3)) (fun I4 J4 hJ s4 => ?_)
  have hE4 : ME σ I4 := hE.fr s4
  exact fr_X5_findMates (c_findMates hV hE4 hJ) (fun I5 J5 hP s5 => ⟨hE4.fr s5, hP⟩)
end PR
