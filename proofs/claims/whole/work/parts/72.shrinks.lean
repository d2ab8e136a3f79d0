/-! ===== shrinking, the reference ===== -/
/-- the first group of the merged one -/
def repN (σ : Nat → Int) (x : Nat) : Nat := if mateZ σ x ≠ -1 ∧ mateZ σ x < (x : Int) then (mateZ σ x).toNat else x
theorem repN_head {σ : Nat → Int} (hM : MS σ) (x : Nat) : heads σ (repN σ x) := by
  unfold repN
  split
  · rename_i h
    exact (mate_head hM (fun z => z h)).1
  · rename_i h
    exact h
theorem repN_num {σ : Nat → Int} {x : Nat} (hx : x < (grs σ).toNat) : numZ σ (repN σ x) = numZ σ x := by
  unfold repN
  split
  · rename_i h
    exact (numZ_tail hx (fun z => z h)).symm
  · rfl
theorem repN_le {σ : Nat → Int} (x : Nat) : repN σ x ≤ x := by
  unfold repN
  split <;> omega
theorem repN_iff {σ : Nat → Int} (hM : MS σ) {g x : Nat} (hg : heads σ g) : repN σ x = g ↔ (x = g ∨ (mateZ σ g ≠ -1 ∧ (x : Int) = mateZ σ g)) := by
  constructor
  · intro e
    unfold repN at e
    split at e
    · rename_i h
      right
      have ok := (mate_ok hM x).resolve_left h.1
      have hb := ok.2.2.2.2.1
      rw [e] at hb
      exact ⟨by omega, hb.symm⟩
    · exact Or.inl e
  · rintro (e | ⟨e1, e2⟩)
    · subst e
      unfold repN
      rw [if_neg hg]
    · have ok := (mate_ok hM g).resolve_left e1
      have hb := ok.2.2.2.2.1
      have hx : (mateZ σ g).toNat = x := by omega
      rw [hx] at hb
      have hlt : ¬ mateZ σ g < (g : Int) := fun z => hg ⟨e1, z⟩
      unfold repN
      rw [hb, if_pos (by omega)]
      omega
/-- the row while shrinking: the groups below g are numbered, of g the vertices below v -/
def shPr (σ : Nat → Int) (g v : Nat) : Nat → Int := fun i =>
  if (35 + 14 * ((σ 5).toNat + 1) ≤ i ∧ i < 35 + 14 * ((σ 5).toNat + 1) + (σ 0).toNat) ∧ (repN σ (gAt σ (i - (35 + 14 * ((σ 5).toNat + 1)))).toNat < g ∨ (repN σ (gAt σ (i - (35 + 14 * ((σ 5).toNat + 1)))).toNat = g ∧ i - (35 + 14 * ((σ 5).toNat + 1)) < v)) then numZ σ (gAt σ (i - (35 + 14 * ((σ 5).toNat + 1)))).toNat else σ i
theorem shPr_o {σ : Nat → Int} {g v i : Nat} (h : i < 35 + 14 * ((σ 5).toNat + 1) ∨ 35 + 14 * ((σ 5).toNat + 1) + (σ 0).toNat ≤ i) : shPr σ g v i = σ i := by unfold shPr; rw [if_neg (by omega)]
theorem shPr_zero (σ : Nat → Int) : shPr σ 0 0 = σ := by funext i; unfold shPr; rw [if_neg (by omega)]
theorem shPr_end (σ : Nat → Int) (g : Nat) : shPr σ g (σ 0).toNat = shPr σ (g + 1) 0 := by
  funext i
  unfold shPr
  split
  · rw [if_pos (by omega)]
  · rw [if_neg (by omega)]
theorem shPr_skip {σ : Nat → Int} (hM : MS σ) {g : Nat} (h : ¬ heads σ g) : shPr σ g 0 = shPr σ (g + 1) 0 := by
  funext i
  unfold shPr
  have hn : repN σ (gAt σ (i - (35 + 14 * ((σ 5).toNat + 1)))).toNat ≠ g := fun e => h (by rw [← e]; exact repN_head hM _)
  split
  · rw [if_pos (by omega)]
  · rw [if_neg (by omega)]
theorem shPr_succ {σ : Nat → Int} {g v : Nat} (hv : v < (σ 0).toNat) : shPr σ g (v + 1) = if repN σ (gAt σ v).toNat = g then updr (shPr σ g v) (35 + 14 * ((σ 5).toNat + 1) + v) (numZ σ (gAt σ v).toNat) else shPr σ g v := by
  funext i
  by_cases hi : i = 35 + 14 * ((σ 5).toNat + 1) + v
  · subst hi
    split
    · rename_i h
      rw [updr_self]
      unfold shPr
      rw [show 35 + 14 * ((σ 5).toNat + 1) + v - (35 + 14 * ((σ 5).toNat + 1)) = v by omega, if_pos (by omega)]
    · rename_i h
      unfold shPr
      rw [show 35 + 14 * ((σ 5).toNat + 1) + v - (35 + 14 * ((σ 5).toNat + 1)) = v by omega]
      split
      · rw [if_pos (by omega)]
      · rw [if_neg (by omega)]
  · have e : shPr σ g (v + 1) i = shPr σ g v i := by
      unfold shPr
      split
      · rw [if_pos (by omega)]
      · rw [if_neg (by omega)]
    rw [e]
    split
    · rw [updr_ne hi]
    · rfl
theorem shPr_MS {σ : Nat → Int} (hV : VS σ) (h5 : σ 5 < 4) (g v : Nat) : ∀ i, shPr σ g v i = σ i ∨ (35 ≤ i ∧ i < 105 ∧ 0 ≤ shPr σ g v i ∧ shPr σ g v i ≤ 13) := fun i => by
  have hM := hV.M
  have b0 := ms_0 hM
  have b5 := ms_5 hM
  have gr := grs_b hM
  have cb : cntZ σ ≤ 14 := by have := nbZ_cnt σ (grs σ).toNat; unfold cntZ; omega
  by_cases c : 35 + 14 * ((σ 5).toNat + 1) ≤ i ∧ i < 35 + 14 * ((σ 5).toNat + 1) + (σ 0).toNat
  · have hg := hV.g (v := i - (35 + 14 * ((σ 5).toNat + 1))) (by omega)
    have nl := numZ_lt hM (g := (gAt σ (i - (35 + 14 * ((σ 5).toNat + 1)))).toNat) (by omega)
    unfold shPr
    split
    · exact Or.inr ⟨by omega, by omega, by omega, by omega⟩
    · exact Or.inl rfl
  · exact Or.inl (shPr_o (by omega))
theorem shPr_fin {σ : Nat → Int} (hV : VS σ) (h5 : σ 5 < 4) : updr (updr (shPr σ (grs σ).toNat 0) 5 (σ 5 + 1)) (105 + (σ 5).toNat + 1) (cntZ σ : Int) = shZ σ := by
  have hM := hV.M
  have b0 := ms_0 hM
  have b5 := ms_5 hM
  have gr := grs_b hM
  funext i
  by_cases q1 : i = 105 + (σ 5).toNat + 1
  · rw [q1, updr_self, shZ_n hM]
  · rw [updr_ne q1]
    by_cases q2 : i = 5
    · rw [q2, updr_self, shZ_5]
    · rw [updr_ne q2]
      unfold shZ
      rw [if_neg q2, if_neg q1]
      by_cases c : 35 + 14 * ((σ 5).toNat + 1) ≤ i ∧ i < 35 + 14 * ((σ 5).toNat + 1) + (σ 0).toNat
      · rw [if_pos c]
        have hg := hV.g (v := i - (35 + 14 * ((σ 5).toNat + 1))) (by omega)
        have := repN_le (σ := σ) (gAt σ (i - (35 + 14 * ((σ 5).toNat + 1)))).toNat
        unfold shPr
        rw [if_pos ⟨c, Or.inl (by omega)⟩]
      · rw [if_neg c]
        exact shPr_o (by omega)
section SR
variable {I : Ii} {J : Jj}
theorem s_whyShrink (hV : VS (I 2)) : wp_X12_whyShrink I J (fun r _ _ => r = if I 2 5 = 4 then 1 else if pairZ (I 2) = 0 then 2 else 0) := by
  have b5 := ms_5 hV.M
  have gr := grs_b hV.M
  have pn := lmZ_n (I 2) (grs (I 2)).toNat
  have pn' : pairZ (I 2) ≤ (grs (I 2)).toNat := pn
  refine ⟨rgK (by omega), fun c => fr_X12_laysMates (s_laysMates hV) (fun r I' J' h _ => ?_), fun c => by rw [if_pos c]⟩
  rw [h.1, if_neg c]
  refine ⟨rgK (by omega), fun d => by rw [if_neg (by omega)], fun d => by rw [if_pos (by omega)]⟩
theorem s_shrinks' (hV : VS (I 2)) (h5 : I 2 5 < 4) {Q : Int → Ii → Jj → Prop} (hQ : ∀ (I' : Ii) (J' : Jj), I' 2 = shZ (I 2) → Q (cntZ (I 2) : Int) I' J') : wp_X12_shrinks I J Q := by
  have hM := hV.M
  have b0 := ms_0 hM
  have b5 := ms_5 hM
  have gr := grs_b hM
  unfold wp_X12_shrinks
  refine fr_X12_laysMates (s_laysMates hV) (fun r1 I1 J1 h1 s1 => ?_)
  have e2 : I1 2 = I 2 := s1.k
  refine fr_X12_groups (s_groups (by rw [e2]; exact hM)) (fun w hw => ?_)
  rw [e2] at hw ⊢
  subst hw
  have cn := nbZ_cnt (I 2) (grs (I 2)).toNat
  refine ⟨15, loopN (L := fun n (a : Ii × Nat) g => L_X12_shrinks_35 Q n (35 + 14 * I 2 5) (35 + 14 * I 2 5 + 14) (a.2 : Int) (grs (I 2)) g a.1 J1) (fun g a => a.1 2 = shPr (I 2) g 0 ∧ (∀ i, i < 14 → a.1 10 i = mateZ (I 2) i) ∧ a.2 = (nbZ (I 2) g).2) (N := (grs (I 2)).toNat) (fun n g a hg ha k => ?_) 15 0 (I1, 0) (by omega) (by omega) ⟨by rw [shPr_zero]; exact e2, h1.2, rfl⟩⟩
  obtain ⟨a0, a1, a2⟩ := ha
  refine ls_X12_shrinks_35 ?_
  generalize hr : L_X12_shrinks_35 Q n = r at k ⊢
  unfold Lb_X12_shrinks_35
  refine ⟨rgK (by omega), rgK (by omega), fun c I5 e5 => ?_, fun c => ?_⟩
  · have hgn : g = (grs (I 2)).toNat := by omega
    have q5 : a.1 2 5 = I 2 5 := by rw [a0]; exact shPr_o (by omega)
    have r5 : I5 2 5 = I 2 5 + 1 := by rw [e5, up2_self, q5]
    rw [r5]
    refine ⟨by omega, fun I7 e7 => ?_⟩
    have := hQ I7 J1 (by
      rw [e7, up2_row, e5, up2_row, q5, a0, a2, hgn, show (105 + (I 2 5 + 1)).toNat = 105 + (I 2 5).toNat + 1 by omega]
      exact shPr_fin hV h5)
    rw [a2, hgn]
    exact this
  · have nb := nbZ_cnt (I 2) g
    have bm := (mate_ok hM).b hM g
    rw [show ((g : Int)).toNat = g by omega, a1 g (by omega)]
    have inner : heads (I 2) g → ∃ n : Nat, L_X12_shrinks_71 Q r n (35 + 14 * I 2 5) (35 + 14 * I 2 5 + 14) (a.2 : Int) (grs (I 2)) g 0 a.1 J1 := by
      intro hh
      refine ⟨15, loopN (L := fun n2 (b : Ii) v => L_X12_shrinks_71 Q r n2 (35 + 14 * I 2 5) (35 + 14 * I 2 5 + 14) (a.2 : Int) (grs (I 2)) g v b J1) (fun v b => b 2 = shPr (I 2) g v ∧ (∀ i, i < 14 → b 10 i = mateZ (I 2) i)) (N := (I 2 0).toNat) (fun n2 v b hv hb k2 => ?_) 15 0 a.1 (by omega) (by omega) ⟨a0, a1⟩⟩
      obtain ⟨b2, b10⟩ := hb
      refine ls_X12_shrinks_71 ?_
      generalize hr2 : L_X12_shrinks_71 Q r n2 = r2 at k2 ⊢
      unfold Lb_X12_shrinks_71
      have q0 : b 2 0 = I 2 0 := by rw [b2]; exact shPr_o (by omega)
      refine ⟨rgK (by omega), rgK (by omega), fun c2 => ?_, fun c2 => ?_⟩
      · have hvn : v = (I 2 0).toNat := by omega
        have := k (by omega) (b, a.2 + 1) ⟨by show b 2 = _; rw [b2, hvn, shPr_end], b10, by rw [nbZ_succ, if_neg hh, a2]⟩
        rwa [show (((a.2 + 1 : Nat)) : Int) = (a.2 : Int) + 1 by omega] at this
      · have hv' : v < (I 2 0).toNat := by omega
        have hgv := hV.g hv'
        have ef : (35 + 14 * I 2 5 + (v : Int)).toNat = 35 + 14 * (I 2 5).toNat + v := by omega
        have et : (35 + 14 * I 2 5 + 14 + (v : Int)).toNat = 35 + 14 * ((I 2 5).toNat + 1) + v := by omega
        have qv : b 2 (35 + 14 * (I 2 5).toNat + v) = gAt (I 2) v := by rw [b2]; exact shPr_o (by omega)
        rw [ef, qv, show ((g : Int)).toNat = g by omega, b10 g (by omega)]
        have hx : ((gAt (I 2) v).toNat : Int) = gAt (I 2) v := by omega
        have iff := repN_iff hM (x := (gAt (I 2) v).toNat) hh
        have stay : ¬ repN (I 2) (gAt (I 2) v).toNat = g → r2 (35 + 14 * I 2 5) (35 + 14 * I 2 5 + 14) (a.2 : Int) (grs (I 2)) g ((v : Int) + 1) b J1 := fun z => k2 hv' b ⟨by rw [b2, shPr_succ hv', if_neg z], b10⟩
        have put : repN (I 2) (gAt (I 2) v).toNat = g → B_X12_shrinks_126 Q r r2 (35 + 14 * I 2 5) (35 + 14 * I 2 5 + 14) (a.2 : Int) (grs (I 2)) g v b J1 := fun z => by
          unfold B_X12_shrinks_126
          rw [et]
          refine ⟨by omega, fun I21 e21 => k2 hv' I21 ⟨?_, fun i hi => by rw [e21, up2_key (by decide)]; exact b10 i hi⟩⟩
          have hn : numZ (I 2) (gAt (I 2) v).toNat = (a.2 : Int) := by
            rw [← repN_num (σ := I 2) (x := (gAt (I 2) v).toNat) (by omega), z, numZ_head (by omega) hh, a2]
          rw [e21, up2_row, b2, shPr_succ hv', if_pos z, hn]
        refine ⟨by omega, rgK (by omega), rgK (by omega), fun d => put (iff.mpr (Or.inl (by omega))), fun d => ⟨by omega, rgK (by omega), fun d2 => stay (fun z => ?_), fun d2 => ⟨by omega, by omega, fun d3 => stay (fun z => ?_), fun d3 => put (iff.mpr (Or.inr ⟨d2, by omega⟩))⟩⟩⟩
        · rcases iff.mp z with z | z
          · omega
          · exact z.1 d2
        · rcases iff.mp z with z | z
          · omega
          · omega
    refine ⟨by omega, rgK (by omega), fun d => inner (fun z => z.1 d), fun d => ⟨by omega, fun d2 => inner (fun z => by omega), fun d2 => ?_⟩⟩
    have hh : ¬ heads (I 2) g := fun z => z ⟨d, by omega⟩
    exact k (by omega) a ⟨by rw [a0, shPr_skip hM hh], a1, by rw [nbZ_succ, if_pos (Classical.byContradiction hh), a2]⟩
theorem s_shrinks (hV : VS (I 2)) (h5 : I 2 5 < 4) : wp_X12_shrinks I J (fun r I' _ => r = (cntZ (I 2) : Int) ∧ I' 2 = shZ (I 2)) := s_shrinks' hV h5 (fun _ _ h => ⟨rfl, h⟩)
theorem s_grows (hV : VS (I 2)) (h5 : 0 < I 2 5) : wp_X12_grows I J (fun r I' _ => r = grs (updr (I 2) 5 (I 2 5 - 1)) ∧ I' 2 = updr (I 2) 5 (I 2 5 - 1)) := by
  have b5 := ms_5 hV.M
  intro I1 e1
  have e2 : I1 2 = updr (I 2) 5 (I 2 5 - 1) := by rw [e1, up2_row]
  have e5 : I1 2 5 = I 2 5 - 1 := by rw [e2, updr_self]
  refine ⟨by omega, ?_, e2⟩
  rw [← e2]
  unfold grs
  rw [show (105 + I1 2 5).toNat = 105 + (I1 2 5).toNat by omega]
end SR
/-- growing keeps what holds -/
theorem growZ_VS {σ : Nat → Int} (hV : VS σ) (h5 : 0 < σ 5) : VS (updr σ 5 (σ 5 - 1)) := by
  have hM := hV.M
  have b0 := ms_0 hM
  have b5 := ms_5 hM
  have o : ∀ i, i ≠ 5 → updr σ 5 (σ 5 - 1) i = σ i := fun i hi => updr_ne hi
  have e5 : updr σ 5 (σ 5 - 1) 5 = σ 5 - 1 := updr_self _ _ _
  have ol : ∀ l v, gL (updr σ 5 (σ 5 - 1)) l v = gL σ l v := fun l v => o _ (by omega)
  refine ⟨⟨?_, ?_, ?_, ?_, ?_, ?_, ?_, fun w hw => ?_, fun w hw => ?_, fun w hw => ?_, fun w hw => ?_, fun w hw => ?_, fun w hw => ?_, fun w hw => ?_, fun w hw => ?_⟩, ⟨fun e he => ?_, fun e f he hf => ?_⟩, fun v hv => ?_, fun v hv => ?_, ?_, fun l hl => ⟨fun v hv => ?_, fun g h0 h1 => ?_⟩, fun l u v hl hu hv => ?_, fun u v hu hv => ?_⟩
  · rw [o 0 (by omega)]; exact ms_0 hM
  · rw [o 1 (by omega)]; exact ms_1 hM
  · rw [o 2 (by omega)]; exact ms_2 hM
  · rw [o 3 (by omega)]; exact ms_3 hM
  · rw [o 4 (by omega)]; exact ms_4 hM
  · rw [e5]; omega
  · rw [o 6 (by omega)]; exact ms_6 hM
  · rw [o _ (by omega)]; exact ms_w hM w hw
  · rw [o _ (by omega)]; exact ms_p hM w hw
  · rw [o _ (by omega)]; exact ms_g hM w hw
  · rw [o _ (by omega)]; exact ms_n hM w hw
  · rw [o _ (by omega)]; exact ms_a hM w hw
  · rw [o _ (by omega)]; exact ms_b hM w hw
  · rw [o _ (by omega)]; exact ms_h hM w hw
  · rw [o _ (by omega)]; exact ms_e hM w hw
  · rw [o 1 (by omega)] at he
    rw [o 0 (by omega), o _ (by omega), o _ (by omega)]; exact hV.E.1 e he
  · rw [o 1 (by omega)] at he hf
    rw [o _ (by omega), o (110 + f) (by omega), o (150 + e) (by omega), o (150 + f) (by omega)]; exact hV.E.2 e f he hf
  · rw [o 0 (by omega)] at hv
    rw [o _ (by omega), o 2 (by omega)]; exact (hV.p hv).2
  · rw [o 0 (by omega)] at hv
    rw [ol]; exact hV.g0 hv
  · rw [o _ (by omega), o 0 (by omega)]; exact hV.n0
  · rw [e5] at hl
    rw [o 0 (by omega)] at hv
    rw [ol, o _ (by omega)]; exact (hV.L (l := l) (by omega)).1 v hv
  · rw [e5] at hl
    rw [o _ (by omega)] at h1
    obtain ⟨v, hv, e⟩ := (hV.L (l := l) (by omega)).2 g h0 h1
    exact ⟨v, by rw [o 0 (by omega)]; exact hv, by rw [ol]; exact e⟩
  · rw [e5] at hl
    rw [o 0 (by omega)] at hu hv
    rw [ol, ol, ol, ol]; exact hV.nest (by omega) hu hv
  · rw [o 0 (by omega)] at hu hv
    have e1 : ∀ w, gAt (updr σ 5 (σ 5 - 1)) w = gL σ ((σ 5).toNat - 1) w := fun w => by
      show updr σ 5 (σ 5 - 1) (35 + 14 * (updr σ 5 (σ 5 - 1) 5).toNat + w) = _
      rw [e5, o _ (by omega), show (σ 5 - 1).toNat = (σ 5).toNat - 1 by omega]; rfl
    rw [e1, e1, o _ (by omega), o _ (by omega)]
    intro e
    have := hV.nest (l := (σ 5).toNat - 1) (by omega) hu hv e
    rw [show (σ 5).toNat - 1 + 1 = (σ 5).toNat by omega] at this
    exact hV.one hu hv this
theorem growZ_GE (σ : Nat → Int) : GE σ (updr σ 5 (σ 5 - 1)) := fun i hi => updr_ne (by omega)
theorem RS_grow {I I' : Ii} {σ : Nat → Int} (hM : MS σ) (h5 : 0 < σ 5) (hS : RS 300 I σ) (h0 : I' 300 = updr (I 300) 0 (σ 5 - 1)) (h1 : I' 301 = I 301) (h2 : I' 302 = I 302) (h3 : I' 303 = I 303) (h4 : I' 304 = I 304) : RS 300 I' (updr σ 5 (σ 5 - 1)) := by
  have b5 := ms_5 hM
  have o : ∀ i, i ≠ 5 → updr σ 5 (σ 5 - 1) i = σ i := fun i hi => updr_ne hi
  have e5 : updr σ 5 (σ 5 - 1) 5 = σ 5 - 1 := updr_self _ _ _
  have hk : kev (updr σ 5 (σ 5 - 1)) = kev σ := by unfold kev; rw [o 6 (by omega)]
  refine ⟨?_, ?_, ?_, fun v hv => ?_, fun l hl => ?_, fun l v hl hv => ?_, fun i w hi hw => ?_⟩
  · rw [h0, updr_self, e5]
  · rw [h0, updr_ne (by decide), o 4 (by omega)]; exact hS.c
  · rw [h0, updr_ne (by decide), hk]; exact hS.e
  · rw [o 0 (by omega)] at hv
    rw [h1, o _ (by omega)]; exact hS.p hv
  · rw [e5] at hl
    rw [h2, o _ (by omega)]; exact hS.n (by omega)
  · rw [e5] at hl
    rw [o 0 (by omega)] at hv
    rw [h3, hS.g (by omega) hv]; exact (o _ (by omega)).symm
  · rw [hk] at hi
    rw [h4, o 6 (by omega), o _ (by omega)]; exact hS.ev hi hw
