/-! ===== shrinking and growing ===== -/
section WOH
variable {σ : Nat → Int} {I : Ii} {J : Jj}
theorem lmZ_pair (hM : MS σ) : ∀ g : Nat, (g : Int) ≤ grs σ → ((lmZ σ g).2 = 0 → ∀ k, (lmZ σ g).1 k = -1) ∧ ((lmZ σ g).2 ≠ 0 → ∃ k : Nat, (k : Int) < grs σ ∧ (lmZ σ g).1 k ≠ -1)
  | 0, _ => ⟨fun _ _ => rfl, fun c => absurd rfl c⟩
  | g + 1, hg => by
    have ih := lmZ_pair hM g (by omega)
    rw [lmZ_succ]
    by_cases c : (lmZ σ g).1 g = -1 ∧ mtZ σ (lmZ σ g).1 g ≠ -1
    · rw [if_pos c]
      have hm := (mtZ_b hM (lmZ σ g).1 (g := g) (by omega)).resolve_left c.2
      refine ⟨fun z => absurd z (Nat.succ_ne_zero _), fun _ => ⟨(mtZ σ (lmZ σ g).1 g).toNat, by omega, ?_⟩⟩
      show updr (updr (lmZ σ g).1 g (mtZ σ (lmZ σ g).1 g)) (mtZ σ (lmZ σ g).1 g).toNat (g : Int) _ ≠ -1
      rw [updr_self]
      omega
    · rw [if_neg c]
      exact ih
/-- why there is no shrinking -/
def whyS (σ : Nat → Int) : Int := if σ 5 = 4 then 1 else if pairZ σ = 0 then 2 else 0
theorem w_whyShrink {Q : Int → Ii → Jj → Prop} (h : WO σ I) (hN : 1022 ≤ I 999 0 ∧ I 999 0 ≤ 600000)
    (hq : ∀ I' : Ii, WO σ I' → WF I I' → I' 999 0 ≤ I 999 0 + 1 → Q (whyS σ) I' J) : wp_X12_whyShrink I J Q := by
  have hM := h.1.1.M
  have gr := grs_b hM
  have h5 := ms_5 hM
  have hok := mate_ok hM
  obtain ⟨L, hL⟩ := h.2.2.1
  unfold whyS at hq
  have hpz := lmZ_pair hM (grs σ).toNat (by omega)
  unfold wp_X12_whyShrink
  refine AL_size hL.1 ⟨⟨by omega, by omega⟩, fun c => ?_, fun c => ?_⟩
  · rw [if_neg (by omega)] at hq
    refine w_mates h hN (fun I1 K w1 x1 n1 k1 m1 => ⟨m1.1, ?_⟩)
    have hfin := hq I1 w1 (x1.weaken (fun _ q => q.elim)) (by omega)
    rw [m1.2.1]
    generalize hG : (grs σ).toNat = Gn at *
    have key : ∀ d g : Nat, g + d = Gn → (∀ k : Nat, k < g → mateZ σ k = -1) → L_X12_whyShrink_25 Q (d + 1) K (Gn : Int) (g : Int) I1 J := by
      intro d
      induction d with
      | zero =>
        intro g hg hall
        show Lb_X12_whyShrink_25 Q _ K (Gn : Int) (g : Int) I1 J
        unfold Lb_X12_whyShrink_25
        refine ⟨⟨by omega, by omega⟩, ⟨by omega, by omega⟩, fun _ => ?_, fun c => absurd (by omega) c⟩
        have hall' : ∀ k : Nat, k < Gn → mateZ σ k = -1 := fun k hk => hall k (Nat.lt_of_lt_of_le hk (by omega))
        clear hall
        have hp0 : pairZ σ = 0 := Classical.byContradiction (fun z => (hpz.2 (fun w => z (by unfold pairZ; rw [hG]; exact w))).elim (fun k hk => hk.2 (by
          have := hall' k (by have h1 := hk.1; clear hk; omega)
          unfold mateZ at this
          rw [hG] at this
          exact this)))
        rw [if_pos hp0] at hfin
        exact hfin
      | succ d ih =>
        intro g hg hall
        show Lb_X12_whyShrink_25 Q _ K (Gn : Int) (g : Int) I1 J
        unfold Lb_X12_whyShrink_25
        have mg : -1 ≤ mateZ σ g ∧ mateZ σ g ≤ 13 := by rcases hok g with z | z <;> omega
        rw [Int.toNat_natCast, m1.2.2 g (by omega)]
        refine ⟨⟨by omega, by omega⟩, ⟨by omega, by omega⟩, fun c => by omega, fun _ => ⟨⟨m1.1, by omega, by rw [m1.2.1]; omega⟩, ⟨by omega, by omega⟩, fun c2 => ?_, fun c2 => ?_⟩⟩
        · rw [show ((g : Int) + 1) = ((g + 1 : Nat) : Int) by omega]
          refine ih (g + 1) (by omega) (fun k hk => ?_)
          by_cases z : k = g
          · rw [z]; omega
          · exact hall k (by omega)
        · have hp0 : pairZ σ ≠ 0 := fun z => by
            have := hpz.1 (by unfold pairZ at z; rw [hG] at z; exact z) g
            have e : mateZ σ g = (lmZ σ Gn).1 g := by unfold mateZ; rw [hG]
            omega
          rw [if_neg hp0] at hfin
          exact hfin
    exact ⟨_, key Gn 0 (by omega) (fun k hk => by omega)⟩
  · have := hq I h (WF.rf I) (by omega)
    rw [if_pos (by omega)] at this
    exact this
/-- the vertices of a merged group -/
def hset (σ : Nat → Int) (g : Nat) : Nat := memG σ (g : Int) ||| (if mateZ σ g = -1 then 0 else memG σ (mateZ σ g))
theorem hset_lt (h : WO σ I) (g : Nat) : hset σ g < 2 ^ 10 := by
  have h1 := memG_lt h (g : Int)
  have h2 := memG_lt h (mateZ σ g)
  unfold hset
  refine Nat.or_lt_two_pow (by omega) ?_
  split <;> omega
theorem hset_num (h : WO σ I) (h5 : σ 5 < 4) {g : Nat} (hg : g < (grs σ).toNat) (hh : heads σ g) : mset (shZ σ) ((σ 5).toNat + 1) ((nbZ σ g).2) = hset σ g := by
  have hM := h.1.1.M
  have gr := grs_b hM
  have hb := h.1.2
  have h55 := ms_5 hM
  apply Nat.eq_of_testBit_eq
  intro v
  unfold mset
  rw [bset_bit]
  have e0 : shZ σ 0 = σ 0 := shZ_o hM h5 (by omega)
  rw [e0]
  have hmk := mate_ok hM g
  unfold hset
  rw [Nat.testBit_or]
  by_cases hv : v < (σ 0).toNat
  · have eg : gL (shZ σ) ((σ 5).toNat + 1) v = numZ σ (gAt σ v).toNat := shZ_g hM h5 hv
    have hgv := h.1.1.g hv
    rw [eg]
    have hx : (gAt σ v).toNat < (grs σ).toNat := by omega
    have e1 : (numZ σ (gAt σ v).toNat = ((nbZ σ g).2 : Int)) ↔ ((gAt σ v).toNat = g ∨ (mateZ σ g ≠ -1 ∧ (((gAt σ v).toNat : Nat) : Int) = mateZ σ g)) := by
      rw [← repN_iff hM hh, ← numZ_head hg hh]
      constructor
      · intro e
        have hr := repN_le (σ := σ) (gAt σ v).toNat
        exact numZ_inj (by omega) hg (repN_head hM _) hh (by rw [repN_num hx]; exact e)
      · intro e
        rw [← e, repN_num hx]
    cases c : (memG σ (g : Int)).testBit v
    · have c1 : ¬ gAt σ v = (g : Int) := fun z => by
        rw [(wmem_bit σ (g : Int) v).mpr ⟨hv, z⟩] at c; cases c
      by_cases c2 : mateZ σ g = -1
      · rw [if_pos c2, Nat.zero_testBit]
        simp only [hv, decide_true, Bool.true_and, Bool.or_false]
        exact decide_eq_false (fun z => by
          rcases e1.mp z with w | w
          · omega
          · exact w.1 c2)
      · rw [if_neg c2]
        cases c3 : (memG σ (mateZ σ g)).testBit v
        · have c4 : ¬ gAt σ v = mateZ σ g := fun z => by
            rw [(wmem_bit σ _ v).mpr ⟨hv, z⟩] at c3; cases c3
          simp only [hv, decide_true, Bool.true_and, Bool.or_false]
          exact decide_eq_false (fun z => by
            rcases e1.mp z with w | w
            · omega
            · omega)
        · have c4 := ((wmem_bit σ _ v).mp c3).2
          simp only [hv, decide_true, Bool.true_and, Bool.or_true]
          exact decide_eq_true (e1.mpr (Or.inr ⟨c2, by omega⟩))
    · have c1 := ((wmem_bit σ _ v).mp c).2
      simp only [hv, decide_true, Bool.true_and, Bool.true_or]
      exact decide_eq_true (e1.mpr (Or.inl (by omega)))
  · have f1 : ∀ g9 : Int, (memG σ g9).testBit v = false := fun g9 => by
      cases c : (memG σ g9).testBit v
      · rfl
      · exact absurd ((wmem_bit σ _ v).mp c).1 hv
    rw [f1]
    simp only [hv, decide_false, Bool.false_and, Bool.false_or]
    split
    · rw [Nat.zero_testBit]
    · rw [f1]
theorem w_shrink {Q : Int → Ii → Jj → Prop} (h : WO σ I) (hN : 1022 ≤ I 999 0 ∧ I 999 0 ≤ 500000) (h5 : σ 5 < 4)
    (hq : ∀ I' : Ii, WO (shZ σ) I' → WF I I' → I' 999 0 ≤ I 999 0 + 4 → Q ((cntZ σ : Nat) : Int) I' J) : wp_X12_shrink I J Q := by
  have hM := h.1.1.M
  have gr := grs_b hM
  have hb := h.1.2
  have h55 := ms_5 hM
  have hok := mate_ok hM
  generalize hG : (grs σ).toNat = Gn at *
  have gG : (Gn : Int) = grs σ := by omega
  unfold wp_X12_shrink
  refine w_mates h ⟨by omega, by omega⟩ (fun I1 K w1 x1 n1 k1 m1 => w_groups w1 ⟨⟨⟨by omega, by omega⟩, by omega⟩, fun I4 e4 v5 ev => ?_⟩)
  subst ev
  rw [hG] at m1
  generalize hNe : (I1 999 0).toNat = N
  have hNi : (N : Int) = I1 999 0 := by omega
  have s4 : dS I4 N = 1 ∧ dL I4 N = grs σ := by rw [e4, ← hNe]; exact nwI_s
  have x4 : Ex I1 I4 := by rw [e4]; exact ExW.nw ⟨by omega, by omega⟩
  have e94 : I4 999 0 = I1 999 0 + 1 := by rw [e4]; exact nwI_9 _ _ _ _
  have hKN : K ≠ N := by omega
  -- a store that differs at N alone
  have keepW : ∀ I2 : Ii, (∀ k, k ≠ N → I2 k = I4 k) → WO σ I2 ∧ Ex I1 I2 ∧ I2 999 0 = I1 999 0 + 1 ∧ (dS I2 N = 1 ∧ dL I2 N = grs σ) ∧ MTr I2 K Gn (mateZ σ) := by
    intro I2 o2
    have x2 : Ex I1 I2 := by
      refine ⟨by rw [o2 999 (by omega), e94]; omega, fun k h9 hk => ?_⟩
      have := x4.2 k h9 hk
      refine ⟨fun q => by rw [o2 k (by omega)]; exact this.1 q, ?_⟩
      rw [o2 _ (by omega)]
      exact this.2
    refine ⟨?_, x2, by rw [o2 999 (by omega), e94], ⟨?_, ?_⟩, ?_⟩
    · obtain ⟨hV, hNs, ⟨L, hL⟩, ⟨L2, hE⟩, hDn⟩ := w1
      refine ⟨hV, WNs_keep (by omega) (by omega) hNs x2 (fun _ _ _ q => q), ⟨L, WNl_keep (by omega) hL x2 (fun q => q) (fun q => q) (fun _ _ q => q)⟩, ⟨L2, AL_keep (by omega) hE x2 (Or.inr rfl) (fun q => q) (fun q => q)⟩, ?_⟩
      rw [(x2.2 1020 (by decide) (by omega)).1 (fun q => q), (x2.2 1021 (by decide) (by omega)).1 (fun q => q)]
      exact hDn
    · show I2 (1000000 + N) 0 = 1
      rw [o2 _ (by omega)]; exact s4.1
    · show I2 (1000000 + N) 1 = grs σ
      rw [o2 _ (by omega)]; exact s4.2
    · have hK9 : K ≠ 999 := by omega
      have := ExW.ds x2 hK9 (by omega)
      refine ⟨this.1.trans m1.1, this.2.trans m1.2.1, fun g hg => ?_⟩
      rw [(x2.2 K hK9 (by omega)).1 (fun q => q)]
      exact m1.2.2 g hg
  have key : ∀ d g : Nat, g + d = Gn → ∀ I2 : Ii, (∀ k, k ≠ N → I2 k = I4 k) → (∀ k, k < g → heads σ k → I2 N (nbZ σ k).2 = ((hset σ k : Nat) : Int)) → L_X12_shrink_17 Q (d + 1) K N (((nbZ σ g).2 : Nat) : Int) (g : Int) I2 J := by
    intro d
    induction d with
    | zero =>
      intro g hg I2 o2 m2
      show Lb_X12_shrink_17 Q _ K N _ (g : Int) I2 J
      unfold Lb_X12_shrink_17
      obtain ⟨w2, x2, n2, s2, mt2⟩ := keepW I2 o2
      have hgn : g = Gn := by omega
      subst hgn
      have hc : (nbZ σ g).2 = cntZ σ := by unfold cntZ; rw [hG]
      have hcb := nbZ_cnt σ g
      rw [hc] at hcb ⊢
      rw [mt2.2.1]
      refine ⟨mt2.1, ⟨by omega, by omega⟩, ⟨by omega, by omega⟩, fun _ => ⟨⟨⟨by omega, by omega⟩, by omega⟩, fun I10 e10 v11 ev => ?_⟩, fun c => absurd (by omega) c⟩
      subst ev
      generalize hN3e : (I2 999 0).toNat = N3
      have hN3i : (N3 : Int) = I2 999 0 := by omega
      have s10 : dS I10 N3 = 1 ∧ dL I10 N3 = ((cntZ σ : Nat) : Int) := by rw [e10, ← hN3e]; exact nwI_s
      have x10 : Ex I2 I10 := by rw [e10]; exact ExW.nw ⟨by omega, by omega⟩
      have e910 : I10 999 0 = I2 999 0 + 1 := by rw [e10]; exact nwI_9 _ _ _ _
      have hNN : N ≠ 999 ∧ (N : Int) < I2 999 0 := by omega
      have dN10 := ExW.ds x10 hNN.1 hNN.2
      have iN10 := (x10.2 N hNN.1 hNN.2).1 (fun q => q)
      refine ⟨⟨⟨by rw [dN10.1]; exact s2.1, s10.1⟩, ⟨⟨by decide, by decide⟩, by omega, by omega⟩, by rw [dN10.2, s2.2]; omega, by rw [s10.2]; omega⟩, fun I12 e12 => ?_⟩
      have o12 : ∀ j, j ≠ N3 → I12 j = I10 j := fun j hj => by rw [e12]; exact upr_ne hj
      have i12 : ∀ q, q < cntZ σ → I12 N3 q = I2 N q := fun q hq2 => by
        rw [e12, upr_self, iN10]
        unfold va_cpy
        rw [if_pos ⟨by show 0 ≤ q; omega, by show q < 0 + ((cntZ σ : Nat) : Int).toNat; omega⟩]
        congr 1
        show 0 + (q - 0) = q
        omega
      have x12 : Ex I1 I12 := by
        refine x2.trans (W' := fun _ => False) (x10.trans (W' := fun j => j = N3) (W2 := fun j => False) ⟨by rw [o12 999 (by omega)]; exact Int.le_refl _, fun k _ _ => ⟨fun q => o12 k q, o12 _ (by omega)⟩⟩ (fun _ q => q) (fun k _ hk q => by omega)) (fun _ q => q) (fun _ _ _ q => q)
      have e912 : I12 999 0 = I2 999 0 + 1 := by rw [o12 999 (by omega), e910]
      have s12 : dS I12 N3 = 1 ∧ dL I12 N3 = ((cntZ σ : Nat) : Int) := by
        constructor
        · show I12 (1000000 + N3) 0 = 1
          rw [o12 _ (by omega)]; exact s10.1
        · show I12 (1000000 + N3) 1 = _
          rw [o12 _ (by omega)]; exact s10.2
      obtain ⟨hV, hNs, ⟨L, hL⟩, ⟨L2, hE⟩, hDn⟩ := w1
      have hA12 : ALr I12 1020 ((σ 5).toNat + 1) L := AL_keep (by omega) hL.1 x12 (Or.inl rfl) (fun q => q) (fun q => q)
      refine AL_add (Or.inl rfl) ⟨by omega, by omega⟩ hA12 (by omega) ⟨s12.1, by omega, by omega⟩ (fun I' hA' hx' hn' hk1 => hq I' ?_ ?_ (by omega))
      · have k20 : I12 1020 = I1 1020 := (x12.2 1020 (by decide) (by omega)).1 (fun q => q)
        have k21 : I12 1021 = I1 1021 := (x12.2 1021 (by decide) (by omega)).1 (fun q => q)
        have k21' : I' 1021 = I12 1021 := (hx'.2 1021 (by decide) (by omega)).1 (by omega)
        have o0 : shZ σ 0 = σ 0 := shZ_o hM h5 (by omega)
        have hLk : ∀ l, l ≤ (σ 5).toNat → 1022 ≤ L l ∧ (L l : Int) < I1 999 0 ∧ dS I1 (L l) = 1 := fun l hl => by
          obtain ⟨b1, b2, b3⟩ := hL.1.2.2.2.2.2.1 l (by omega)
          exact ⟨b2.1, b2.2, b3⟩
        -- rows of ints are kept
        have keep1 : ∀ j : Nat, 1022 ≤ j → (j : Int) < I12 999 0 → dS I12 j = 1 → I' j = I12 j ∧ dS I' j = 1 ∧ dL I' j = dL I12 j := fun j j1 j2 j3 => by
          have hd := ExW.ds hx' (k := j) (by omega) j2
          refine ⟨(hx'.2 j (by omega) j2).1 (fun q => ?_), by rw [hd.1]; exact j3, hd.2⟩
          rcases q with q | q
          · omega
          · rw [q.1, hA12.2.2.2.1] at j3; cases j3
        refine ⟨⟨shZ_VS hV.1 h5, by rw [o0]; exact hV.2⟩, ?_, ⟨fun j => if j = (σ 5).toNat + 1 then N3 else L j, ?_, fun l hl => ?_⟩, ⟨L2, ?_⟩, ?_⟩
        · have hN12 : WNs σ I12 := WNs_keep (by omega) (by omega) hNs x12 (fun _ _ _ q => q)
          have hN' : WNs σ I' := WNs_keep (by omega) (by omega) hN12 hx' (fun k z1 z2 q => by omega)
          have o : ∀ i, i < 5 ∨ (5 < i ∧ i < 35) ∨ (110 ≤ i) → shZ σ i = σ i := fun i hi => shZ_o hM h5 (by omega)
          unfold WNs
          rw [o0, o 2 (by omega), o 3 (by omega), o 4 (by omega)]
          exact ⟨hN'.1, fun v hv => by rw [hN'.2.1 v hv, o _ (by omega)], fun v hv => by rw [hN'.2.2.1 v hv, o _ (by omega)], fun a b ha hb2 => by rw [hN'.2.2.2 a b ha hb2, TBz_congr (o 1 (by omega)) (fun i z1 z2 => o i (by omega)) hM]⟩
        · rw [shZ_5, show (σ 5 + 1).toNat = (σ 5).toNat + 1 by omega]
          exact hA'
        · rw [shZ_5, show (σ 5 + 1).toNat = (σ 5).toNat + 1 by omega] at hl
          show dL I' (if l = (σ 5).toNat + 1 then N3 else L l) = shZ σ (105 + l) ∧ ∀ g9 : Nat, (g9 : Int) < shZ σ (105 + l) → I' (if l = (σ 5).toNat + 1 then N3 else L l) g9 = ((mset (shZ σ) l g9 : Nat) : Int)
          by_cases z : l = (σ 5).toNat + 1
          · rw [if_pos z, z, show 105 + ((σ 5).toNat + 1) = 105 + (σ 5).toNat + 1 by omega, shZ_n hM]
            have hk3 := keep1 N3 (by omega) (by omega) s12.1
            refine ⟨by rw [hk3.2.2]; exact s12.2, fun q hq2 => ?_⟩
            rw [hk3.1, i12 q (by omega)]
            obtain ⟨g9, hg9, e9⟩ := numZ_onto hM (c := (q : Int)) (by omega) hq2
            have hr := repN_le (σ := σ) g9
            have hh := repN_head hM (σ := σ) g9
            have hgr : repN σ g9 < (grs σ).toNat := by omega
            have eq : (nbZ σ (repN σ g9)).2 = q := by
              have := numZ_head hgr hh
              rw [repN_num hg9, e9] at this
              omega
            rw [← eq, m2 (repN σ g9) (by omega) hh, hset_num ⟨hV, hNs, ⟨L, hL⟩, ⟨L2, hE⟩, hDn⟩ h5 hgr hh]
          · rw [if_neg z]
            have hl2 : l ≤ (σ 5).toNat := by omega
            have hk := hLk l hl2
            have hold := hL.2 l hl2
            have d12 := ExW.ds x12 (k := L l) (by omega) hk.2.1
            have hk3 := keep1 (L l) hk.1 (by omega) (by rw [d12.1]; exact hk.2.2)
            have ei := (x12.2 (L l) (by omega) hk.2.1).1 (fun q => q)
            rw [shZ_o hM h5 (by omega)]
            refine ⟨by rw [hk3.2.2, d12.2]; exact hold.1, fun g9 hg9 => ?_⟩
            rw [hk3.1, ei, hold.2 g9 hg9]
            congr 1
            unfold mset
            rw [o0]
            refine bset_cong (fun v hv => ?_)
            have eg : gL (shZ σ) l v = gL σ l v := shZ_o hM h5 (by omega)
            rw [eg]
        · rw [shZ_o hM h5 (by omega)]
          have hE12 : ALr I12 1021 (σ 6).toNat L2 := AL_keep (by omega) hE x12 (Or.inr rfl) (fun q => q) (fun q => q)
          refine AL_keep (by omega) hE12 hx' (Or.inr rfl) (by omega) (fun q => ?_)
          rw [k21, k20] at q
          rcases q with q | q
          · rcases hE.2.2.1 with z | z <;> omega
          · have := hE.2.1
            have := hL.1.2.1
            omega
        · rw [k21', k21]
          rcases hk1 with q | q
          · rw [q, k20]; exact hDn
          · have := hE.2.2.1
            omega
      · refine ExW.trans (W' := fun j => j = 1020 ∨ (j = (I12 1020 1).toNat ∧ 1022 ≤ j)) ((x1.trans (W' := fun _ => False) (W2 := fun _ => False) x12 (fun _ q => q) (fun _ _ _ q => q)).weaken (fun _ q => q.elim)) hx' (fun _ q => q) (fun k9 h9 hk q => ?_)
        rcases q with q | q
        · exact Or.inl (by omega)
        · right
          have hx112 := x1.trans (W' := fun _ => False) (W2 := fun _ => False) x12 (fun _ q => q) (fun _ _ _ q => q)
          rw [← (ExW.ds hx112 h9 hk).1, q.1]
          exact hA12.2.2.2.1
    | succ d ih =>
      intro g hg I2 o2 m2
      show Lb_X12_shrink_17 Q _ K N _ (g : Int) I2 J
      unfold Lb_X12_shrink_17
      obtain ⟨w2, x2, n2, s2, mt2⟩ := keepW I2 o2
      generalize hr : L_X12_shrink_17 Q (d + 1) = r17 at ih ⊢
      have hgs : (g : Int) < grs σ := by omega
      have hcb := nbZ_cnt σ g
      have mg : -1 ≤ mateZ σ g ∧ mateZ σ g ≤ 13 ∧ mateZ σ g ≠ (g : Int) ∧ (mateZ σ g ≠ -1 → 0 ≤ mateZ σ g ∧ mateZ σ g < grs σ) := by rcases hok g with z | z <;> omega
      rw [mt2.2.1]
      simp only [Int.toNat_natCast]
      rw [mt2.2.2 g (by omega)]
      have b40 : heads σ g → B_X12_shrink_40 Q r17 K N (((nbZ σ g).2 : Nat) : Int) (g : Int) I2 J := by
        intro hh
        have nx : ∀ I3 : Ii, (∀ k, k ≠ N → I3 k = I4 k) → (∀ k, k < g + 1 → heads σ k → I3 N (nbZ σ k).2 = ((hset σ k : Nat) : Int)) → r17 K N ((((nbZ σ g).2 : Nat) : Int) + 1) ((g : Int) + 1) I3 J := fun I3 o3 m3 => by
          have := ih (g + 1) (by omega) I3 o3 m3
          have e : (nbZ σ (g + 1)).2 = (nbZ σ g).2 + 1 := by rw [nbZ_succ, if_neg hh]
          rw [e] at this
          rw [show ((((nbZ σ g).2 : Nat) : Int) + 1) = (((nbZ σ g).2 + 1 : Nat) : Int) by omega, show ((g : Int) + 1) = ((g + 1 : Nat) : Int) by omega]
          exact this
        have fin : ∀ I3 : Ii, ∀ z : Int, z = ((hset σ g : Nat) : Int) → I3 = up2 I2 N ((((nbZ σ g).2 : Nat) : Int).toNat) z → r17 K N ((((nbZ σ g).2 : Nat) : Int) + 1) ((g : Int) + 1) I3 J := fun I3 z hz e3 => by
          refine nx I3 (fun k hk => by rw [e3, up2_key hk]; exact o2 k hk) (fun k hk hhk => ?_)
          rw [e3, Int.toNat_natCast]
          by_cases zz : k = g
          · rw [zz, up2_self, hz]
          · have hne : (nbZ σ k).2 ≠ (nbZ σ g).2 := fun e => by
              have a1 := numZ_head (σ := σ) (g := k) (by omega) hhk
              have a2 := numZ_head (σ := σ) (g := g) (by omega) hh
              exact zz (numZ_inj (by omega) (by omega) hhk hh (by rw [a1, a2, e]))
            rw [up2_ne (fun q => hne q.2)]
            exact m2 k (by omega) hhk
        unfold B_X12_shrink_40
        refine w_sets w2 (fun K1 b1 b2 b3 b4 => ⟨⟨b1, by omega, by omega⟩, ⟨mt2.1, by omega, by rw [mt2.2.1]; omega⟩, ?_⟩)
        have eg := b4 g hgs
        have mgl := memG_lt w2 (g : Int)
        rw [Int.toNat_natCast, mt2.2.2 g (by omega), eg]
        refine ⟨⟨by omega, by omega⟩, fun c => ?_, fun c => ?_⟩
        · refine w_sets w2 (fun K2 b1' b2' b3' b4' => ?_)
          rw [mt2.2.2 g (by omega)]
          have hmn := mg.2.2.2 (by omega)
          refine ⟨⟨mt2.1, by omega, by rw [mt2.2.1]; omega⟩, ⟨b1', by omega, by omega⟩, ⟨s2.1, by omega, by rw [s2.2]; omega⟩, fun I26 e26 => ?_⟩
          have em := b4' (mateZ σ g).toNat (by omega)
          rw [Int.toNat_of_nonneg hmn.1] at em
          have mml := memG_lt w2 (mateZ σ g)
          refine fin I26 _ ?_ e26
          rw [em, orZ_nat (by omega) (by omega)]
          unfold hset
          rw [if_neg (by omega)]
        · refine ⟨⟨s2.1, by omega, by rw [s2.2]; omega⟩, fun I28 e28 => fin I28 _ ?_ e28⟩
          have := orZ_nat (a := memG σ (g : Int)) (b := 0) (by omega) (by omega)
          rw [show orZ ((memG σ (g : Int) : Nat) : Int) 0 = orZ ((memG σ (g : Int) : Nat) : Int) ((0 : Nat) : Int) from rfl, this]
          unfold hset
          rw [if_pos (by omega)]
      refine ⟨mt2.1, ⟨by omega, by omega⟩, ⟨by omega, by omega⟩, fun c => by omega, fun _ => ⟨⟨mt2.1, by omega, by omega⟩, ⟨by omega, by omega⟩, fun c => b40 (fun z => z.1 (by omega)), fun c => ⟨⟨mt2.1, by omega, by omega⟩, fun c2 => ?_, fun c2 => b40 (fun z => by omega)⟩⟩⟩
      have hnh : mateZ σ g ≠ -1 ∧ mateZ σ g < (g : Int) := by omega
      have := ih (g + 1) (by omega) I2 o2 (fun k hk hhk => by
        by_cases zz : k = g
        · rw [zz] at hhk; exact absurd hnh hhk
        · exact m2 k (by omega) hhk)
      have e : (nbZ σ (g + 1)).2 = (nbZ σ g).2 := by rw [nbZ_succ, if_pos hnh]
      rw [e] at this
      rw [show ((g : Int) + 1) = ((g + 1 : Nat) : Int) by omega]
      exact this
  have := key Gn 0 (by omega) I4 (fun _ _ => rfl) (fun k hk => by omega)
  exact ⟨Gn + 1, this⟩
theorem w_grow {Q : Int → Ii → Jj → Prop} {τ : Nat → Int} (h : WO σ I) (hN : 1022 ≤ I 999 0 ∧ I 999 0 ≤ 600000) (hV : VS τ) (h5 : σ 5 = τ 5 + 1) (h9 : ∀ i, i ≠ 5 → τ i = σ i)
    (hq : ∀ I' : Ii, WO τ I' → WF I I' → I' 999 0 = I 999 0 → Q (grs τ) I' J) : wp_X12_grow I J Q := by
  have t5 := ms_5 hV.M
  obtain ⟨hVS, hNs, ⟨L, hL⟩, ⟨L2, hE⟩, hDn⟩ := h
  unfold wp_X12_grow
  have e5 : (σ 5).toNat = (τ 5).toNat + 1 := by omega
  have hA := hL.1
  rw [e5] at hA
  have hLk : ∀ l, l ≤ (σ 5).toNat → 1022 ≤ L l ∧ (L l : Int) < I 999 0 ∧ dS I (L l) = 1 := fun l hl => by
    obtain ⟨b1, b2, b3⟩ := hL.1.2.2.2.2.2.1 l (by omega)
    exact ⟨b2.1, b2.2, b3⟩
  refine AL_size hA (AL_rem (m := (τ 5).toNat + 1) (Or.inl rfl) ⟨by omega, by omega⟩ hA (by omega) (fun I1 hA1 hx1 hn1 hk1 => ?_))
  have lt : ∀ l v, gL τ l v = gL σ l v := fun l v => h9 _ (by omega)
  have k21 : I1 1021 = I 1021 := (hx1.2 1021 (by decide) (by omega)).1 (by omega)
  have keep1 : ∀ j : Nat, 1022 ≤ j → (j : Int) < I 999 0 → dS I j = 1 → I1 j = I j ∧ dS I1 j = 1 ∧ dL I1 j = dL I j := fun j j1 j2 j3 => by
    have hd := ExW.ds hx1 (k := j) (by omega) j2
    refine ⟨(hx1.2 j (by omega) j2).1 (fun q => ?_), by rw [hd.1]; exact j3, hd.2⟩
    rcases q with q | q
    · omega
    · rw [q.1, hA.2.2.2.1] at j3; cases j3
  have w1 : WO τ I1 := by
    refine ⟨⟨hV, by rw [h9 0 (by decide)]; exact hVS.2⟩, ?_, ⟨L, hA1, fun l hl => ?_⟩, ⟨L2, ?_⟩, ?_⟩
    · have hN1 := WNs_keep hN.1 (by omega) hNs hx1 (fun k z1 z2 q => by omega)
      unfold WNs
      rw [h9 0 (by decide), h9 2 (by decide), h9 3 (by decide), h9 4 (by decide)]
      exact ⟨hN1.1, fun v hv => by rw [hN1.2.1 v hv, h9 _ (by omega)], fun v hv => by rw [hN1.2.2.1 v hv, h9 _ (by omega)], fun a b ha hb2 => by rw [hN1.2.2.2 a b ha hb2, TBz_congr (h9 1 (by decide)) (fun i z1 z2 => h9 i (by omega)) hVS.1.M]⟩
    · have hk := hLk l (by omega)
      have hold := hL.2 l (by omega)
      have hk3 := keep1 (L l) hk.1 hk.2.1 hk.2.2
      rw [h9 _ (by omega)]
      refine ⟨by rw [hk3.2.2]; exact hold.1, fun g9 hg9 => ?_⟩
      rw [hk3.1, hold.2 g9 hg9]
      congr 1
      unfold mset
      rw [h9 0 (by decide)]
      exact bset_cong (fun v _ => by rw [lt])
    · rw [h9 6 (by decide)]
      refine AL_keep hN.1 hE hx1 (Or.inr rfl) (by omega) (fun q => ?_)
      rcases q with q | q
      · rcases hE.2.2.1 with z | z <;> omega
      · have := hE.2.1
        have := hL.1.2.1
        omega
    · rw [hk1, k21]; exact hDn
  have hlast := hLk ((τ 5).toNat + 1) (by omega)
  refine ⟨(keep1 _ hlast.1 hlast.2.1 hlast.2.2).2.1, w_groups w1 (hq I1 w1 ?_ hn1)⟩
  refine hx1.weaken (fun k q => ?_)
  rcases q with q | q
  · exact Or.inl (by omega)
  · right; rw [q.1]; exact hA.2.2.2.1
end WOH
