/-! ===== what the world changes: what stays ===== -/
/-- the world's own rows and lists, no more -/
def WF (I I' : Ii) : Prop := ExW (fun k => (1000 ≤ k ∧ k < 1022) ∨ dS I k = 3) I I'
theorem WF.rf (I : Ii) : WF I I := ExW.rf I
theorem WF.trans {I I1 I2 : Ii} (h : WF I I1) (h' : WF I1 I2) : WF I I2 := by
  refine ExW.trans h h' (fun _ q => q) (fun k h9 hk q => ?_)
  rcases q with q | q
  · exact Or.inl q
  · exact Or.inr (by rw [← (ExW.ds h h9 hk).1]; exact q)
theorem AL_keep {W : Nat → Prop} {I I' : Ii} {k m : Nat} {L : Nat → Nat} (hN : 1022 ≤ I 999 0) (hA : ALr I k m L) (hx : ExW W I I') (hk : isAK k) (hwk : ¬ W k) (hwD : ¬ W (I k 1).toNat) : ALr I' k m L := by
  obtain ⟨a1, a2, a3, a4, a5, a6, a7⟩ := hA
  have hk9 : k ≠ 999 ∧ (k : Int) < I 999 0 := by rcases hk with rfl | rfl <;> omega
  have ek := (hx.2 k hk9.1 hk9.2).1 hwk
  have hD : (I k 1).toNat ≠ 999 ∧ (((I k 1).toNat : Nat) : Int) < I 999 0 := by rcases a3 with c | c <;> omega
  have eD := (hx.2 _ hD.1 hD.2).1 hwD
  have sD := ExW.ds hx hD.1 hD.2
  have s930 := ExW.ds hx (k := 930) (by decide) (by omega)
  have h9 := hx.1
  unfold ALr
  rw [ek, eD, sD.1, sD.2, s930.2]
  refine ⟨a1, a2, ?_, a4, a5, fun j hj => ?_, a7⟩
  · rcases a3 with c | c
    · exact Or.inl c
    · exact Or.inr ⟨c.1, by omega, c.2.2⟩
  · obtain ⟨b1, b2, b3⟩ := a6 j hj
    exact ⟨b1, ⟨b2.1, by omega⟩, by rw [(ExW.ds hx (by omega) b2.2).1]; exact b3⟩
theorem WNs_keep {W : Nat → Prop} {σ : Nat → Int} {I I' : Ii} (hN : 1022 ≤ I 999 0) (h0 : σ 0 ≤ 10) (h : WNs σ I) (hx : ExW W I I') (hw : ∀ k, 1000 ≤ k → k < 1020 → ¬ W k) : WNs σ I' := by
  have e : ∀ k, 1000 ≤ k → k < 1020 → I' k = I k := fun k h1 h2 => (hx.2 k (by omega) (by omega)).1 (hw k h1 h2)
  unfold WNs
  rw [e 1000 (by omega) (by omega), e 1001 (by omega) (by omega), e 1002 (by omega) (by omega)]
  exact ⟨h.1, h.2.1, h.2.2.1, fun a b ha hb => by rw [e (1006 + a) (by omega) (by omega)]; exact h.2.2.2 a b ha hb⟩
theorem WNl_keep {W : Nat → Prop} {σ : Nat → Int} {I I' : Ii} {L : Nat → Nat} (hN : 1022 ≤ I 999 0) (h : WNl σ I L) (hx : ExW W I I') (hw : ¬ W 1020) (hwD : ¬ W (I 1020 1).toNat) (hwL : ∀ l, l ≤ (σ 5).toNat → ¬ W (L l)) : WNl σ I' L := by
  refine ⟨AL_keep hN h.1 hx (Or.inl rfl) hw hwD, fun l hl => ?_⟩
  obtain ⟨b1, b2, b3⟩ := h.1.2.2.2.2.2.1 l (by omega)
  have e := (hx.2 (L l) (by omega) b2.2).1 (hwL l hl)
  rw [(ExW.ds hx (by omega) b2.2).2, e]
  exact h.2 l hl
/-- the groups now, by the lists alone -/
theorem w_setsL {σ : Nat → Int} {I : Ii} {J : Jj} {L : Nat → Nat} {Q : Nat → Ii → Jj → Prop} (h : WNl σ I L) (hq : dS I (L (σ 5).toNat) = 1 → dL I (L (σ 5).toNat) = grs σ → (∀ g : Nat, (g : Int) < grs σ → I (L (σ 5).toNat) g = ((memG σ (g : Int) : Nat) : Int)) → Q (L (σ 5).toNat) I J) : wp_X12_sets I J Q := by
  unfold wp_X12_sets
  refine AL_size h.1 (AL_get h.1 ⟨by omega, by omega⟩ ?_)
  rw [show ((((σ 5).toNat + 1 : Nat) : Int) - 1).toNat = (σ 5).toNat by omega]
  have hl := h.2 (σ 5).toNat (Nat.le_refl _)
  have ha := h.1.2.2.2.2.2.1 (σ 5).toNat (by omega)
  exact ⟨ha.2.2, hq ha.2.2 hl.1 hl.2⟩
section WOC
variable {σ : Nat → Int} {I : Ii} {J : Jj}
theorem mset_congr {σ τ : Nat → Int} (h0 : τ 0 = σ 0) (hg : ∀ l v, l ≤ 4 → v < 14 → gL τ l v = gL σ l v) (hM : MS σ) {l g : Nat} (hl : l ≤ 4) : mset τ l g = mset σ l g := by
  have b := ms_0 hM
  unfold mset
  rw [h0]
  exact bset_cong (fun v hv => by rw [hg l v hl (by omega)])
theorem TBz_congr {σ τ : Nat → Int} (h1 : τ 1 = σ 1) (h : ∀ i, 110 ≤ i → i < 230 → τ i = σ i) (hM : MS σ) (a b : Nat) : TBz τ a b = TBz σ a b := by
  have := ms_1 hM
  unfold TBz
  rw [h1]
  refine sm_cong (fun e he => ?_)
  rw [h (110 + e) (by omega) (by omega), h (150 + e) (by omega) (by omega), h (190 + e) (by omega) (by omega)]
/-- a group comes to a part -/
theorem w_comes {Q : Int → Ii → Jj → Prop} (h : WO σ I) (hN : 1022 ≤ I 999 0 ∧ I 999 0 ≤ 600000) (h6 : σ 6 ≤ 190) {g p : Int} (g0 : 0 ≤ g) (g1 : g < grs σ) (p0 : 0 ≤ p ∧ p < σ 2) 
    (hq : ∀ I' : Ii, WO (comesZ σ g p) I' → WF I I' → I' 999 0 ≤ I 999 0 + 2 → Q (if gPt σ g = p then 0 else 1) I' J) : wp_X12_comes g p I J Q := by
  have hb := h.1.2
  have h2 := ms_2 h.1.1.M
  have hgp := h.1.1.gpb g0 g1
  have h66 := ms_6 h.1.1.M
  have h55 := ms_5 h.1.1.M
  unfold wp_X12_comes
  refine w_partOf h g0 g1 ⟨⟨by omega, by omega⟩, ⟨by omega, by omega⟩, fun c => ?_, fun c => ?_⟩
  · have hV' := VS_comes h.1.1 ⟨g0, g1⟩ p0 (by omega)
    rw [if_neg c] at hq
    obtain ⟨hV, hNs, ⟨L, hL⟩, ⟨L2, hE⟩, hDn⟩ := h
    have hgl : ∀ l v, l ≤ 4 → v < 14 → gL (comesZ σ g p) l v = gL σ l v := fun l v hl hv => gL_congr (fun i h1 h2 => comesZ_o (by omega) (by omega)) hl hv
    have c0 : comesZ σ g p 0 = σ 0 := comesZ_o (by omega) (by omega)
    have c5 : comesZ σ g p 5 = σ 5 := comesZ_o (by omega) (by omega)
    have cp : ∀ u, u < (σ 0).toNat → comesZ σ g p (21 + u) = mvR σ g p (σ 0).toNat (21 + u) := fun u hu => by
      rw [comesZ_p hV.1.M hu hV.1.un, mvR_v hu]
    have hLk : ∀ l, l ≤ (σ 5).toNat → 1022 ≤ L l ∧ (L l : Int) < I 999 0 ∧ dS I (L l) = 1 := fun l hl => by
      obtain ⟨b1, b2, b3⟩ := hL.1.2.2.2.2.2.1 l (by omega)
      exact ⟨b2.1, b2.2, b3⟩
    have key : ∀ d v : Nat, v + d = (σ 0).toNat → ∀ I1 : Ii, (∀ k, k ≠ 1002 → I1 k = I k) → (∀ u, u < (σ 0).toNat → I1 1002 u = mvR σ g p v (21 + u)) → L_X12_comes_16 g p Q (d + 1) (gPt σ g) (v : Int) I1 J := by
      intro d
      induction d with
      | zero =>
        intro v hv I1 o1 m1
        show Lb_X12_comes_16 g p Q _ (gPt σ g) (v : Int) I1 J
        unfold Lb_X12_comes_16
        have n1 : I1 1000 0 = (((σ 0).toNat : Nat) : Int) := by rw [o1 1000 (by decide), hNs.1.1]; omega
        have x1 : ExW (fun k => k = 1002) I I1 := ⟨by rw [o1 999 (by decide)]; exact Int.le_refl _, fun k _ _ => ⟨fun q => o1 k q, o1 _ (by omega)⟩⟩
        have e9 : I1 999 0 = I 999 0 := by rw [o1 999 (by decide)]
        rw [n1]
        refine ⟨⟨by omega, by omega⟩, ⟨by omega, by omega⟩, fun _ => ⟨⟨⟨by decide, by decide⟩, by omega⟩, fun I7 e7 v8 ev => ?_⟩, fun cc => absurd (by omega) cc⟩
        subst ev
        generalize hNe : (I1 999 0).toNat = N at *
        have s7 : dS I7 N = 1 ∧ dL I7 N = 4 := by rw [e7, ← hNe]; exact nwI_s
        have x7 : ExW (fun _ => False) I1 I7 := by rw [e7]; exact ExW.nw ⟨by omega, by omega⟩
        have e97 : I7 999 0 = I1 999 0 + 1 := by rw [e7]; exact nwI_9 _ _ _ _
        have z0 : ((0 : Int).toNat) = 0 ∧ ((1 : Int).toNat) = 1 ∧ ((2 : Int).toNat) = 2 ∧ ((3 : Int).toNat) = 3 := ⟨rfl, rfl, rfl, rfl⟩
        refine ⟨⟨s7.1, by decide, by rw [s7.2]; decide⟩, fun I10 e10 => ⟨⟨by rw [e10, up2_dS (by omega)]; exact s7.1, by decide, by rw [e10, up2_dL (by omega), s7.2]; decide⟩, fun I12 e12 => ⟨⟨by rw [e12, e10, up2_dS (by omega), up2_dS (by omega)]; exact s7.1, by decide, by rw [e12, e10, up2_dL (by omega), up2_dL (by omega), s7.2]; decide⟩, fun I14 e14 => ?_⟩⟩⟩
        have o14 : ∀ j, j ≠ N → I14 j = I7 j := fun j hj => by rw [e14, up2_key hj, e12, up2_key hj, e10, up2_key hj]
        have x14 : ExW (fun k => k = 1002) I I14 := by
          refine x1.trans (W' := fun _ => False) (x7.trans (W' := fun j => j = N) (W2 := fun j => j = N ∧ False) ⟨by rw [o14 999 (by omega)]; exact Int.le_refl _, fun k _ _ => ⟨fun q => o14 k q, o14 _ (by omega)⟩⟩ (fun _ q => q.elim) (fun k h9 hk q => ⟨q, by omega⟩) |>.weaken (fun _ q => q.2)) (fun _ q => q) (fun _ _ _ q => q.elim)
        have hNs14 : WNs (comesZ σ g p) I14 := by
          have e : ∀ k, 1000 ≤ k → k < 1020 → k ≠ 1002 → I14 k = I k := fun k h1 h2 h3 => (x14.2 k (by omega) (by omega)).1 h3
          have e2 : I14 1002 = I1 1002 := by
            rw [o14 1002 (by omega)]
            exact (x7.2 1002 (by decide) (by omega)).1 (fun q => q)
          unfold WNs
          rw [e 1000 (by omega) (by omega) (by omega), e 1001 (by omega) (by omega) (by omega), e2, c0]
          refine ⟨⟨by rw [hNs.1.1], by rw [hNs.1.2.1, comesZ_o (by omega) (by omega)], by rw [hNs.1.2.2.1, comesZ_o (by omega) (by omega)], by rw [hNs.1.2.2.2, comesZ_o (by omega) (by omega)]⟩, fun u hu => by rw [hNs.2.1 u hu, comesZ_o (by omega) (by omega)], fun u hu => ?_, fun a b ha hb2 => ?_⟩
          · rw [m1 u hu, cp u hu, show v = (σ 0).toNat by omega]
          · rw [e (1006 + a) (by omega) (by omega) (by omega), hNs.2.2.2 a b ha hb2, TBz_congr (comesZ_o (by omega) (by omega)) (fun i h1 h2 => comesZ_o (by omega) (by omega)) hV.1.M]
        have hcut : cutZ (comesZ σ g p) = cutZ (comesZ σ g p) := rfl
        refine w_cut9 (σ := comesZ σ g p) ⟨⟨hV', by rw [c0]; exact hb⟩, hNs14, trivial⟩ ⟨⟨by rw [e14, e12, e10, up2_dS (by omega), up2_dS (by omega), up2_dS (by omega)]; exact s7.1, by decide, by rw [e14, e12, e10, up2_dL (by omega), up2_dL (by omega), up2_dL (by omega), s7.2]; decide⟩, fun I17 e17 => ?_⟩
        have e9N : I14 999 0 = I 999 0 + 1 := by rw [o14 999 (by omega), e97, e9]
        have o17 : ∀ j, j ≠ N → I17 j = I14 j := fun j hj => by rw [e17]; exact up2_key hj
        have x17 : ExW (fun k => k = 1002) I I17 := by
          refine x14.trans (W' := fun j => j = N) ⟨by rw [o17 999 (by omega)]; exact Int.le_refl _, fun k _ _ => ⟨fun q => o17 k q, o17 _ (by omega)⟩⟩ (fun _ q => q) (fun k h9 hk q => by omega)
        have e917 : I17 999 0 = I 999 0 + 1 := by rw [o17 999 (by omega), e9N]
        have hA17 : ALr I17 1021 (σ 6).toNat L2 := AL_keep hN.1 hE x17 (Or.inr rfl) (by decide) (by
          intro q
          rcases hE.2.2.1 with cc | cc <;> omega)
        have sN : dS I17 N = 1 := by
          rw [e17, up2_dS (by omega), e14, e12, e10, up2_dS (by omega), up2_dS (by omega), up2_dS (by omega)]
          exact s7.1
        refine AL_add (Or.inr rfl) ⟨by omega, by omega⟩ hA17 (by omega) ⟨sN, by omega, by omega⟩ (fun I' hA' hx' hn' hk1 => hq I' ?_ ?_ (by omega))
        · have w1021 : ∀ k, 1000 ≤ k → k < 1020 → ¬ (k = 1021 ∨ (k = (I17 1021 1).toNat ∧ 1022 ≤ k)) := fun k h1 h2 q => by omega
          have k20 : I17 1020 = I 1020 := (x17.2 1020 (by decide) (by omega)).1 (by decide)
          have k21 : I17 1021 = I 1021 := (x17.2 1021 (by decide) (by omega)).1 (by decide)
          have k20' : I' 1020 = I17 1020 := (hx'.2 1020 (by decide) (by omega)).1 (by omega)
          refine ⟨⟨hV', by rw [c0]; exact hb⟩, ?_, ⟨L, ?_⟩, ⟨fun j => if j = (σ 6).toNat then N else L2 j, ?_⟩, ?_⟩
          · have hNs17 : WNs (comesZ σ g p) I17 := WNs_keep (W := fun j => j = N) (by omega) (by rw [c0]; omega) hNs14 ⟨by rw [o17 999 (by omega)]; exact Int.le_refl _, fun k _ _ => ⟨fun q => o17 k q, o17 _ (by omega)⟩⟩ (fun k h1 h2 q => by omega)
            exact WNs_keep (by omega) (by rw [c0]; omega) hNs17 hx' w1021
          · have hL17 : WNl σ I17 L := WNl_keep hN.1 hL x17 (by decide) (by
              intro q
              rcases hL.1.2.2.1 with cc | cc <;> omega) (fun l hl q => by have := (hLk l hl).1; omega)
            have hDD : (I17 1021 1).toNat ≠ (I17 1020 1).toNat ∨ ¬ 1022 ≤ (I17 1020 1).toNat := by
              left
              intro q
              rw [k20, k21] at q
              have := hE.2.1
              have := hL.1.2.1
              omega
            have hL' : WNl σ I' L := WNl_keep (by omega) hL17 hx' (by omega) (by
              intro q
              rcases hL17.1.2.2.1 with cc | cc
              · omega
              · rcases q with q | q
                · omega
                · rcases hDD with w | w
                  · exact w q.1.symm
                  · exact w cc.1) (fun l hl q => by
              have := hLk l hl
              rcases q with q | q
              · omega
              · have d1 : dS I17 (L l) = 1 := by rw [(ExW.ds x17 (by omega) this.2.1).1]; exact this.2.2
                rw [q.1, hA17.2.2.2.1] at d1
                cases d1)
            refine ⟨by rw [c5]; exact hL'.1, fun l hl => ?_⟩
            rw [c5] at hl
            have := hL'.2 l hl
            rw [comesZ_o (by omega) (by omega)]
            refine ⟨this.1, fun g9 hg9 => ?_⟩
            rw [this.2 g9 hg9, mset_congr c0 hgl hV.1.M (by omega)]
          · rw [comesZ_6 hV.1.M, if_neg c, show (σ 6 + 1).toNat = (σ 6).toNat + 1 by omega]
            exact hA'
          · rw [k20', k20]
            rcases hk1 with q | q
            · rw [q, k21]; exact hDn
            · have := hL.1.2.2.1
              omega
        · refine ExW.trans (W' := fun j => j = 1021 ∨ (j = (I17 1021 1).toNat ∧ 1022 ≤ j)) (x17.weaken (fun k q => Or.inl (by omega))) hx' (fun _ q => q) (fun k h9 hk q => ?_)
          rcases q with q | q
          · exact Or.inl (by omega)
          · right
            rw [← (ExW.ds x17 h9 hk).1, q.1]
            exact hA17.2.2.2.1
      | succ d ih =>
        intro v hv I1 o1 m1
        show Lb_X12_comes_16 g p Q _ (gPt σ g) (v : Int) I1 J
        unfold Lb_X12_comes_16
        have n1 : I1 1000 0 = (((σ 0).toNat : Nat) : Int) := by rw [o1 1000 (by decide), hNs.1.1]; omega
        have x1 : ExW (fun k => k = 1002) I I1 := ⟨by rw [o1 999 (by decide)]; exact Int.le_refl _, fun k _ _ => ⟨fun q => o1 k q, o1 _ (by omega)⟩⟩
        have hL1 : WNl σ I1 L := WNl_keep hN.1 hL x1 (by decide) (by
          intro q
          rcases hL.1.2.2.1 with cc | cc <;> omega) (fun l hl q => by have := (hLk l hl).1; omega)
        rw [n1]
        refine ⟨⟨by omega, by omega⟩, ⟨by omega, by omega⟩, fun cc => by omega, fun _ => w_setsL hL1 (fun a1 a2 a4 => ⟨⟨a1, g0, by omega⟩, ?_⟩)⟩
        have e := a4 g.toNat (by omega)
        rw [Int.toNat_of_nonneg g0] at e
        have hm : memG σ g < 16384 := bset_lt14 _ (by omega)
        rw [e, bit1 (by omega) (by omega), show ((v : Int) + 1) = ((v + 1 : Nat) : Int) by omega]
        refine ⟨fun cc => ?_, fun cc => ⟨⟨by omega, by omega⟩, fun I22 e22 => ?_⟩⟩
        · have hnb : ¬ gAt σ v = g := fun z => cc (if_pos ((wmem_bit σ g v).mpr ⟨by omega, z⟩))
          refine ih (v + 1) (by omega) I1 o1 (fun u hu => ?_)
          rw [m1 u hu, mvR_succ, if_neg hnb]
        · have hyb : gAt σ v = g := by
            by_cases z : (memG σ g).testBit v = true
            · exact ((wmem_bit σ g v).mp z).2
            · rw [if_neg z] at cc; exact absurd cc (by decide)
          refine ih (v + 1) (by omega) I22 (fun k hk => by rw [e22, up2_key hk]; exact o1 k hk) (fun u hu => ?_)
          rw [mvR_succ, if_pos hyb]
          by_cases z : u = v
          · subst z
            rw [e22, Int.toNat_natCast, up2_self, updr_self]
          · rw [e22, Int.toNat_natCast, up2_ne (fun q => z q.2), m1 u hu, updr_ne (by omega)]
    exact ⟨_, key (σ 0).toNat 0 (by omega) I (fun _ _ => rfl) (fun u hu => by
      rw [hNs.2.2.1 u hu]
      unfold mvR
      rw [if_neg (by omega)])⟩
  · rw [if_pos c] at hq
    have : comesZ σ g p = σ := by unfold comesZ; rw [if_pos c]
    rw [this] at hq
    exact hq I h (WF.rf I) (by omega)
end WOC
