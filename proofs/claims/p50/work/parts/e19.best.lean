/-! ===== the best sharing, as the world looks for it ===== -/
theorem WO.ex {σ : Nat → Int} {I I2 : Ii} (w1 : WO σ I) (hN : 1022 ≤ I 999 0) (x2 : Ex I I2) : WO σ I2 := by
  obtain ⟨hV, hNs, ⟨L, hL⟩, ⟨L2, hE⟩, hDn⟩ := w1
  refine ⟨hV, WNs_keep hN (by omega) hNs x2 (fun _ _ _ q => q), ⟨L, WNl_keep hN hL x2 (fun q => q) (fun q => q) (fun _ _ q => q)⟩, ⟨L2, AL_keep hN hE x2 (Or.inr rfl) (fun q => q) (fun q => q)⟩, ?_⟩
  rw [(x2.2 1020 (by decide) (by omega)).1 (fun q => q), (x2.2 1021 (by decide) (by omega)).1 (fun q => q)]
  exact hDn
def FSh (σ : Nat → Int) (d : Nat → Nat) : Prop := ∀ g, g < (grs σ).toNat → d g < (σ 2).toNat
/-- the best of those that P names, as the world keeps it -/
def BSW (σ : Nat → Int) (P : (Nat → Nat) → Prop) (x y : Int) (r : Nat → Int) : Prop := ((∀ d, FSh σ d → ¬ P d) ∧ x = -1) ∨
  ∃ b : Nat → Nat, FSh σ b ∧ P b ∧ x = bdZ σ b ∧ y = bkZ σ b ∧ (∀ g, g < (grs σ).toNat → r g = (b g : Int)) ∧ ∀ d, FSh σ d → P d → ¬ klt σ d b ∧ (lxl (grs σ).toNat d b → klt σ b d)
theorem BSW_iff {σ : Nat → Int} {P P' : (Nat → Nat) → Prop} {x y : Int} {r : Nat → Int} (h : BSW σ P x y r) (e : ∀ d, FSh σ d → (P' d ↔ P d)) : BSW σ P' x y r := by
  rcases h with ⟨h1, h2⟩ | ⟨b, h1, h2, h3, h4, h5, h6⟩
  · exact Or.inl ⟨fun d hd z => h1 d hd ((e d hd).mp z), h2⟩
  · exact Or.inr ⟨b, h1, (e b h1).mpr h2, h3, h4, h5, fun d hd z => h6 d hd ((e d hd).mp z)⟩
theorem BSW_new {σ : Nat → Int} {c : Nat → Nat} {x y : Int} {r r' : Nat → Int} (hc : FSh σ c) (h : BSW σ (fun d => lxl (grs σ).toNat d c) x y r) (hb : x < 0 ∨ bdZ σ c < x ∨ (bdZ σ c = x ∧ bkZ σ c < y)) (hM : MS σ) (hr : ∀ g, g < (grs σ).toNat → r' g = (c g : Int)) : BSW σ (fun d => lxl (grs σ).toNat d c ∨ ∀ g, g < (grs σ).toNat → d g = c g) (bdZ σ c) (bkZ σ c) r' := by
  refine Or.inr ⟨c, hc, Or.inr (fun _ _ => rfl), rfl, rfl, hr, fun d hd hP => ?_⟩
  rcases hP with hP | hP
  · rcases h with ⟨h1, -⟩ | ⟨b, h1, h2, h3, h4, h5, h6⟩
    · exact absurd hP (h1 d hd)
    · have h7 := (h6 d hd hP).1
      have h8 := bdZ_b hM b
      unfold klt at h7 ⊢
      refine ⟨fun z => ?_, fun _ => ?_⟩ <;> omega
  · have e1 := bdZ_cong (σ := σ) hP
    have e2 := bkZ_cong (σ := σ) hP
    refine ⟨fun z => ?_, fun z => absurd (lxl_congl hP z) (fun z => lxl_asym z z)⟩
    unfold klt at z
    omega
theorem BSW_old {σ : Nat → Int} {c : Nat → Nat} {x y : Int} {r : Nat → Int} (h : BSW σ (fun d => lxl (grs σ).toNat d c) x y r) (hb : 0 ≤ x ∧ ¬ (bdZ σ c < x ∨ (bdZ σ c = x ∧ bkZ σ c < y))) : BSW σ (fun d => lxl (grs σ).toNat d c ∨ ∀ g, g < (grs σ).toNat → d g = c g) x y r := by
  rcases h with ⟨-, h2⟩ | ⟨b, h1, h2, h3, h4, h5, h6⟩
  · omega
  · refine Or.inr ⟨b, h1, Or.inl h2, h3, h4, h5, fun d hd hP => ?_⟩
    rcases hP with hP | hP
    · exact h6 d hd hP
    · have e1 := bdZ_cong (σ := σ) hP
      have e2 := bkZ_cong (σ := σ) hP
      refine ⟨fun z => ?_, fun z => absurd (lxl_congl hP z) (fun z => lxl_asym z h2)⟩
      unfold klt at z
      omega
theorem BSW_fin {σ : Nat → Int} (hM : MS σ) {x y : Int} {r : Nat → Int} (h : BSW σ (fun _ => True) x y r) : ∃ b : Nat → Nat, FB σ b ∧ x = bdZ σ b ∧ y = bkZ σ b ∧ ∀ g, g < (grs σ).toNat → r g = (b g : Int) := by
  have b2 := ms_2 hM
  rcases h with ⟨h1, -⟩ | ⟨b, h1, h2, h3, h4, h5, h6⟩
  · exact absurd trivial (h1 (fun _ => 0) (fun g _ => by show 0 < (σ 2).toNat; omega))
  · exact ⟨b, ⟨h1, fun d hd => h6 d hd trivial⟩, h3, h4, h5⟩
/-- a prefix, one longer -/
def pfx (c : Nat → Nat) (g p : Nat) : Nat → Nat := fun i => if i = g then p else c i
theorem pfx_lo {c : Nat → Nat} {g p i : Nat} (h : i < g) : pfx c g p i = c i := if_neg (by omega)
theorem pfx_at {c : Nat → Nat} {g p : Nat} : pfx c g p g = p := if_pos rfl
theorem pfx_0 {c d : Nat → Nat} {g : Nat} : lxl (g + 1) d (pfx c g 0) ↔ lxl g d c := by
  constructor
  · rintro ⟨k, a1, a2, a3⟩
    have hk : k ≠ g := fun z => by subst z; rw [pfx_at] at a3; omega
    exact ⟨k, by omega, fun i hi => by rw [a2 i hi, pfx_lo (by omega)], by rw [pfx_lo (by omega)] at a3; exact a3⟩
  · rintro ⟨k, a1, a2, a3⟩
    exact ⟨k, by omega, fun i hi => by rw [a2 i hi, pfx_lo (by omega)], by rw [pfx_lo (by omega)]; exact a3⟩
theorem pfx_s {c d : Nat → Nat} {g p : Nat} : lxl (g + 1) d (pfx c g (p + 1)) ↔ (lxl (g + 1) d (pfx c g p) ∨ ∀ i, i < g + 1 → d i = pfx c g p i) := by
  constructor
  · rintro ⟨k, a1, a2, a3⟩
    by_cases hk : k = g
    · subst hk
      rw [pfx_at] at a3
      have lo : ∀ i, i < k → d i = pfx c k p i := fun i hi => by rw [a2 i hi, pfx_lo hi, pfx_lo hi]
      by_cases e : d k = p
      · refine Or.inr (fun i hi => ?_)
        by_cases z : i = k
        · rw [z, pfx_at]; exact e
        · exact lo i (by omega)
      · exact Or.inl ⟨k, a1, lo, by rw [pfx_at]; omega⟩
    · exact Or.inl ⟨k, a1, fun i hi => by rw [a2 i hi, pfx_lo (by omega), pfx_lo (by omega)], by rw [pfx_lo (by omega)] at a3 ⊢; exact a3⟩
  · rintro (⟨k, a1, a2, a3⟩ | h)
    · by_cases hk : k = g
      · subst hk
        rw [pfx_at] at a3
        exact ⟨k, a1, fun i hi => by rw [a2 i hi, pfx_lo hi, pfx_lo hi], by rw [pfx_at]; omega⟩
      · exact ⟨k, a1, fun i hi => by rw [a2 i hi, pfx_lo (by omega), pfx_lo (by omega)], by rw [pfx_lo (by omega)] at a3 ⊢; exact a3⟩
    · exact ⟨g, by omega, fun i hi => by rw [h i (by omega), pfx_lo hi, pfx_lo hi], by rw [h g (by omega), pfx_at, pfx_at]; omega⟩
theorem pfx_e {c d : Nat → Nat} {g p : Nat} (hd : d g < p) : lxl (g + 1) d (pfx c g p) ↔ (lxl g d c ∨ ∀ i, i < g → d i = c i) := by
  constructor
  · rintro ⟨k, a1, a2, a3⟩
    by_cases hk : k = g
    · subst hk
      exact Or.inr (fun i hi => by rw [a2 i hi, pfx_lo hi])
    · exact Or.inl ⟨k, by omega, fun i hi => by rw [a2 i hi, pfx_lo (by omega)], by rw [pfx_lo (by omega)] at a3; exact a3⟩
  · rintro (⟨k, a1, a2, a3⟩ | h)
    · exact ⟨k, by omega, fun i hi => by rw [a2 i hi, pfx_lo (by omega)], by rw [pfx_lo (by omega)]; exact a3⟩
    · exact ⟨g, by omega, fun i hi => by rw [h i hi, pfx_lo hi], by rw [pfx_at]; exact hd⟩
/-- what is fast while the world looks -/
def SF (σ : Nat → Int) (I1 : Ii) (k2 k3 k4 : Nat) : Prop := (∀ I : Ii, (∀ k, k ≠ k2 → k ≠ k3 → k ≠ k4 → I k = I1 k) → WO σ I) ∧ (dS I1 k2 = 1 ∧ dL I1 k2 = grs σ) ∧ (dS I1 k3 = 1 ∧ dL I1 k3 = 2) ∧ (dS I1 k4 = 1 ∧ dL I1 k4 = grs σ + 2) ∧ (k2 ≠ k3 ∧ k2 ≠ k4 ∧ k3 ≠ k4) ∧ k2 < 1000000 ∧ k3 < 1000000 ∧ k4 < 1000000
def SI (σ : Nat → Int) (I1 : Ii) (k2 k3 k4 g : Nat) (c : Nat → Nat) (P : (Nat → Nat) → Prop) (I : Ii) : Prop := (∀ k, k ≠ k2 → k ≠ k3 → k ≠ k4 → I k = I1 k) ∧ (∀ i, i < g → I k2 i = (c i : Int)) ∧ BSW σ P (I k3 0) (I k3 1) (I k4)
section WSR
variable {σ : Nat → Int} {I1 : Ii} {J : Jj} {k2 k3 k4 : Nat}
theorem SI.ds {I : Ii} {g : Nat} {c : Nat → Nat} {P : (Nat → Nat) → Prop} (hF : SF σ I1 k2 k3 k4) (h : SI σ I1 k2 k3 k4 g c P I) (j : Nat) : dS I j = dS I1 j ∧ dL I j = dL I1 j := by
  have := h.1 (1000000 + j) (by have := hF.2.2.2.2.2; omega) (by have := hF.2.2.2.2.2; omega) (by have := hF.2.2.2.2.2; omega)
  exact ⟨congrFun this 0, congrFun this 1⟩
/-- one sharing is looked at -/
theorem s_leaf {rec : Nat → Nat → Nat → Int → Ii → Jj → (Ii → Jj → Prop) → Prop} (hF : SF σ I1 k2 k3 k4) (h7 : grs σ ≤ 7) {c : Nat → Nat} (hc : FSh σ c) {I : Ii} {Q : Ii → Jj → Prop} (h : SI σ I1 k2 k3 k4 (grs σ).toNat c (fun d => lxl (grs σ).toNat d c) I)
    (hq : ∀ I' : Ii, SI σ I1 k2 k3 k4 (grs σ).toNat c (fun d => lxl (grs σ).toNat d c ∨ ∀ g, g < (grs σ).toNat → d g = c g) I' → Q I' J) : ∃ n : Nat, L_X12_search_52 rec k2 k3 k4 (grs σ) Q n 0 0 0 I J := by
  have w := hF.1 I h.1
  have hM := w.1.1.M
  have gr := grs_b hM
  have b2 := ms_2 hM
  have bl := limZ_b hM
  have hd2 := h.ds hF k2
  have hd3 := h.ds hF k3
  have hd4 := h.ds hF k4
  have hp := w.p
  have bbd := bdZ_b hM c
  have bbk := bkZ_b hM c h7
  obtain ⟨fW, f2, f3, f4, fn, fk⟩ := hF
  generalize hG : (grs σ).toNat = Gn at *
  have gG : grs σ = (Gn : Int) := by omega
  rw [gG] at f2 f4 ⊢
  have at3 : ∀ i : Int, 0 ≤ i → i < 2 → (dS I k3 = 1 ∧ 0 ≤ i ∧ i < dL I k3) := fun i a b => ⟨by rw [hd3.1]; exact f3.1, a, by rw [hd3.2, f3.2]; exact b⟩
  have at2 : ∀ i : Nat, i < Gn → (dS I k2 = 1 ∧ (0 : Int) ≤ (i : Int) ∧ (i : Int) < dL I k2) := fun i a => ⟨by rw [hd2.1]; exact f2.1, by omega, by rw [hd2.2, f2.2]; omega⟩
  have rx : rg (I k3 0) ∧ (¬ I k3 0 < 0 → rg (I k3 1)) := by
    rcases h.2.2 with ⟨-, z⟩ | ⟨b, z1, z2, z3, z4, -, -⟩
    · exact ⟨⟨by omega, by omega⟩, fun q => by omega⟩
    · have q1 := bdZ_b hM b
      have q2 := bkZ_b hM b (by omega)
      exact ⟨⟨by omega, by omega⟩, fun _ => ⟨by omega, by omega⟩⟩
  have new : (I k3 0 < 0 ∨ bdZ σ c < I k3 0 ∨ (bdZ σ c = I k3 0 ∧ bkZ σ c < I k3 1)) → B_X12_search_237 rec k2 k3 k4 (Gn : Int) Q (bdZ σ c) (bkZ σ c) I J := by
    intro hb
    unfold B_X12_search_237
    refine ⟨at3 0 (by omega) (by omega), fun I35 e35 => ⟨by rw [e35, up2_dS (by omega), up2_dL (by omega)]; exact at3 1 (by omega) (by omega), fun I37 e37 => ⟨⟨⟨?_, ?_⟩, ⟨⟨by decide, by decide⟩, by omega, by omega⟩, ?_, ?_⟩, fun I38 e38 => hq I38 ⟨fun k q1 q2 q3 => ?_, fun i hi => ?_, ?_⟩⟩⟩⟩
    · rw [e37, up2_dS (by omega), e35, up2_dS (by omega), hd2.1]; exact f2.1
    · rw [e37, up2_dS (by omega), e35, up2_dS (by omega), hd4.1]; exact f4.1
    · rw [e37, up2_dL (by omega), e35, up2_dL (by omega), hd2.2, f2.2]; omega
    · rw [e37, up2_dL (by omega), e35, up2_dL (by omega), hd4.2, f4.2]; omega
    · rw [e38, upr_ne q3, e37, up2_key q2, e35, up2_key q2]; exact h.1 k q1 q2 q3
    · rw [e38, upr_ne fn.2.1, e37, up2_key fn.1, e35, up2_key fn.1]; exact h.2.1 i hi
    · have x0 : I38 k3 0 = bdZ σ c := by
        rw [e38, upr_ne fn.2.2, e37, up2_ne (fun z => by have := z.2; cases this), e35]
        exact up2_self _ _ _ _
      have x1 : I38 k3 1 = bkZ σ c := by
        rw [e38, upr_ne fn.2.2, e37]
        exact up2_self _ _ _ _
      rw [x0, x1]
      refine hG ▸ BSW_new hc (hG.symm ▸ h.2.2) hb hM (fun g hg => ?_)
      rw [e38, upr_self]
      unfold va_cpy
      rw [if_pos ⟨by show 0 ≤ g; omega, by show g < 0 + ((Gn : Nat) : Int).toNat; omega⟩, e37, up2_key fn.1, e35, up2_key fn.1]
      have : ((0 : Int).toNat + (g - (0 : Int).toNat)) = g := by show 0 + (g - 0) = g; omega
      rw [this]
      exact h.2.1 g (by omega)
  have old : ¬ (I k3 0 < 0 ∨ bdZ σ c < I k3 0 ∨ (bdZ σ c = I k3 0 ∧ bkZ σ c < I k3 1)) → Q I J := fun hb => hq I ⟨h.1, h.2.1, hG ▸ BSW_old (hG.symm ▸ h.2.2) (by omega)⟩
  have cost : (I k3 0 < 0 ∨ bdZ σ c ≤ I k3 0) → ∃ n : Nat, L_X12_search_148 rec k2 k3 k4 (Gn : Int) Q n (bdZ σ c) 0 0 I J := by
    intro hb0
    have outer : ∀ d v : Nat, v + d = Gn → L_X12_search_148 rec k2 k3 k4 (Gn : Int) Q (d + 1) (bdZ σ c) (sm (fun g => sm (fun h => if c g = c h then 0 else joinZ σ (g : Int) (h : Int)) g) v) (v : Int) I J := by
      intro d
      induction d with
      | zero =>
        intro v hv
        show Lb_X12_search_148 rec k2 k3 k4 (Gn : Int) Q _ _ _ (v : Int) I J
        unfold Lb_X12_search_148
        have ek : sm (fun g => sm (fun h => if c g = c h then 0 else joinZ σ (g : Int) (h : Int)) g) v = bkZ σ c := by
          unfold bkZ
          rw [hG, show v = Gn by omega]
        rw [ek]
        exact ⟨⟨by omega, by omega⟩, ⟨by omega, by omega⟩, fun _ => ⟨at3 0 (by omega) (by omega), rx.1, fun z => new (Or.inl z), fun z => ⟨at3 0 (by omega) (by omega), ⟨by omega, by omega⟩, fun z2 => new (Or.inr (Or.inl (by have z3 : ¬ bdZ σ c = I k3 0 := z2; have z4 : ¬ I k3 0 < 0 := z; omega))), fun z2 => ⟨at3 1 (by omega) (by omega), ⟨by omega, by omega⟩, rx.2 z, fun z3 => new (Or.inr (Or.inr ⟨z2, z3⟩)), fun z3 => old (by
          have w1 : ¬ I k3 0 < 0 := z
          have w2 : bdZ σ c = I k3 0 := z2
          have w3 : ¬ bkZ σ c < I k3 1 := z3
          omega)⟩⟩⟩, fun z => absurd (by omega) z⟩
      | succ d ih =>
        intro v hv
        show Lb_X12_search_148 rec k2 k3 k4 (Gn : Int) Q _ _ _ (v : Int) I J
        unfold Lb_X12_search_148
        refine ⟨⟨by omega, by omega⟩, ⟨by omega, by omega⟩, fun z => by omega, fun _ => ?_⟩
        have nx := ih (v + 1) (by omega)
        rw [sm_succ] at nx
        generalize sm (fun g => sm (fun h => if c g = c h then 0 else joinZ σ (g : Int) (h : Int)) g) v = s0 at nx ⊢
        have inner : ∀ e u : Nat, u + e = v → L_X12_search_157 rec k2 k3 k4 (Gn : Int) Q (L_X12_search_148 rec k2 k3 k4 (Gn : Int) Q (d + 1)) (e + 1) (bdZ σ c) (s0 + sm (fun h => if c v = c h then 0 else joinZ σ (v : Int) (h : Int)) u) (v : Int) (u : Int) I J := by
          intro e
          induction e with
          | zero =>
            intro u hu
            show Lb_X12_search_157 rec k2 k3 k4 (Gn : Int) Q _ _ _ _ (v : Int) (u : Int) I J
            unfold Lb_X12_search_157
            refine ⟨⟨by omega, by omega⟩, ⟨by omega, by omega⟩, fun _ => ?_, fun z => absurd (by omega) z⟩
            rw [show u = v by omega, show ((v : Int) + 1) = ((v + 1 : Nat) : Int) by omega]
            exact nx
          | succ e ih2 =>
            intro u hu
            show Lb_X12_search_157 rec k2 k3 k4 (Gn : Int) Q _ _ _ _ (v : Int) (u : Int) I J
            unfold Lb_X12_search_157
            have nx2 := ih2 (u + 1) (by omega)
            rw [sm_succ, show ((u + 1 : Nat) : Int) = (u : Int) + 1 by omega] at nx2
            have cv := hc v (by omega)
            have cu := hc u (by omega)
            rw [Int.toNat_natCast, Int.toNat_natCast, h.2.1 v (by omega), h.2.1 u (by omega)]
            refine ⟨⟨by omega, by omega⟩, ⟨by omega, by omega⟩, fun z => by omega, fun _ => ⟨at2 v (by omega), at2 u (by omega), ⟨by omega, by omega⟩, ⟨by omega, by omega⟩, fun z => ?_, fun z => ?_⟩⟩
            · rw [if_neg (by omega)] at nx2
              refine w_sets w (fun K a1 a2 a3 a4 => ⟨⟨a1, by omega, by omega⟩, w_sets w (fun K2 b1 b2 b3 b4 => ⟨⟨b1, by omega, by omega⟩, ?_⟩)⟩)
              have m1 := memG_lt w (v : Int)
              have m2 := memG_lt w (u : Int)
              refine w_links w (a4 v (by omega)) (by omega) (b4 u (by omega)) (by omega) ?_
              rw [lk_join w (by omega), Int.add_assoc]
              exact nx2
            · rw [if_pos (by omega)] at nx2
              rw [Int.add_assoc]
              exact nx2
        refine ⟨v + 1, ?_⟩
        have := inner v 0 (by omega)
        rw [show s0 + sm (fun h => if c v = c h then 0 else joinZ σ (v : Int) (h : Int)) 0 = s0 by show s0 + 0 = s0; omega] at this
        exact this
    exact ⟨_, outer Gn 0 (by omega)⟩
  have debt : ∀ d p : Nat, p + d = (σ 2).toNat → L_X12_search_52 rec k2 k3 k4 (Gn : Int) Q (d + 1) (sm (fun q => pos (bwZ σ c q Gn - limZ σ)) p) 0 (p : Int) I J := by
    intro d
    induction d with
    | zero =>
      intro p hp2
      show Lb_X12_search_52 rec k2 k3 k4 (Gn : Int) Q _ _ _ (p : Int) I J
      unfold Lb_X12_search_52
      rw [hp]
      have ek : sm (fun q => pos (bwZ σ c q Gn - limZ σ)) p = bdZ σ c := by
        unfold bdZ
        rw [hG, show p = (σ 2).toNat by omega]
      rw [ek]
      refine ⟨⟨by omega, by omega⟩, ⟨by omega, by omega⟩, fun _ => ⟨at3 0 (by omega) (by omega), rx.1, fun z => cost (Or.inl z), fun z => ⟨at3 0 (by omega) (by omega), ⟨by omega, by omega⟩, fun z2 => cost (Or.inr z2), fun z2 => old (by
        have w1 : ¬ I k3 0 < 0 := z
        have w2 : ¬ bdZ σ c ≤ I k3 0 := z2
        omega)⟩⟩, fun z => absurd (by omega) z⟩
    | succ d ih =>
      intro p hp2
      show Lb_X12_search_52 rec k2 k3 k4 (Gn : Int) Q _ _ _ (p : Int) I J
      unfold Lb_X12_search_52
      rw [hp]
      refine ⟨⟨by omega, by omega⟩, ⟨by omega, by omega⟩, fun z => by omega, fun _ => ?_⟩
      have nx := ih (p + 1) (by omega)
      rw [sm_succ] at nx
      generalize sm (fun q => pos (bwZ σ c q Gn - limZ σ)) p = s0 at nx ⊢
      have inner : ∀ e u : Nat, u + e = Gn → L_X12_search_67 rec k2 k3 k4 (Gn : Int) Q (L_X12_search_52 rec k2 k3 k4 (Gn : Int) Q (d + 1)) (e + 1) s0 0 (p : Int) (bwZ σ c p u) (u : Int) I J := by
        intro e
        induction e with
        | zero =>
          intro u hu
          show Lb_X12_search_67 rec k2 k3 k4 (Gn : Int) Q _ _ _ _ (p : Int) _ (u : Int) I J
          unfold Lb_X12_search_67
          have bw := bwZ_b hM c p (m := u) (by omega)
          refine ⟨⟨by omega, by omega⟩, ⟨by omega, by omega⟩, fun _ => w_limit w (w_max0 ⟨by omega, by omega⟩ ?_), fun z => absurd (by omega) z⟩
          rw [show u = Gn by omega, show ((p : Int) + 1) = ((p + 1 : Nat) : Int) by omega]
          exact nx
        | succ e ih2 =>
          intro u hu
          show Lb_X12_search_67 rec k2 k3 k4 (Gn : Int) Q _ _ _ _ (p : Int) _ (u : Int) I J
          unfold Lb_X12_search_67
          have nx2 := ih2 (u + 1) (by omega)
          have eb : bwZ σ c p (u + 1) = bwZ σ c p u + (if c u = p then gW σ (u : Int) else 0) := rfl
          rw [eb, show ((u + 1 : Nat) : Int) = (u : Int) + 1 by omega] at nx2
          have cu := hc u (by omega)
          rw [Int.toNat_natCast, h.2.1 u (by omega)]
          refine ⟨⟨by omega, by omega⟩, ⟨by omega, by omega⟩, fun z => by omega, fun _ => ⟨at2 u (by omega), ⟨by omega, by omega⟩, ⟨by omega, by omega⟩, fun z => ?_, fun z => ?_⟩⟩
          · rw [if_neg (by omega)] at nx2
            exact nx2
          · rw [if_pos (by omega)] at nx2
            refine w_sets w (fun K a1 a2 a3 a4 => ⟨⟨a1, by omega, by omega⟩, ?_⟩)
            have m1 := memG_lt w (u : Int)
            refine w_weightOf w (a4 u (by omega)) (by omega) ?_
            rw [swZ_mem w]
            exact nx2
      exact ⟨_, inner Gn 0 (by omega)⟩
  exact ⟨_, debt (σ 2).toNat 0 (by omega)⟩
/-- all sharings that begin so -/
theorem s_search (hF : SF σ I1 k2 k3 k4) (h7 : grs σ ≤ 7) : ∀ (d g : Nat), (grs σ).toNat < g + d → g ≤ (grs σ).toNat → ∀ (c : Nat → Nat) (I : Ii) (Q : Ii → Jj → Prop), (∀ i, i < g → c i < (σ 2).toNat) → SI σ I1 k2 k3 k4 g c (fun e => lxl g e c) I →
    (∀ I' : Ii, SI σ I1 k2 k3 k4 g c (fun e => lxl g e c ∨ ∀ i, i < g → e i = c i) I' → Q I' J) → wpS d k2 k3 k4 (g : Int) I J Q := by
  intro d
  induction d with
  | zero => intro g h1 h2; omega
  | succ d ih =>
    intro g h1 h2 c I Q hc h hq
    show wp_X12_search_b (wpS d) k2 k3 k4 (g : Int) I J Q
    have w := hF.1 I h.1
    have hM := w.1.1.M
    have gr := grs_b hM
    have b2 := ms_2 hM
    unfold wp_X12_search_b
    refine w_groups w ⟨⟨by omega, by omega⟩, ⟨by omega, by omega⟩, fun z => ?_, fun z => ?_⟩
    · have eg : g = (grs σ).toNat := by omega
      subst eg
      rw [show (((grs σ).toNat : Nat) : Int) = grs σ by omega]
      exact s_leaf hF h7 hc h hq
    · have loop : ∀ e p : Nat, p + e = (σ 2).toNat → ∀ I2 : Ii, SI σ I1 k2 k3 k4 g c (fun x => lxl (g + 1) x (pfx c g p)) I2 → L_X12_search_11 (wpS d) k2 k3 k4 (g : Int) Q (e + 1) (p : Int) I2 J := by
        intro e
        induction e with
        | zero =>
          intro p hp I2 hI2
          show Lb_X12_search_11 (wpS d) k2 k3 k4 (g : Int) Q _ (p : Int) I2 J
          unfold Lb_X12_search_11
          rw [(hF.1 I2 hI2.1).p]
          refine ⟨⟨by omega, by omega⟩, ⟨by omega, by omega⟩, fun _ => hq I2 ⟨hI2.1, hI2.2.1, BSW_iff hI2.2.2 (fun x hx => ?_)⟩, fun z2 => absurd (by omega) z2⟩
          exact (pfx_e (by have := hx g (by omega); omega)).symm
        | succ e ih2 =>
          intro p hp I2 hI2
          show Lb_X12_search_11 (wpS d) k2 k3 k4 (g : Int) Q _ (p : Int) I2 J
          unfold Lb_X12_search_11
          have ds2 := hI2.ds hF k2
          rw [(hF.1 I2 hI2.1).p]
          refine ⟨⟨by omega, by omega⟩, ⟨by omega, by omega⟩, fun z2 => by omega, fun _ => ⟨⟨by rw [ds2.1]; exact hF.2.1.1, by omega, by rw [ds2.2, hF.2.1.2]; omega⟩, fun I13 e13 => ?_⟩⟩
          have fk := hF.2.2.2.2.2
          have fn := hF.2.2.2.2.1
          have hI13 : SI σ I1 k2 k3 k4 (g + 1) (pfx c g p) (fun x => lxl (g + 1) x (pfx c g p)) I13 := by
            refine ⟨fun k q1 q2 q3 => by rw [e13, up2_key q1]; exact hI2.1 k q1 q2 q3, fun i hi => ?_, ?_⟩
            · by_cases zi : i = g
              · rw [zi, pfx_at, e13, Int.toNat_natCast, up2_self]
              · rw [pfx_lo (by omega), e13, Int.toNat_natCast, up2_ne (fun q => zi q.2)]
                exact hI2.2.1 i (by omega)
            · rw [e13, up2_key fn.1.symm, up2_key fn.2.1.symm]
              exact hI2.2.2
          rw [show ((g : Int) + 1) = ((g + 1 : Nat) : Int) by omega]
          refine ih (g + 1) (by omega) (by omega) (pfx c g p) I13 _ (fun i hi => ?_) hI13 (fun I14 h14 => ?_)
          · by_cases zi : i = g
            · rw [zi, pfx_at]; omega
            · rw [pfx_lo (by omega)]; exact hc i (by omega)
          · rw [show ((p : Int) + 1) = ((p + 1 : Nat) : Int) by omega]
            exact ih2 (p + 1) (by omega) I14 ⟨h14.1, fun i hi => by rw [h14.2.1 i (by omega), pfx_lo hi], BSW_iff h14.2.2 (fun x _ => pfx_s)⟩
      exact ⟨_, loop (σ 2).toNat 0 (by omega) I ⟨h.1, h.2.1, BSW_iff h.2.2 (fun x _ => pfx_0)⟩⟩
theorem w_best {I : Ii} {Q : Nat → Ii → Jj → Prop} (w : WO σ I) (hN : 1022 ≤ I 999 0 ∧ I 999 0 ≤ 600000) (h7 : grs σ ≤ 7)
    (hq : ∀ (I' : Ii) (K : Nat), WO σ I' → Ex I I' → I' 999 0 ≤ I 999 0 + 3 → (1022 ≤ K ∧ (K : Int) < I' 999 0) → dS I' K = 1 → dL I' K = grs σ + 2 → (∃ b : Nat → Nat, FB σ b ∧ ∀ g, g < (grs σ).toNat → I' K g = (b g : Int)) → Q K I' J) : wp_X12_best I J Q := by
  have hM := w.1.1.M
  have gr := grs_b hM
  unfold wp_X12_best
  refine ⟨⟨⟨by decide, by decide⟩, by omega⟩, fun I2 e2 v3 ev3 => ?_⟩
  subst ev3
  generalize hA : (I 999 0).toNat = A
  have s2 : dS I2 A = 1 ∧ dL I2 A = 2 := by rw [e2, ← hA]; exact nwI_s
  have x2 : Ex I I2 := by rw [e2]; exact ExW.nw ⟨by omega, by omega⟩
  have n2 : I2 999 0 = I 999 0 + 1 := by rw [e2]; exact nwI_9 _ _ _ _
  refine ⟨⟨s2.1, by decide, by rw [s2.2]; decide⟩, fun I5 e5 => ⟨⟨by rw [e5, up2_dS (by omega)]; exact s2.1, by decide, by rw [e5, up2_dL (by omega), s2.2]; decide⟩, fun I7 e7 => ?_⟩⟩
  have o7 : ∀ k, k ≠ A → I7 k = I2 k := fun k hk => by rw [e7, up2_key hk, e5, up2_key hk]
  have a0 : I7 A 0 = -1 := by rw [e7, up2_ne (fun z => by have := z.2; cases this), e5]; exact up2_self _ _ _ _
  have x7 : Ex I I7 := x2.trans (W' := fun j => j = A) ⟨by rw [o7 999 (by omega)]; exact Int.le_refl _, fun k _ _ => ⟨fun q => o7 k q, o7 _ (by omega)⟩⟩ (fun _ q => q) (fun k h9 hk q => by omega)
  have n7 : I7 999 0 = I 999 0 + 1 := by rw [o7 999 (by omega), n2]
  have d7 : dS I7 A = 1 ∧ dL I7 A = 2 := ⟨by show I7 (1000000 + A) 0 = 1; rw [o7 _ (by omega)]; exact s2.1, by show I7 (1000000 + A) 1 = 2; rw [o7 _ (by omega)]; exact s2.2⟩
  have w7 := w.ex hN.1 x7
  refine w_groups w7 ⟨⟨⟨by omega, by omega⟩, by omega⟩, fun I10 e10 v11 ev11 => ?_⟩
  subst ev11
  generalize hB : (I7 999 0).toNat = B
  have s10 : dS I10 B = 1 ∧ dL I10 B = grs σ := by rw [e10, ← hB]; exact nwI_s
  have x10 : Ex I7 I10 := by rw [e10]; exact ExW.nw ⟨by omega, by omega⟩
  have n10 : I10 999 0 = I7 999 0 + 1 := by rw [e10]; exact nwI_9 _ _ _ _
  have w10 := w7.ex (by omega) x10
  refine w_groups w10 ⟨⟨⟨by omega, by omega⟩, by omega⟩, fun I14 e14 v15 ev15 => ?_⟩
  subst ev15
  generalize hC : (I10 999 0).toNat = C
  have s14 : dS I14 C = 1 ∧ dL I14 C = grs σ + 2 := by rw [e14, ← hC]; exact nwI_s
  have x14 : Ex I10 I14 := by rw [e14]; exact ExW.nw ⟨by omega, by omega⟩
  have n14 : I14 999 0 = I10 999 0 + 1 := by rw [e14]; exact nwI_9 _ _ _ _
  have xx : Ex I7 I14 := x10.trans x14 (fun _ q => q) (fun _ _ _ q => q)
  have xa : Ex I I14 := x7.trans xx (fun _ q => q) (fun _ _ _ q => q)
  have dA := ExW.ds xx (k := A) (by omega) (by omega)
  have iA := (xx.2 A (by omega) (by omega)).1 (fun q => q)
  have dB := ExW.ds x14 (k := B) (by omega) (by omega)
  have fin : ∀ I9 : Ii, (∀ k, k ≠ B → k ≠ A → k ≠ C → I9 k = I14 k) → Ex I I9 := fun I9 o9 => by
    refine xa.trans (W' := fun j => j = A ∨ j = B ∨ j = C) ⟨by rw [o9 999 (by omega) (by omega) (by omega)]; exact Int.le_refl _, fun k _ _ => ⟨fun q => o9 k (fun z => q (Or.inr (Or.inl z))) (fun z => q (Or.inl z)) (fun z => q (Or.inr (Or.inr z))), o9 _ (by omega) (by omega) (by omega)⟩⟩ (fun _ q => q) (fun k h9 hk q => by omega)
  have hF : SF σ I14 B A C := ⟨fun I9 o9 => w.ex hN.1 (fin I9 o9), ⟨by rw [dB.1]; exact s10.1, by rw [dB.2]; exact s10.2⟩, ⟨by rw [dA.1]; exact d7.1, by rw [dA.2]; exact d7.2⟩, s14, by omega, by omega, by omega, by omega⟩
  show wpS 8 B A C ((0 : Nat) : Int) I14 J _
  refine s_search hF h7 8 0 (by omega) (by omega) (fun _ => 0) I14 _ (fun i hi => by omega) ⟨fun _ _ _ _ => rfl, fun i hi => by omega, Or.inl ⟨fun d _ z => by obtain ⟨k, z1, -⟩ := z; omega, by rw [iA]; exact a0⟩⟩ (fun I16 h16 => ?_)
  obtain ⟨b, hb, -, -, hr⟩ := BSW_fin hM (BSW_iff h16.2.2 (P' := fun _ => True) (fun d _ => ⟨fun _ => Or.inr (fun i hi => by omega), fun _ => trivial⟩))
  have w16 := hF.1 I16 h16.1
  have sA := h16.ds hF A
  have sC := h16.ds hF C
  refine w_groups w16 ⟨⟨by rw [sA.1]; exact hF.2.2.1.1, by decide, by rw [sA.2, hF.2.2.1.2]; decide⟩, ⟨by rw [sC.1]; exact s14.1, by omega, by rw [sC.2, s14.2]; omega⟩, fun I20 e20 => ?_⟩
  have o20 : ∀ k, k ≠ C → I20 k = I16 k := fun k hk => by rw [e20, up2_key hk]
  have w20 := hF.1 I20 (fun k q1 q2 q3 => by rw [o20 k q3]; exact h16.1 k q1 q2 q3)
  have sA2 : dS I20 A = dS I16 A ∧ dL I20 A = dL I16 A := by rw [e20, up2_dS (by omega), up2_dL (by omega)]; exact ⟨rfl, rfl⟩
  have sC2 : dS I20 C = dS I16 C ∧ dL I20 C = dL I16 C := by rw [e20, up2_dS (by omega), up2_dL (by omega)]; exact ⟨rfl, rfl⟩
  refine w_groups w20 ⟨⟨by rw [sA2.1, sA.1]; exact hF.2.2.1.1, by decide, by rw [sA2.2, sA.2, hF.2.2.1.2]; decide⟩, ⟨by rw [sC2.1, sC.1]; exact s14.1, by omega, by rw [sC2.2, sC.2, s14.2]; omega⟩, fun I24 e24 => ?_⟩
  have o24 : ∀ k, k ≠ C → I24 k = I16 k := fun k hk => by rw [e24, up2_key hk, o20 k hk]
  have oo : ∀ k, k ≠ B → k ≠ A → k ≠ C → I24 k = I14 k := fun k q1 q2 q3 => by rw [o24 k q3]; exact h16.1 k q1 q2 q3
  have n24 : I24 999 0 = I 999 0 + 3 := by rw [oo 999 (by omega) (by omega) (by omega), n14, n10, n7]; omega
  refine hq I24 C (hF.1 I24 oo) (fin I24 oo) (by omega) ⟨by omega, by omega⟩ (by rw [e24, up2_dS (by omega), sC2.1, sC.1]; exact s14.1) (by rw [e24, up2_dL (by omega), sC2.2, sC.2]; exact s14.2) ⟨b, hb, fun g hg => ?_⟩
  rw [e24, up2_ne (fun z => by have := z.2; omega), e20, up2_ne (fun z => by have := z.2; omega)]
  exact hr g hg
end WSR
