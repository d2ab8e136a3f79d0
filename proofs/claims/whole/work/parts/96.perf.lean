/-! ===== what the commands of a script do ===== -/
theorem credZ_VS {σ : Nat → Int} {a : Int} (hV : VS σ) (ha : 0 ≤ a ∧ a ≤ 99) : VS (updr σ 4 a) := by
  have hM := hV.M
  have o : ∀ i, i ≠ 4 → updr σ 4 a i = σ i := fun i hi => updr_ne hi
  have ol : ∀ l v, gL (updr σ 4 a) l v = gL σ l v := fun l v => o _ (by omega)
  have o5 := o 5 (by omega)
  have og : ∀ v, gAt (updr σ 4 a) v = gAt σ v := fun v => by
    unfold gAt
    rw [o5, o _ (by omega)]
  refine ⟨⟨?_, ?_, ?_, ?_, ?_, ?_, ?_, fun w hw => ?_, fun w hw => ?_, fun w hw => ?_, fun w hw => ?_, fun w hw => ?_, fun w hw => ?_, fun w hw => ?_, fun w hw => ?_⟩, ⟨fun e he => ?_, fun e f he hf => ?_⟩, fun v hv => ?_, fun v hv => ?_, ?_, fun l hl => ⟨fun v hv => ?_, fun g h0 h1 => ?_⟩, fun l u v hl hu hv => ?_, fun u v hu hv => ?_⟩
  · rw [o 0 (by omega)]; exact ms_0 hM
  · rw [o 1 (by omega)]; exact ms_1 hM
  · rw [o 2 (by omega)]; exact ms_2 hM
  · rw [o 3 (by omega)]; exact ms_3 hM
  · rw [updr_self]; exact ha
  · rw [o5]; exact ms_5 hM
  · rw [o 6 (by omega)]; exact ms_6 hM
  · rw [o _ (by omega)]; exact ms_w hM w hw
  · rw [o _ (by omega)]; exact ms_p hM w hw
  · rw [o _ (by omega)]; exact ms_g hM w hw
  · rw [o _ (by omega)]; exact ms_n hM w hw
  · rw [o _ (by omega)]; exact ms_a hM w hw
  · rw [o _ (by omega)]; exact ms_b hM w hw
  · rw [o _ (by omega)]; exact ms_h hM w hw
  · rw [o _ (by omega)]; exact ms_e hM w hw
  · rw [o 1 (by omega)] at he
    rw [o 0 (by omega), o _ (by omega), o _ (by omega)]; exact hV.E.1 e he
  · rw [o 1 (by omega)] at he hf
    rw [o _ (by omega), o (110 + f) (by omega), o (150 + e) (by omega), o (150 + f) (by omega)]; exact hV.E.2 e f he hf
  · rw [o 0 (by omega)] at hv
    rw [o _ (by omega), o 2 (by omega)]; exact (hV.p hv).2
  · rw [o 0 (by omega)] at hv
    rw [ol]; exact hV.g0 hv
  · rw [o _ (by omega), o 0 (by omega)]; exact hV.n0
  · rw [o5] at hl
    rw [o 0 (by omega)] at hv
    rw [ol, o _ (by omega)]; exact (hV.L hl).1 v hv
  · rw [o5] at hl
    rw [o _ (by omega)] at h1
    obtain ⟨v, hv, e⟩ := (hV.L hl).2 g h0 h1
    exact ⟨v, by rw [o 0 (by omega)]; exact hv, by rw [ol]; exact e⟩
  · rw [o5] at hl
    rw [o 0 (by omega)] at hu hv
    rw [ol, ol, ol, ol]; exact hV.nest hl hu hv
  · rw [o 0 (by omega)] at hu hv
    rw [og, og, o _ (by omega), o _ (by omega)]; exact hV.one hu hv
theorem credZ_GE (σ : Nat → Int) (a : Int) : GE σ (updr σ 4 a) := fun i hi => updr_ne (by omega)
theorem RS_cred {I I' : Ii} {σ : Nat → Int} {a : Int} (hS : RS 300 I σ) (e : I' = up2 I 300 1 a) : RS 300 I' (updr σ 4 a) := by
  have o : ∀ i, i ≠ 4 → updr σ 4 a i = σ i := fun i hi => updr_ne hi
  have ek : ∀ k, k ≠ 300 → I' k = I k := fun k h => by rw [e, up2_key h]
  have ke : kev (updr σ 4 a) = kev σ := by unfold kev; rw [o 6 (by omega)]
  refine ⟨?_, ?_, ?_, fun v hv => ?_, fun l hl => ?_, fun l v hl hv => ?_, fun i w hi hw => ?_⟩
  · rw [e, up2_ne (by omega), o 5 (by omega)]; exact hS.l
  · rw [e, up2_self, updr_self]
  · rw [e, up2_ne (by omega), ke]; exact hS.e
  · rw [o 0 (by omega)] at hv
    show I' 301 v = _
    rw [ek 301 (by omega), o _ (by omega)]; exact hS.p hv
  · rw [o 5 (by omega)] at hl
    show I' 302 l = _
    rw [ek 302 (by omega), o _ (by omega)]; exact hS.n hl
  · rw [o 5 (by omega)] at hl
    rw [o 0 (by omega)] at hv
    show I' 303 (14 * l + v) = updr σ 4 a (35 + 14 * l + v)
    rw [ek 303 (by omega), o _ (by omega)]; exact hS.g hl hv
  · rw [ke] at hi
    show I' 304 (4 * i + w) = _
    rw [ek 304 (by omega), o 6 (by omega), o _ (by omega)]; exact hS.ev hi hw
theorem plZ_cong {σ : Nat → Int} {b c : Nat → Int} : ∀ {n : Nat}, (∀ g, g < n → b g = c g) → plZ σ b n = plZ σ c n
  | 0, _ => rfl
  | n + 1, h => by rw [plZ_succ, plZ_succ, plZ_cong (n := n) (fun g hg => h g (by omega)), h n (by omega)]
/-- a command can be done -/
def CAN (σ : Nat → Int) (k a c : Int) : Prop := (k = 0 → σ 5 ≠ 4 ∧ pairZ σ ≠ 0) ∧ (k = 1 → 0 < σ 5) ∧ (k = 2 → ((0 ≤ a ∧ a < grs σ) ∧ (0 ≤ c ∧ c < σ 2)) ∧ wmZ σ a c = 0) ∧ (k = 3 → nxZ σ ≠ -1) ∧ (k = 4 → 1 ≤ a ∧ a ≤ 99) ∧ (k = 5 → grs σ ≤ 7) ∧ (k = 6 → a ≠ c ∧ σ 2 = 2 ∧ σ 5 = 0) ∧ (k = 7 → 0 ≤ a ∧ a ≤ 99)
/-- a command as it was read -/
def OKC (σ : Nat → Int) (k a c : Int) : Prop := (0 ≤ k ∧ k ≤ 7) ∧ (0 ≤ a ∧ a ≤ 999) ∧ (0 ≤ c ∧ c ≤ 999) ∧ (k = 6 → a < σ 0 ∧ c < σ 0)
/-- a command was done -/
def PF (σ : Nat → Int) (k a c : Int) (τ : Nat → Int) : Prop := (k = 0 ∧ τ = shZ σ) ∨ (k = 1 ∧ τ = updr σ 5 (σ 5 - 1)) ∨ (k = 2 ∧ τ = comesZ σ a c) ∨ (k = 3 ∧ τ = (stpZ 1 σ).2) ∨ (k = 4 ∧ τ = (stpZ a.toNat σ).2) ∨ (k = 5 ∧ ∃ b : Nat → Nat, FB σ b ∧ τ = (plZ σ (fun g => (b g : Int)) (grs σ).toNat).1) ∨ (k = 6 ∧ ∃ T s, FLW σ a.toNat c.toNat T s ∧ τ = (plZ σ (fun g => if s.testBit g = true then 0 else 1) (σ 0).toNat).1) ∨ (k = 7 ∧ τ = updr σ 4 a)
theorem PF_keeps {σ τ : Nat → Int} {k a c : Int} (hV : VS σ) (hO : OKC σ k a c) (hC : CAN σ k a c) (h6 : σ 6 + 99 ≤ 1000000000) (h : PF σ k a c τ) : VS τ ∧ GE σ τ ∧ τ 6 ≤ σ 6 + 99 := by
  have hM := hV.M
  have b5 := ms_5 hM
  have b0 := ms_0 hM
  have gr := grs_b hM
  obtain ⟨c0, c1, c2, c3, c4, c5, c6, c7⟩ := hC
  rcases h with ⟨rfl, rfl⟩ | ⟨rfl, rfl⟩ | ⟨rfl, rfl⟩ | ⟨rfl, rfl⟩ | ⟨rfl, rfl⟩ | ⟨rfl, b, hb, rfl⟩ | ⟨rfl, T, s, hF, rfl⟩ | ⟨rfl, rfl⟩
  · have h4 := c0 rfl
    exact ⟨shZ_VS hV (by omega), shZ_GE hM (by omega), by rw [shZ_o hM (by omega) (by omega)]; omega⟩
  · exact ⟨growZ_VS hV (c1 rfl), growZ_GE σ, by rw [updr_ne (by omega)]; omega⟩
  · have h2 := c2 rfl
    exact ⟨VS_comes hV h2.1.1 h2.1.2 (by omega), comesZ_GE hM, by rw [comesZ_6 hM]; split <;> omega⟩
  · have h := VS_stp 1 hV (by omega)
    exact ⟨h.1, h.2, by have := (stpZ_keeps 1 hM hV.GV (by omega)).2.2.1; omega⟩
  · have h4 := c4 rfl
    have h := VS_stp a.toNat hV (by omega)
    exact ⟨h.1, h.2, by have := (stpZ_keeps a.toNat hM hV.GV (by omega)).2.2.1; omega⟩
  · have b2 := ms_2 hM
    obtain ⟨i1, i2, i3, i4, i5, i6, -⟩ := plZ_keeps hV (b := fun g => (b g : Int)) (fun g hg => by have := hb.1 g (by omega); omega) (by omega) (grs σ).toNat (by omega)
    exact ⟨i1, i2, by omega⟩
  · have h6' := c6 rfl
    have eg : grs σ = σ 0 := by unfold grs; rw [h6'.2.2]; exact hV.n0
    obtain ⟨i1, i2, i3, i4, i5, i6, -⟩ := plZ_keeps hV (b := fun g => if s.testBit g = true then 0 else 1) (fun g hg => by split <;> omega) (by omega) (σ 0).toNat (by omega)
    exact ⟨i1, i2, by omega⟩
  · exact ⟨credZ_VS hV (c7 rfl), credZ_GE σ a, by rw [updr_ne (by omega)]; omega⟩
section CPF
variable {I : Ii} {J : Jj} {σ : Nat → Int} {nm : Nat → Int64} {k a c : Int}
theorem c_can (hV : VS σ) (hO : OKC σ k a c) (hR : RG 200 I J σ nm) (hS : RS 300 I σ) : wp_X11_canPerform k a c I J (fun r _ _ => Bo r (CAN σ k a c)) := by
  have hM := hV.M
  have b0 := ms_0 hM
  have b2 := ms_2 hM
  have b5 := ms_5 hM
  have gr := grs_b hM
  have q2 := hR.q
  have q0 := hR.n
  have l5 := hS.l
  obtain ⟨hk, ha, hc, hv⟩ := hO
  refine ⟨rgK (by omega), fun z => by omega, fun z => ?_, fun z => ?_, fun z => ?_, fun z => ?_, fun z => ?_, fun z => ?_, fun z => ?_, fun z => ?_⟩
  · subst z
    refine fr_X11_whyNotShrink (c_whyNotShrink hV hR hS) (fun v I' J' hv _ => ?_)
    subst hv
    by_cases c4 : σ 5 = 4
    · rw [if_pos c4]; exact ⟨rgK (by omega), fun _ => Bo.zero (fun z => (z.1 rfl).1 c4), fun z => absurd z (by decide)⟩
    · rw [if_neg c4]
      by_cases c5 : pairZ σ = 0
      · rw [if_pos c5]; exact ⟨rgK (by omega), fun _ => Bo.zero (fun z => (z.1 rfl).2 c5), fun z => absurd z (by decide)⟩
      · rw [if_neg c5]; exact ⟨rgK (by omega), fun z => absurd rfl z, fun _ => Bo.one ⟨fun _ => ⟨c4, c5⟩, fun z => absurd z (by decide), fun z => absurd z (by decide), fun z => absurd z (by decide), fun z => absurd z (by decide), fun z => absurd z (by decide), fun z => absurd z (by decide), fun z => absurd z (by decide)⟩⟩
  · subst z
    refine ⟨rgK (by omega), fun y => Bo.zero (fun z => by have := z.2.1 rfl; omega), fun y => Bo.one ⟨fun z => absurd z (by decide), fun _ => by omega, fun z => absurd z (by decide), fun z => absurd z (by decide), fun z => absurd z (by decide), fun z => absurd z (by decide), fun z => absurd z (by decide), fun z => absurd z (by decide)⟩⟩
  · subst z
    have no : ¬ ((0 ≤ a ∧ a < grs σ) ∧ (0 ≤ c ∧ c < σ 2)) → ¬ CAN σ 2 a c := fun y z => y (z.2.2.1 rfl).1
    refine ⟨rgK (by omega), fun y => by omega, fun _ => groupCount_of sK300 hV hS ⟨rgK (by omega), rgK (by omega), fun y => ⟨fun _ => Bo.zero (no (by omega)), fun z => absurd rfl z⟩, fun y => ⟨fun z => absurd z (by decide), fun _ => ⟨rgK (by omega), fun y2 => by omega, fun _ => ⟨rgK (by omega), fun y2 => ⟨fun _ => Bo.zero (no (by omega)), fun z => absurd rfl z⟩, fun y2 => ⟨fun z => absurd z (by decide), fun _ => ?_⟩⟩⟩⟩⟩⟩
    have g1 : wp_X11_whyNotMove a c I J (fun r _ _ => r = wmZ σ a c) := by
      refine ⟨rgK (by omega), fun y => by omega, fun _ => groupCount_of sK300 hV hS ⟨rgK (by omega), rgK (by omega), fun y => by omega, fun _ => ⟨fun _ => ?_, fun z => absurd z (by decide)⟩⟩⟩
      refine ⟨rgK (by omega), fun y => by omega, fun _ => ⟨rgK (by omega), fun y => by omega, fun _ => ⟨fun _ => ?_, fun z => absurd z (by decide)⟩⟩⟩
      refine fr_X4_take (c_take sK300 hV hR hS) (fun I3 J3 hE _ => reasonAgainst_of hV hE (g := a.toNat) (p := c.toNat) (by omega) (by omega) (by omega) (by omega) ?_)
      rw [show ((a.toNat : Nat) : Int) = a by omega, show ((c.toNat : Nat) : Int) = c by omega]
    refine fr_X11_whyNotMove g1 (fun v I' J' hv _ => ?_)
    have wb := wmZ_b σ a c
    subst hv
    exact ⟨rgK (by omega), fun y => Bo.zero (fun z => y (z.2.2.1 rfl).2), fun y => Bo.one ⟨fun z => absurd z (by decide), fun z => absurd z (by decide), fun _ => ⟨⟨⟨by omega, by omega⟩, ⟨by omega, by omega⟩⟩, y⟩, fun z => absurd z (by decide), fun z => absurd z (by decide), fun z => absurd z (by decide), fun z => absurd z (by decide), fun z => absurd z (by decide)⟩⟩
  · subst z
    have g1 : wp_X11_nextStep I J (fun r _ _ => r = nxZ σ) := fr_X4_take (c_take sK300 hV hR hS) (fun I3 J3 hE _ => chosenStep_of hV hE rfl)
    refine fr_X11_nextStep g1 (fun v I' J' hv _ => ?_)
    have nb := nxZ_b hM
    subst hv
    exact ⟨rgK (by omega), fun y => Bo.zero (fun z => z.2.2.2.1 rfl y), fun y => Bo.one ⟨fun z => absurd z (by decide), fun z => absurd z (by decide), fun z => absurd z (by decide), fun _ => y, fun z => absurd z (by decide), fun z => absurd z (by decide), fun z => absurd z (by decide), fun z => absurd z (by decide)⟩⟩
  · subst z
    exact ⟨rgK (by omega), fun y => ⟨Or.inl rfl, Bo.zero (fun z => by have := z.2.2.2.2.1 rfl; omega)⟩, fun y => ⟨fun y2 => ⟨Or.inl rfl, Bo.zero (fun z => by have := z.2.2.2.2.1 rfl; omega)⟩, fun y2 => ⟨Or.inr rfl, Bo.one ⟨fun z => absurd z (by decide), fun z => absurd z (by decide), fun z => absurd z (by decide), fun z => absurd z (by decide), fun _ => by omega, fun z => absurd z (by decide), fun z => absurd z (by decide), fun z => absurd z (by decide)⟩⟩⟩⟩
  · subst z
    exact groupCount_of sK300 hV hS ⟨rgK (by omega), fun y => ⟨Or.inl rfl, Bo.zero (fun z => by have := z.2.2.2.2.2.1 rfl; omega)⟩, fun y => ⟨Or.inr rfl, Bo.one ⟨fun z => absurd z (by decide), fun z => absurd z (by decide), fun z => absurd z (by decide), fun z => absurd z (by decide), fun z => absurd z (by decide), fun _ => by omega, fun z => absurd z (by decide), fun z => absurd z (by decide)⟩⟩⟩
  · subst z
    have hv' := hv rfl
    refine ⟨rgK (by omega), fun y => by omega, fun _ => ⟨rgK (by omega), fun y => by omega, fun _ => ⟨fun z => absurd z (by decide), fun _ => ?_⟩⟩⟩
    refine ⟨rgK (by omega), fun y => by omega, fun _ => ⟨rgK (by omega), fun y => by omega, fun _ => ⟨fun z => absurd z (by decide), fun _ => ?_⟩⟩⟩
    refine ⟨rgK (by omega), rgK (by omega), fun y => Bo.zero (fun z => (z.2.2.2.2.2.2.1 rfl).1 y), fun y => ?_⟩
    refine ⟨rgK (by omega), fun y2 => ⟨fun _ => Bo.zero (fun z => by have := z.2.2.2.2.2.2.1 rfl; omega), fun z => absurd rfl z⟩, fun y2 => ?_⟩
    refine ⟨rgK (by omega), fun y3 => ⟨fun _ => Bo.zero (fun z => by have := z.2.2.2.2.2.2.1 rfl; omega), fun z => absurd rfl z⟩, fun y3 => ?_⟩
    exact ⟨fun z => absurd z (by decide), fun _ => Bo.one ⟨fun z => absurd z (by decide), fun z => absurd z (by decide), fun z => absurd z (by decide), fun z => absurd z (by decide), fun z => absurd z (by decide), fun z => absurd z (by decide), fun _ => ⟨y, by omega, by omega⟩, fun z => absurd z (by decide)⟩⟩
  · subst z
    refine ⟨rgK (by omega), fun y => by omega, fun _ => ⟨fun y2 => ⟨Or.inl rfl, Bo.zero (fun z => by have := z.2.2.2.2.2.2.2 rfl; omega)⟩, fun y2 => ⟨Or.inr rfl, Bo.one ?_⟩⟩⟩
    exact ⟨fun z => absurd z (by decide), fun z => absurd z (by decide), fun z => absurd z (by decide), fun z => absurd z (by decide), fun z => absurd z (by decide), fun z => absurd z (by decide), fun z => absurd z (by decide), fun _ => by omega⟩
theorem c_perform (hV : VS σ) (hO : OKC σ k a c) (hC : CAN σ k a c) (h6 : σ 6 + 99 ≤ 1000000000) (hR : RG 200 I J σ nm) (hS : RS 300 I σ) : wp_X11_perform k a c I J (fun I' _ => ∃ τ, PF σ k a c τ ∧ RS 300 I' τ) := by
  have hM := hV.M
  have b5 := ms_5 hM
  obtain ⟨hk, ha, hc, hv⟩ := hO
  obtain ⟨c0, c1, c2, c3, c4, c5, c6, c7⟩ := hC
  have l5 := hS.l
  refine ⟨rgK (by omega), fun z => by omega, fun z => ?_, fun z => ?_, fun z => ?_, fun z => ?_, fun z => ?_, fun z => ?_, fun z => ?_, fun z => ?_⟩
  · have h4 := c0 z
    exact fr_X11_mergeGroups (c_mergeGroups hV (by omega) hR hS) (fun I' J' h _ => ⟨_, Or.inl ⟨z, rfl⟩, h⟩)
  · intro I3 e3
    refine ⟨_, Or.inr (Or.inl ⟨z, rfl⟩), RS_grow hM (c1 z) hS ?_ (by rw [e3, up2_key (by omega)]) (by rw [e3, up2_key (by omega)]) (by rw [e3, up2_key (by omega)]) (by rw [e3, up2_key (by omega)])⟩
    rw [e3, up2_row, l5]
  · have h2 := c2 z
    have hne : gPt σ ((a.toNat : Nat) : Int) ≠ ((c.toNat : Nat) : Int) := by
      rw [show ((a.toNat : Nat) : Int) = a by omega, show ((c.toNat : Nat) : Int) = c by omega]
      intro y
      have := h2.2
      unfold wmZ at this
      rw [if_pos y] at this
      omega
    refine fr_X11_takeTo (c_takeTo hV hR hS (g := a.toNat) (p := c.toNat) (by omega) (by omega) (by omega) (by omega) hne) (fun I' J' h _ => ⟨comesZ σ a c, Or.inr (Or.inr (Or.inl ⟨z, rfl⟩)), ?_⟩)
    rw [show ((a.toNat : Nat) : Int) = a by omega, show ((c.toNat : Nat) : Int) = c by omega] at h
    exact h
  · exact fr_X11_makeSteps (c_makeSteps (Or.inl rfl) (m := 1) (by omega) hV hR hS (by omega)) (fun v I' J' h _ => ⟨_, Or.inr (Or.inr (Or.inr (Or.inl ⟨z, rfl⟩))), h.2⟩)
  · have h4 := c4 z
    have := c_makeSteps (nm := nm) (k := 300) (Or.inl rfl) (m := a.toNat) (by omega) hV hR hS (by omega)
    rw [show ((a.toNat : Nat) : Int) = a by omega] at this
    exact fr_X11_makeSteps this (fun v I' J' h _ => ⟨_, Or.inr (Or.inr (Or.inr (Or.inr (Or.inl ⟨z, rfl⟩)))), h.2⟩)
  · refine fr_X11_searchBest (c_searchBest hV (c5 z) hR hS) (fun I7 J7 h7 s7 => ?_)
    obtain ⟨hE, b, hF, -, -, hb⟩ := h7
    refine fr_X11_takeBest (c_takeBest hV (c5 z) (by omega) (hR.fr s7) (hS.fr s7) hF.1 (fun g hg => ?_) hb) (fun v I' J' h _ => ⟨_, Or.inr (Or.inr (Or.inr (Or.inr (Or.inr (Or.inl ⟨z, b, hF, rfl⟩))))), h.2⟩)
    exact (hE.2.2.2.2.2.2.1 g hg).2.2
  · have h6' := c6 z
    have hv' := hv z
    refine fr_X11_takeApart (c_takeApart hV h6'.2.1 h6'.2.2 (by omega) hR hS (v := a.toNat) (w := c.toNat) (by omega) (by omega) (by omega) (by omega) (by omega)) (fun v I' J' h _ => ?_)
    obtain ⟨T, s, hF, -, hS'⟩ := h
    exact ⟨_, Or.inr (Or.inr (Or.inr (Or.inr (Or.inr (Or.inr (Or.inl ⟨z, T, s, hF, rfl⟩)))))), hS'⟩
  · intro I10 e10
    exact ⟨_, Or.inr (Or.inr (Or.inr (Or.inr (Or.inr (Or.inr (Or.inr ⟨z, rfl⟩)))))), RS_cred hS e10⟩
end CPF
