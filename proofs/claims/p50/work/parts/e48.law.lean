/-! ===== the law, behind its two objects ===== -/
theorem out_110 {σ : Nat → Int} (hV : VS σ) (h0 : σ 0 ≤ 10) (hb : ∀ a b, 0 ≤ TBz σ a b ∧ TBz σ a b ≤ 9) {a : Nat} (ha : a < (σ 0).toNat) : outZ σ (2 ^ a) ≤ 110 := by
  rw [← lk_out hV]
  unfold lkZ
  rw [sm_pick ha (fun k hk hne => if_neg (fun z => ?_))]
  · rw [if_pos (by rw [Nat.testBit_two_pow]; exact decide_eq_true rfl)]
    have := (sm_bound (c := 9) (n := (σ 0).toNat) (f := fun b => if (difN (2 ^ (σ 0).toNat - 1) (2 ^ a)).testBit b = true then TBz σ a b else 0) (fun k _ => by
      split
      · exact hb a k
      · exact ⟨by decide, by decide⟩)).2
    omega
  · rw [Nat.testBit_two_pow] at z
    exact hne (of_decide_eq_true z).symm
section LAW
variable {I0 I : Ii} {J : Jj} {σ : Nat → Int} {nm : Nat → Int64} {L : List Int} {sL : Nat} {xs : Nat → Int}
theorem c_law13 {Q : Int → Ii → Jj → Prop} (h : FG I0 σ nm L 6000 I) (h1 : I0 101 1 = 0) (h2 : I0 111 1 = 0) (hd : ∀ k, k < 390 → dS I0 k ≠ 3) (hq : ∀ (I' : Ii) (J' : Jj), Q 1 I' J') : wp_L_law13 sL xs I J Q := by
  obtain ⟨hW, ⟨z5, z6⟩, ⟨t, tb, e12, ht, t1, t2, hby⟩, hb, hl, ⟨T, p, hx⟩, hX, hN, hT⟩ := h
  unfold wp_L_law13
  rw [e12]
  refine ⟨by omega, ?_⟩
  rw [Int.toNat_natCast]
  refine c_feeds ⟨hN.1, by omega⟩ ht ⟨t1, t2⟩ hby hb (by rw [hX.1 101 (by omega) (by omega)]; exact h1) hl (fun I2 J2 x2 n2 g1 g2 g3 => ⟨fun z => absurd z (by decide), fun _ => ?_⟩)
  have m2 := x2.1
  have w2 : WO σ I2 := by
    obtain ⟨hV, hNs, ⟨L1, hL⟩, ⟨L2, hE⟩, hDn⟩ := hW
    refine ⟨hV, WNs_keep hN.1 (by omega) hNs x2 (fun k h1 h2 q => by omega), ⟨L1, WNl_keep hN.1 hL x2 (by omega) (fun q => ?_) (fun l hl q => ?_)⟩, ⟨L2, AL_keep hN.1 hE x2 (Or.inr rfl) (by omega) (fun q => ?_)⟩, by rw [(x2.2 1020 (by omega) (by omega)).1 (by omega), (x2.2 1021 (by omega) (by omega)).1 (by omega)]; exact hDn⟩
    · have := hL.1.2.2.1; omega
    · obtain ⟨b1, b2, b3⟩ := hL.1.2.2.2.2.2.1 l (by omega); omega
    · have := hE.2.2.1; omega
  have d2 : ∀ k, k < 390 → dS I2 k ≠ 3 := fun k hk => by
    rw [(ExW.ds x2 (k := k) (by omega) (by omega)).1]
    show I (1000000 + k) 0 ≠ 3
    rw [hX.2 k (by omega) (by omega)]
    exact hd k hk
  refine fr_X11_readText (c_readText (nm := nm0) (u := (σ, nm, T, p)) zrR_Z g1 g2 (by omega) (fun i hi => by have := hb i hi; omega) hx) (fun v I3 J3 hv s3 => ?_)
  obtain ⟨rfl, q1, q2, q3, -⟩ := hv
  have k3 : ∀ k, 390 ≤ k → I3 k = I2 k := fun k hk => s3.k (wlk_hi rfl k hk)
  have w3 : WO σ I3 := w2.cls (by omega) k3
  have n3 : I3 999 0 = I2 999 0 := by rw [k3 999 (by omega)]
  have e111 : I3 111 1 = 0 := by
    have : I3 111 1 = I2 111 1 := s3.i
    rw [this, g3, hX.1 111 (by omega) (by omega)]; exact h2
  have hL : LWS σ nm 0 0 (fun _ _ => 0) I3 J3 := ⟨q1, q2, w3, ⟨⟨by rw [q3]; rfl, by rw [e111]; rfl, by decide, by decide, fun j hj => absurd hj (Nat.not_lt_zero _)⟩, fun i hi => absurd hi (Nat.not_lt_zero _)⟩, by omega, fun k hk => by
    show I3 (1000000 + k) 0 ≠ 3
    rw [k3 _ (by omega)]; exact d2 k hk⟩
  have ew : I3 1000 0 = σ 0 := w3.2.1.1.1
  have hs := hW.1
  rw [ew]
  refine ⟨⟨by show -2147483648 ≤ σ 0; omega, by show σ 0 < 2147483648; omega⟩, ⟨by omega, by omega⟩, fun _ => ⟨15, by decide, ?_⟩, fun z => absurd rfl z⟩
  exact c_turns hs.1 (fun a ha => out_110 hs.1 hs.2.2 hT ha) (fun I' J' => hq I' J') 14 0 rfl σ 0 0 _ I3 J3 hL (fun _ _ => rfl) (by rw [z6]; decide) (by omega)
end LAW
