/-! ===== rows end ===== -/
theorem stpZ_Tl : ∀ (k : Nat) {σ : Nat → Int}, VS σ → σ 6 + (k : Int) ≤ 1000000000 → Tl 350 σ → Tl 350 (stpZ k σ).2
  | 0, σ, _, _, h => h
  | k + 1, σ, hV, h6, h => by
    unfold stpZ
    by_cases c : nxZ σ = -1
    · rw [if_pos c]; exact h
    · rw [if_neg c]
      have hi := nxZ_in hV.M c
      have h1 := VS_comes hV hi.1 hi.2 (by omega)
      have h2 := comesZ_6 (σ := σ) (g := nxZ σ / 10) (p := nxZ σ % 10) hV.M
      exact stpZ_Tl k h1 (by split at h2 <;> omega) (comesZ_Tl hV.M h)
theorem plZ_Tl {σ : Nat → Int} {b : Nat → Int} (hV : VS σ) (hb : ∀ g : Nat, (g : Int) < grs σ → 0 ≤ b g ∧ b g < σ 2) (h6 : σ 6 + 14 ≤ 1000000000) (h : Tl 350 σ) : ∀ g : Nat, (g : Int) ≤ grs σ → Tl 350 (plZ σ b g).1
  | 0, _ => h
  | g + 1, hg => by
    rw [plZ_succ]
    have i := plZ_keeps hV hb h6 g (by omega)
    exact comesZ_Tl i.1.M (plZ_Tl hV hb h6 h g (by omega))
theorem PF_Tl {σ τ : Nat → Int} {k a c : Int} (hV : VS σ) (hO : OKC σ k a c) (hC : CAN σ k a c) (h6 : σ 6 + 99 ≤ 1000000000) (h : PF σ k a c τ) (ht : Tl 350 σ) : Tl 350 τ := by
  have hM := hV.M
  have b5 := ms_5 hM
  have b0 := ms_0 hM
  have b2 := ms_2 hM
  have gr := grs_b hM
  obtain ⟨c0, c1, c2, c3, c4, c5, c6, c7⟩ := hC
  rcases h with ⟨rfl, rfl⟩ | ⟨rfl, rfl⟩ | ⟨rfl, rfl⟩ | ⟨rfl, rfl⟩ | ⟨rfl, rfl⟩ | ⟨rfl, b, hb, rfl⟩ | ⟨rfl, T, s, hF, rfl⟩ | ⟨rfl, rfl⟩
  · have h4 := c0 rfl
    exact shZ_Tl hM (by omega) ht
  · exact Tl_up ht (by omega)
  · exact comesZ_Tl hM ht
  · exact stpZ_Tl 1 hV (by omega) ht
  · have h4 := c4 rfl
    exact stpZ_Tl a.toNat hV (by omega) ht
  · exact plZ_Tl hV (b := fun g => (b g : Int)) (fun g hg => by have := hb.1 g (by omega); omega) (by omega) ht (grs σ).toNat (by omega)
  · have h6' := c6 rfl
    have eg : grs σ = σ 0 := by unfold grs; rw [h6'.2.2]; exact hV.n0
    exact plZ_Tl hV (b := fun g => if s.testBit g = true then 0 else 1) (fun g hg => by split <;> omega) (by omega) ht (σ 0).toNat (by omega)
  · exact Tl_up ht (by omega)
theorem RUN_Tl {K A C : Nat → Int} {n : Nat} {de : Nat} {τ : Nat → Int} : ∀ (f pc : Nat) (l : Nat → Int) (dn : Nat) (σ : Nat → Int), RUN K A C n f pc l dn σ de τ → pc ≤ n → (∀ i, i < n → IT σ K A C i) → VS σ → σ 6 + 99 * ((41 - dn : Nat) : Int) ≤ 1000000000 → Tl 350 σ → Tl 350 τ
  | 0, pc, l, dn, σ, h, _, _, _, _, _ => absurd h id
  | f + 1, pc, l, dn, σ, h, hpc, hI, hV, h6, ht => by
    by_cases c : n ≤ pc ∨ 40 ≤ dn
    · rw [(h.1 c).2]; exact ht
    · obtain ⟨g8, g9, go⟩ := h.2 c
      have hp : pc < n := by omega
      by_cases c8 : K pc = 8
      · exact RUN_Tl f (pc + 1) _ dn σ (g8 c8) (by omega) hI hV h6 ht
      · by_cases c9 : K pc = 9
        · obtain ⟨d0, -⟩ := IT_9 (hI pc hp) c9
          obtain ⟨b1, -⟩ := stk_in (K := K) (i := pc) (j := (stk K pc).1 - 1) (by omega)
          by_cases q : 0 < l ((stk K pc).1 - 1) - 1
          · exact RUN_Tl f _ _ dn σ ((g9 c9).1 q) (by omega) hI hV h6 ht
          · exact RUN_Tl f _ _ dn σ ((g9 c9).2 q) (by omega) hI hV h6 ht
        · have hO := IT_o (hI pc hp) c8 c9
          by_cases hC : CAN σ (K pc) (A pc) (C pc)
          · obtain ⟨σ', hP, hR⟩ := (go c8 c9).2 hC
            obtain ⟨v1, v2, v3⟩ := PF_keeps hV hO hC (by omega) hP
            exact RUN_Tl f (pc + 1) l (dn + 1) σ' hR (by omega) (fun i hi => IT_cong (hI i hi) (v2 0 (Or.inl (by omega)))) v1 (by omega) (PF_Tl hV hO hC (by omega) hP ht)
          · rw [((go c8 c9).1 hC).2]; exact ht
/-! ===== edges and groups ===== -/
section ASN
variable {I : Ii} {J : Jj} {σ : Nat → Int} {nm : Nat → Int64} {x y : Int}
theorem c_groupOf (hV : VS σ) (hR : RG 200 I J σ nm) (hS : RS 300 I σ) (hx : 0 ≤ x ∧ x < σ 0) : wp_X11_groupOf x I J (fun r _ _ => r = gAt σ x.toNat) := by
  have b0 := ms_0 hV.M
  have b5 := ms_5 hV.M
  have hl := hS.l
  exact reqV_of hV hR hx ⟨sK300, at_of (n := 70) (i := 14 * (σ 5).toNat + x.toNat) rfl (by omega) (by omega) (hS.gA (by omega))⟩
theorem isCut_of {e : Nat} (hV : VS σ) (hR : RG 200 I J σ nm) (hS : RS 300 I σ) (hx : x = (e : Int)) (he : e < (σ 1).toNat) {Q : Int → Ii → Jj → Prop} (h1 : cutE σ e → Q 1 I J) (h0 : ¬ cutE σ e → Q 0 I J) : wp_X11_isCut x I J Q := by
  have b1 := ms_1 hV.M
  have b0 := ms_0 hV.M
  have ha := hV.a he
  have hb := hV.b he
  refine at_of (n := 40) rfl hx (by omega) ?_
  rw [hR.a he]
  refine at_of (n := 14) (i := (σ (110 + e)).toNat) rfl (by omega) (by omega) (at_of (n := 40) rfl hx (by omega) ?_)
  rw [hR.b he]
  refine at_of (n := 14) (i := (σ (150 + e)).toNat) rfl (by omega) (by omega) ?_
  rw [hS.p (v := (σ (110 + e)).toNat) (by omega), hS.p (v := (σ (150 + e)).toNat) (by omega)]
  have p1 := hV.p (v := (σ (110 + e)).toNat) (by omega)
  have p2 := hV.p (v := (σ (150 + e)).toNat) (by omega)
  have b2 := ms_2 hV.M
  exact ⟨rgK (by omega), rgK (by omega), fun c => h0 (fun z => z c), fun c => h1 c⟩
/-- what an edge tells -/
def edgZ (σ : Nat → Int) (e : Nat) (y : Int) : Int := if y = 0 then σ (110 + e) else if y = 1 then σ (150 + e) else if y = 2 then σ (190 + e) else if σ (21 + (σ (110 + e)).toNat) = σ (21 + (σ (150 + e)).toNat) then 0 else 1
theorem c_edge (hV : VS σ) (hR : RG 200 I J σ nm) (hS : RS 300 I σ) (hx : 0 ≤ x ∧ x < σ 1) (hy : 0 ≤ y ∧ y ≤ 3) : wp_X11_edge x y I J (fun r _ _ => r = edgZ σ x.toNat y) := by
  have b1 := ms_1 hV.M
  have hm := hR.m
  unfold edgZ
  refine ⟨rgK (by omega), fun z => by omega, fun _ => ⟨rgK (by omega), fun _ => ⟨rgK (by omega), fun z => by omega, fun c => ?_, fun c => ?_, fun c => ?_, fun c => ?_⟩, fun z => by omega⟩⟩
  · exact at_of (n := 40) (i := x.toNat) rfl (by omega) (by omega) (by rw [if_pos c]; exact hR.a (by omega))
  · exact at_of (n := 40) (i := x.toNat) rfl (by omega) (by omega) (by rw [if_neg (by omega), if_pos c]; exact hR.b (by omega))
  · exact at_of (n := 40) (i := x.toNat) rfl (by omega) (by omega) (by rw [if_neg (by omega), if_neg (by omega), if_pos c]; exact hR.h (by omega))
  · refine isCut_of (e := x.toNat) hV hR hS (by omega) (by omega) (fun h => ⟨fun z => absurd z (by decide), fun _ => ?_⟩) (fun h => ⟨fun _ => ?_, fun z => absurd rfl z⟩)
    · rw [if_neg (by omega), if_neg (by omega), if_neg (by omega), if_neg h]
    · rw [if_neg (by omega), if_neg (by omega), if_neg (by omega), if_pos (Classical.not_not.mp h)]
end ASN
