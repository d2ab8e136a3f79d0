/-! ===== a script keeps the graph; undo, save, restore of the class ===== -/
theorem RUN_GE {K A C : Nat → Int} {n : Nat} {de : Nat} {τ : Nat → Int} : ∀ (f pc : Nat) (l : Nat → Int) (dn : Nat) (σ : Nat → Int), RUN K A C n f pc l dn σ de τ → pc ≤ n → (∀ i, i < n → IT σ K A C i) → VS σ → σ 6 + 99 * ((41 - dn : Nat) : Int) ≤ 1000000000 → GE σ τ
  | 0, pc, l, dn, σ, h, _, _, _, _ => absurd h id
  | f + 1, pc, l, dn, σ, h, hpc, hI, hV, h6 => by
    by_cases c : n ≤ pc ∨ 40 ≤ dn
    · rw [(h.1 c).2]; exact GE.refl σ
    · obtain ⟨g8, g9, go⟩ := h.2 c
      have hp : pc < n := by omega
      by_cases c8 : K pc = 8
      · exact RUN_GE f (pc + 1) _ dn σ (g8 c8) (by omega) hI hV h6
      · by_cases c9 : K pc = 9
        · obtain ⟨d0, -⟩ := IT_9 (hI pc hp) c9
          obtain ⟨b1, -⟩ := stk_in (K := K) (i := pc) (j := (stk K pc).1 - 1) (by omega)
          by_cases q : 0 < l ((stk K pc).1 - 1) - 1
          · exact RUN_GE f _ _ dn σ ((g9 c9).1 q) (by omega) hI hV h6
          · exact RUN_GE f _ _ dn σ ((g9 c9).2 q) (by omega) hI hV h6
        · have hO := IT_o (hI pc hp) c8 c9
          by_cases hC : CAN σ (K pc) (A pc) (C pc)
          · obtain ⟨σ', hP, hR⟩ := (go c8 c9).2 hC
            obtain ⟨v1, v2, v3⟩ := PF_keeps hV hO hC (by omega) hP
            exact v2.trans (RUN_GE f (pc + 1) l (dn + 1) σ' hR (by omega) (fun i hi => IT_cong (hI i hi) (v2 0 (Or.inl (by omega)))) v1 (by omega))
          · rw [((go c8 c9).1 hC).2]; exact GE.refl σ
section CUN
variable {I : Ii} {J : Jj} {σ τ : Nat → Int} {nm : Nat → Int64}
theorem c_undo {u nw : Nat} {pf : Nat → Nat → Int} (hS : RS 300 I σ) (hV : ∀ i, i < u → VS (pf i)) (hH : HR I u nw pf) : wp_X11_undo I J (fun r I' _ => (u = 0 → r = -1 ∧ RS 300 I' σ ∧ HR I' u nw pf) ∧ (0 < u → r = (u : Int) - 1 ∧ RS 300 I' (pf (u - 1)) ∧ ∃ nw', HR I' (u - 1) nw' pf)) := by
  refine fr_X3_takeBack (c_takeBack hV hH) (fun v I1 J1 h1 s1 => ?_)
  obtain ⟨a, b⟩ := h1
  by_cases c : u = 0
  · obtain ⟨rfl, rfl⟩ := a c
    exact ⟨fun _ => ⟨fun _ => ⟨rfl, hS, hH⟩, fun z => by omega⟩, fun z => absurd rfl z⟩
  · obtain ⟨rfl, b1, nw', b2⟩ := b (by omega)
    have h2 := b2.1
    exact ⟨fun z => absurd z (by decide), fun _ => ⟨fun z => absurd z c, fun _ => ⟨by omega, b1, nw', b2⟩⟩⟩
theorem gK220 : gK 220 := Or.inr (Or.inr rfl)
theorem sK320 : sK 320 := by unfold sK; omega
theorem c_save (hV : VS σ) (hR : RG 200 I J σ nm) (hS : RS 300 I σ) : wp_X11_save I J (fun r I' J' => r = cutZ σ ∧ RG 220 I' J' σ nm ∧ RS 320 I' σ ∧ I' 100 10 = 1) := by
  refine fr_X2_copyFrom (c_copyG gK220 gK200 (by omega) hV.M hR) (fun I1 J1 h1 s1 => ?_)
  have hR1 : RG 200 I1 J1 σ nm := hR.fr s1
  have hS1 : RS 300 I1 σ := hS.fr s1
  refine fr_X8_copyFrom (c_copyS sK320 sK300 (by omega) (by omega) hV hS1) (fun I2 J2 h2 s2 => ?_)
  intro I3 e3
  have k3 : ∀ q, q ≠ 100 → I3 q = I2 q := fun q hq => by rw [e3, up2_key hq]
  have hR3 : RG 200 I3 J2 σ nm := (hR1.fr s2).cong (k3 _ (by omega)) rfl (k3 _ (by omega)) (k3 _ (by omega)) (k3 _ (by omega)) (k3 _ (by omega))
  have hS3 : RS 300 I3 σ := (hS1.fr s2).cong (k3 _ (by omega)) (k3 _ (by omega)) (k3 _ (by omega)) (k3 _ (by omega)) (k3 _ (by omega))
  have hG3 : RG 220 I3 J2 σ nm := (h1.1.fr s2).cong (k3 _ (by omega)) rfl (k3 _ (by omega)) (k3 _ (by omega)) (k3 _ (by omega)) (k3 _ (by omega))
  have hT3 : RS 320 I3 σ := h2.cong (k3 _ (by omega)) (k3 _ (by omega)) (k3 _ (by omega)) (k3 _ (by omega)) (k3 _ (by omega))
  exact fr_X11_cut (c_cut hV hR3 hS3) (fun r I4 J4 h4 s4 => ⟨h4, hG3.fr s4, hT3.fr s4, s4.i.trans (by rw [e3, up2_self])⟩)
theorem c_restore (hk : I 100 10 = 1) (hV : VS τ) (hR : RG 220 I J τ nm) (hS : RS 320 I τ) : wp_X11_restore I J (fun r I' J' => r = cutZ τ ∧ RG 200 I' J' τ nm ∧ RS 300 I' τ ∧ I' 111 2 = 0) := by
  refine ⟨rgK (by omega), fun _ => ?_, fun z => by omega⟩
  refine fr_X2_copyFrom (c_copyG gK200 gK220 (by omega) hV.M hR) (fun I1 J1 h1 s1 => ?_)
  have hS1 : RS 320 I1 τ := hS.fr s1
  refine fr_X8_copyFrom (c_copyS sK300 sK320 (by omega) (by omega) hV hS1) (fun I2 J2 h2 s2 => ?_)
  intro I3 e3
  have k3 : ∀ q, q ≠ 111 → I3 q = I2 q := fun q hq => by rw [e3, up2_key hq]
  have hR3 : RG 200 I3 J2 τ nm := (h1.1.fr s2).cong (k3 _ (by omega)) rfl (k3 _ (by omega)) (k3 _ (by omega)) (k3 _ (by omega)) (k3 _ (by omega))
  have hS3 : RS 300 I3 τ := h2.cong (k3 _ (by omega)) (k3 _ (by omega)) (k3 _ (by omega)) (k3 _ (by omega)) (k3 _ (by omega))
  exact fr_X11_cut (c_cut hV hR3 hS3) (fun r I4 J4 h4 s4 => ⟨h4, hR3.fr s4, hS3.fr s4, s4.i.trans (by rw [e3, up2_self])⟩)
end CUN
