/-! ===== a script runs: the class ===== -/
/-- the class's script, as it stands -/
def CD (K A C : Nat → Int) (n : Nat) (I : Ii) : Prop := I 106 4 = (n : Int) ∧ ∀ i, i < n → I 107 i = K i ∧ I 108 i = A i ∧ I 109 i = C i
section CRN
theorem CD.cong {K A C : Nat → Int} {n : Nat} {I I' : Ii} (h : CD K A C n I) (e6 : I' 106 = I 106) (e7 : I' 107 = I 107) (e8 : I' 108 = I 108) (e9 : I' 109 = I 109) : CD K A C n I' := by
  unfold CD
  rw [e6, e7, e8, e9]
  exact h
theorem c_runsL {K A C : Nat → Int} {n : Nat} {nm : Nat → Int64} {Q : Int → Ii → Jj → Prop} {M : Int} (hn : n ≤ 60) (hM : M + 99 ≤ 1000000000) : ∀ (f pc : Nat) (l : Nat → Int) (dn : Nat) (σ : Nat → Int) (tn : Nat) (I : Ii) (J : Jj), trn K n pc l < (f : Int) → tn + f ≤ 1000000 → (∀ i, i < n → IT σ K A C i) → VS σ → σ 6 + 99 * ((40 - dn : Nat) : Int) ≤ M → RG 200 I J σ nm → RS 300 I σ → CD K A C n I → dn ≤ 40 → pc ≤ n → (∀ j, j < (stk K pc).1 → I 110 ((stk K pc).2 j) = l j ∧ 1 ≤ l j ∧ l j ≤ 20) →
    (∀ (de : Nat) (τ : Nat → Int) (I' : Ii) (J' : Jj), RUN K A C n f pc l dn σ de τ → RS 300 I' τ → VS τ → RG 200 I' J' τ nm → τ 6 ≤ M → Q (de : Int) I' J') → L_X11_runCommands_6 Q f (dn : Int) (pc : Int) (tn : Int) I J
  | 0, pc, l, dn, σ, tn, I, J, h, _, _, _, _, _, _, _, _, _, hst, _ => by
    have := trn_nn (K := K) (n := n) (pc := pc) (l := l) (fun j hj => (hst j hj).2.1)
    omega
  | f + 1, pc, l, dn, σ, tn, I, J, h, ht, hI, hV, h6, hR, hS, hX, hdn, hpc, hst, hq => by
    have h41 := hX.1
    refine ls_X11_runCommands_6 ?_
    unfold Lb_X11_runCommands_6
    have hd2 : (stk K pc).1 ≤ 2 := stk_2 (σ := σ) (A := A) (C := C) (fun j hj => hI j (by omega))
    refine ⟨rgK (by omega), fun z => by omega, fun _ => ⟨rgK (by omega), rgK (by omega), fun c => ?_, fun c => ⟨rgK (by omega), fun c2 => ?_, fun c2 => ?_⟩⟩⟩
    · exact hq dn σ I J ⟨fun _ => ⟨rfl, rfl⟩, fun z => absurd (Or.inl (by omega)) z⟩ hS hV hR (by omega)
    · exact hq dn σ I J ⟨fun _ => ⟨rfl, rfl⟩, fun z => absurd (Or.inr (by omega)) z⟩ hS hV hR (by omega)
    · have hp : pc < n := by omega
      have nz : ¬ (n ≤ pc ∨ 40 ≤ dn) := by omega
      have it := hI pc hp
      have kb := IT_b it
      obtain ⟨x7, x8, x9⟩ := hX.2 pc hp
      refine at_of (n := 60) rfl rfl (by omega) ?_
      rw [x7]
      refine ⟨rgK (by omega), fun c8 => ⟨fun c9 => ?_, fun c9 => ?_⟩, fun c8 => ?_⟩
      · have hO := IT_o it c8 c9
        refine at_of (n := 60) rfl rfl (by omega) (at_of (n := 60) rfl rfl (by omega) ?_)
        rw [x8, x9]
        refine fr_X11_canPerform (c_can hV hO hR hS) (fun v I9 J9 hv s9 => ?_)
        have hR9 := hR.fr s9
        have hS9 := hS.fr s9
        have k6 : I9 106 = I 106 := s9.k
        have k7 : I9 107 = I 107 := s9.k
        have k8 : I9 108 = I 108 := s9.k
        have k9 : I9 109 = I 109 := s9.k
        have k10 : I9 110 = I 110 := s9.k
        rcases hv with ⟨rfl, hC⟩ | ⟨rfl, hC⟩
        · refine ⟨fun _ => ?_, fun z => absurd z (by decide)⟩
          refine fr_X11_perform (c_perform hV hO hC (by omega) hR9 hS9) (fun I10 J10 h10 s10 => ?_)
          obtain ⟨τ', hP, hS10⟩ := h10
          obtain ⟨v1, v2, v3⟩ := PF_keeps hV hO hC (by omega) hP
          have es : stk K (pc + 1) = stk K pc := stk_o c8 c9
          have m6 : I10 106 = I9 106 := s10.k
          have m7 : I10 107 = I9 107 := s10.k
          have m8 : I10 108 = I9 108 := s10.k
          have m9 : I10 109 = I9 109 := s10.k
          have m10 : I10 110 = I9 110 := s10.k
          have pt := trn_cmd (l := l) hI hp c8 c9
          have := c_runsL (nm := nm) (Q := Q) hn hM f (pc + 1) l (dn + 1) τ' (tn + 1) I10 J10 (by omega) (by omega) (fun i hi => IT_cong (hI i hi) (v2 0 (Or.inl (by omega)))) v1 (by omega) ((hR9.fr s10).ge v2 hV.M) hS10 (hX.cong (m6.trans k6) (m7.trans k7) (m8.trans k8) (m9.trans k9)) (by omega) (by omega) (by rw [es, m10, k10]; exact hst) (fun de τ I' J' hRun a1 a2 a3 a4 => hq de τ I' J' ⟨fun z => absurd z nz, fun _ => ⟨fun z => absurd z c8, fun z => absurd z c9, fun _ _ => ⟨fun z => absurd hC z, fun _ => ⟨τ', hP, hRun⟩⟩⟩⟩ a1 a2 a3 a4)
          rw [show (((dn + 1 : Nat)) : Int) = (dn : Int) + 1 by omega, show (((pc + 1 : Nat)) : Int) = (pc : Int) + 1 by omega, show (((tn + 1 : Nat)) : Int) = (tn : Int) + 1 by omega] at this
          exact this
        · exact ⟨fun z => absurd rfl z, fun _ => hq dn σ I9 J9 ⟨fun z => absurd z nz, fun _ => ⟨fun z => absurd z c8, fun z => absurd z c9, fun _ _ => ⟨fun _ => ⟨rfl, rfl⟩, fun z => absurd z hC⟩⟩⟩ hS9 hV hR9 (by omega)⟩
      · obtain ⟨d0, aO⟩ := IT_9 it c9
        obtain ⟨t110, l1, l20⟩ := hst ((stk K pc).1 - 1) (by omega)
        obtain ⟨b1, b2, b3, b4, b5⟩ := stk_in (K := K) (i := pc) (j := (stk K pc).1 - 1) (by omega)
        refine at_of (n := 60) (i := pc) rfl rfl (by omega) ?_
        rw [x8, aO]
        refine add_of (n := 60) (i := (stk K pc).2 ((stk K pc).1 - 1)) rfl rfl (by omega) (fun I2 e2 => ?_)
        rw [t110] at e2
        refine at_of (n := 60) (i := (stk K pc).2 ((stk K pc).1 - 1)) rfl rfl (by omega) ?_
        have v2 : I2 110 ((stk K pc).2 ((stk K pc).1 - 1)) = l ((stk K pc).1 - 1) - 1 := by rw [e2, up2_self]; omega
        have ek : ∀ k, k ≠ 110 → I2 k = I k := fun k z => by rw [e2, up2_key z]
        have hX2 := hX.cong (I' := I2) (ek 106 (by omega)) (ek 107 (by omega)) (ek 108 (by omega)) (ek 109 (by omega))
        have hR2 : RG 200 I2 J σ nm := hR.cong (ek 200 (by omega)) rfl (ek 202 (by omega)) (ek 203 (by omega)) (ek 204 (by omega)) (ek 205 (by omega))
        have hS2 : RS 300 I2 σ := hS.cong (ek 300 (by omega)) (ek 301 (by omega)) (ek 302 (by omega)) (ek 303 (by omega)) (ek 304 (by omega))
        -- the other repeats keep their turns
        have oth : ∀ j, j < (stk K pc).1 → j ≠ (stk K pc).1 - 1 → I2 110 ((stk K pc).2 j) = l j := by
          intro j hj hne
          obtain ⟨-, -, y3, -⟩ := stk_in (K := K) (i := pc) (j := j) hj
          rw [e2, up2_ne (fun z => hne (by rw [← y3, z.2, b3]))]
          exact (hst j hj).1
        rw [v2]
        refine ⟨rgK (by omega), fun q => ?_, fun q => ?_⟩
        · have es : stk K (pc + 1) = ((stk K pc).1 - 1, (stk K pc).2) := stk_9 c9
          have pt := trn_on (l := l) hI hp c9 (fun j hj => (hst j hj).2.1) (m := updr l ((stk K pc).1 - 1) (l ((stk K pc).1 - 1) - 1)) (fun j hj => updr_ne (by omega))
          have := c_runsL (nm := nm) (Q := Q) hn hM f (pc + 1) _ dn σ (tn + 1) I2 J (by omega) (by omega) hI hV h6 hR2 hS2 hX2 hdn (by omega) (by
            rw [es]
            dsimp only
            intro j hj
            rw [updr_ne (by omega)]
            exact ⟨oth j (by omega) (by omega), (hst j (by omega)).2⟩) (fun de τ I' J' hRun a1 a2 a3 a4 => hq de τ I' J' ⟨fun z => absurd z nz, fun _ => ⟨fun z => absurd z (by omega), fun _ => ⟨fun z => absurd z (by omega), fun _ => hRun⟩, fun _ z => absurd c9 z⟩⟩ a1 a2 a3 a4)
          rw [show (((pc + 1 : Nat)) : Int) = (pc : Int) + 1 by omega, show (((tn + 1 : Nat)) : Int) = (tn : Int) + 1 by omega] at this
          exact this
        · obtain ⟨a1, a2⟩ := stk_again (K := K) (pc := pc) d0
          have pt := trn_again (l := l) hI hp c9 (by omega)
          have := c_runsL (nm := nm) (Q := Q) hn hM f _ _ dn σ (tn + 1) I2 J (by omega) (by omega) hI hV h6 hR2 hS2 hX2 hdn (by omega) (by
            rw [a1]
            intro j hj
            rw [a2 j hj]
            by_cases cj : j = (stk K pc).1 - 1
            · rw [cj, updr_self]
              exact ⟨v2, by omega, by omega⟩
            · rw [updr_ne cj]
              exact ⟨oth j hj cj, (hst j hj).2⟩) (fun de τ I' J' hRun b1 b2 b3 b4 => hq de τ I' J' ⟨fun z => absurd z nz, fun _ => ⟨fun z => absurd z (by omega), fun _ => ⟨fun _ => hRun, fun z => absurd (by omega) z⟩, fun _ z => absurd c9 z⟩⟩ b1 b2 b3 b4)
          rw [show ((((stk K pc).2 ((stk K pc).1 - 1) + 1 : Nat)) : Int) = (((stk K pc).2 ((stk K pc).1 - 1) : Nat) : Int) + 1 by omega, show (((tn + 1 : Nat)) : Int) = (tn : Int) + 1 by omega] at this
          exact this
      · obtain ⟨d2, ha, ha20⟩ := IT_8 it c8
        have es : stk K (pc + 1) = ((stk K pc).1 + 1, fun j => if j = (stk K pc).1 then pc else (stk K pc).2 j) := stk_8 c8
        refine at_of (n := 60) (i := pc) rfl rfl (by omega) ?_
        rw [x8]
        refine put_of (n := 60) (i := pc) rfl rfl (by omega) (fun I2 e2 => ?_)
        have ek : ∀ k, k ≠ 110 → I2 k = I k := fun k z => by rw [e2, up2_key z]
        have hX2 := hX.cong (I' := I2) (ek 106 (by omega)) (ek 107 (by omega)) (ek 108 (by omega)) (ek 109 (by omega))
        have hR2 : RG 200 I2 J σ nm := hR.cong (ek 200 (by omega)) rfl (ek 202 (by omega)) (ek 203 (by omega)) (ek 204 (by omega)) (ek 205 (by omega))
        have hS2 : RS 300 I2 σ := hS.cong (ek 300 (by omega)) (ek 301 (by omega)) (ek 302 (by omega)) (ek 303 (by omega)) (ek 304 (by omega))
        have pt := trn_rep (l := l) hI hp c8
        have := c_runsL (nm := nm) (Q := Q) hn hM f (pc + 1) _ dn σ (tn + 1) I2 J (by omega) (by omega) hI hV h6 hR2 hS2 hX2 hdn (by omega) (by
          rw [es]
          dsimp only
          intro j hj
          by_cases cj : j = (stk K pc).1
          · rw [if_pos cj, cj, e2, up2_self, updr_self]
            exact ⟨rfl, ha, ha20⟩
          · obtain ⟨y1, -⟩ := stk_in (K := K) (i := pc) (j := j) (by omega)
            rw [if_neg cj, e2, up2_ne (by omega), updr_ne cj]
            exact hst j (by omega)) (fun de τ I' J' hRun a1 a2 a3 a4 => hq de τ I' J' ⟨fun z => absurd z nz, fun _ => ⟨fun _ => hRun, fun z => absurd z (by omega), fun z => absurd c8 z⟩⟩ a1 a2 a3 a4)
        rw [show (((pc + 1 : Nat)) : Int) = (pc : Int) + 1 by omega, show (((tn + 1 : Nat)) : Int) = (tn : Int) + 1 by omega] at this
        exact this
end CRN
