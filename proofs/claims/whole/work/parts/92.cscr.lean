/-! ===== a whole script: the class ===== -/
def CQF (x : SR) (r : Int) (I : Ii) : Prop := PO2 x (fun c s d => r = 0 ∧ CE c s d I) (fun t => r = 1 ∧ (I 101 9 = 0 ∧ I 101 10 = -1 ∧ I 101 11 = -1) ∧ CC t.1 t.2.1 t.2.2.1 t.2.2.2.1 t.2.2.2.2.1 t.2.2.2.2.2.1 t.2.2.2.2.2.2.2 I)
section CSD
variable {I : Ii} {J : Jj} {B : Nat → Int} {E : Nat} {σ : Nat → Int} {nm : Nat → Int64} {K A C : Nat → Int} {n w d p : Nat} {O : Nat → Nat}
theorem CQS_01 {x : SR} {r : Int} (h : CQS B E x r I) : (r = 0 → CQS B E x 0 I) ∧ (¬ r = 0 → CQS B E x 1 I) := by
  rcases CQS_b h with rfl | rfl
  · exact ⟨fun _ => h, fun z => absurd rfl z⟩
  · exact ⟨fun z => absurd z (by decide), fun _ => h⟩
theorem c_readCommand (hM : MS σ) (hd : ND nm (σ 0).toNat) (hR : RG 200 I J σ nm) (hS : PSc E n w d p) (hT : CT B E d (tE B E p) I) (h3 : I 101 3 = (tS B E p : Int)) (h5 : I 101 5 = tK B E p) (h6 : tK B E p = 1 → J 101 6 = tW B E p) (hC : CC K A C n w d O I) : wp_X7_readCommand 200 I J (fun r I' _ => CQS B E (cmdS B E nm (σ 0).toNat K A C n w d O p) r I') := by
  have gk : gK 200 := Or.inl rfl
  have b0 := ms_0 hM
  obtain ⟨p1, p2, p3, hp⟩ := hS
  have h8 := hT.2.2.2.1
  have kb := kW_b (B := B) (E := E) (p := p)
  refine ⟨gk, fr_X7_kindOfWord (c_kind h5 h6) (fun v hv => ?_)⟩
  subst hv
  unfold cmdS
  have main : ¬ kW B E p = -1 → ¬ (kW B E p = 8 ∧ 2 ≤ d) → B_X7_readCommand_40 200 (fun r I' _ => CQS B E (cmdS B E nm (σ 0).toNat K A C n w d O p) r I') (kW B E p) I J := by
    intro c1 c2
    unfold cmdS
    rw [if_neg c1, if_neg c2]
    have hw := hC.2.1
    refine ⟨rgK (by omega), fun c3 => ?_, fun c3 => ?_⟩
    · rw [if_neg (show ¬ 30 ≤ w by omega)]
      generalize hk : kW B E p = k at kb c1 c2 ⊢
      have plain : ¬ k = 8 → ¬ k = 2 → ¬ (k = 4 ∨ k = 7) → ¬ k = 6 → B_X7_readCommand_179 200 (fun r I' _ => CQS B E (if k = 8 then repS B E K A C n w d O (tE B E p) else if k = 2 then movS B E K A C n w d O (tE B E p) else if k = 4 ∨ k = 7 then numS B E K A C n w d O k (tE B E p) else if k = 6 then apaS B E nm (σ 0).toNat K A C n w d O (tE B E p) else addS B E K A C n w d O (tE B E p) k 0 0 1) r I') k I J := by
        intro a1 a2 a3 a4
        rw [if_neg a1, if_neg a2, if_neg a3, if_neg a4]
        refine addC_of hC (by omega) (fun I14 q14 e1 e2 => ?_)
        exact addS_of (hT.same e1 e2) q14 (fun r I' J' h => ⟨CQS_b h, h⟩)
      have numb : (k = 4 ∨ k = 7) → B_X7_readCommand_130 200 (fun r I' _ => CQS B E (if k = 8 then repS B E K A C n w d O (tE B E p) else if k = 2 then movS B E K A C n w d O (tE B E p) else if k = 4 ∨ k = 7 then numS B E K A C n w d O k (tE B E p) else if k = 6 then apaS B E nm (σ 0).toNat K A C n w d O (tE B E p) else addS B E K A C n w d O (tE B E p) k 0 0 1) r I') k I J := by
        intro a3
        rw [if_neg (by omega), if_neg (by omega), if_pos a3]
        unfold numS
        refine takesN_of hT (by decide) (fun k1 I1 J1 t1 n1 s1 _ => ⟨fun _ => ?_, fun z => absurd z (by decide)⟩) (fun k1 I1 J1 t1 _ => ⟨fun z => absurd rfl z, fun _ => ⟨fun _ => ?_, fun z => absurd rfl z⟩⟩)
        · rw [if_neg (fun z => z k1), n1]
          refine addC_of (hC.cong s1.k s1.k s1.k s1.k s1.k) (by omega) (fun I14 q14 e1 e2 => ⟨fun z => absurd z (by decide), fun _ => ?_⟩)
          exact addS_of (t1.same e1 e2) q14 (fun r I' J' h => CQS_01 h)
        · rw [if_pos k1]; exact ⟨rfl, t1⟩
      refine ⟨rgK (by omega), fun c => plain (by omega) (by omega) (by omega) (by omega), fun c => ?_, fun c => plain (by omega) (by omega) (by omega) (by omega), fun c => numb (by omega), fun c => plain (by omega) (by omega) (by omega) (by omega), fun c => ?_, fun c => numb (by omega), fun c => ?_⟩
      · rw [if_neg (by omega), if_pos c]
        unfold movS
        refine takesN_of hT (by decide) (fun k1 I1 J1 t1 n1 s1 _ => ⟨fun _ => ?_, fun z => absurd z (by decide)⟩) (fun k1 I1 J1 t1 _ => ⟨fun z => absurd rfl z, fun _ => ⟨fun _ => ?_, fun z => absurd rfl z⟩⟩)
        · rw [if_neg (fun z => z k1)]
          refine takesN_of t1 (by decide) (fun k2 I2 J2 t2 n2 s2 _ => ⟨fun _ => ?_, fun z => absurd z (by decide)⟩) (fun k2 I2 J2 t2 _ => ⟨fun z => absurd rfl z, fun _ => ⟨fun _ => ?_, fun z => absurd rfl z⟩⟩)
          · rw [if_neg (fun z => z k2), n1, n2]
            refine addC_of ((hC.cong s1.k s1.k s1.k s1.k s1.k).cong s2.k s2.k s2.k s2.k s2.k) (by omega) (fun I14 q14 e1 e2 => ⟨fun z => absurd z (by decide), fun _ => ?_⟩)
            exact addS_of (t2.same e1 e2) q14 (fun r I' J' h => CQS_01 h)
          · rw [if_pos k2]; exact ⟨rfl, t2⟩
        · rw [if_pos k1]; exact ⟨rfl, t1⟩
      · rw [if_neg (by omega), if_neg (by omega), if_neg (by omega), if_pos c]
        unfold apaS
        refine ⟨gk, vtx_of hM hd hR hT (fun k1 I1 J1 t1 w1 r1 s1 => ⟨fun _ => ?_, fun z => absurd z (by decide)⟩) (fun k1 I1 J1 t1 => ⟨fun z => absurd rfl z, fun _ => ⟨fun _ => ?_, fun z => absurd rfl z⟩⟩)⟩
        · rw [if_neg (fun z => z k1), w1]
          refine fr_X2_vertexNamed (c_vertexNamed gk hM r1 hd) (fun v hv => ?_)
          subst hv
          refine vtx_of hM hd r1 t1 (fun k2 I2 J2 t2 w2 r2 s2 => ⟨fun _ => ?_, fun z => absurd z (by decide)⟩) (fun k2 I2 J2 t2 => ⟨fun z => absurd rfl z, fun _ => ⟨fun _ => ?_, fun z => absurd rfl z⟩⟩)
          · rw [if_neg (fun z => z k2), w2]
            refine fr_X2_vertexNamed (c_vertexNamed gk hM r2 hd) (fun v hv => ?_)
            subst hv
            refine addC_of ((hC.cong s1.k s1.k s1.k s1.k s1.k).cong s2.k s2.k s2.k s2.k s2.k) (by omega) (fun I14 q14 e1 e2 => ⟨fun z => absurd z (by decide), fun _ => ?_⟩)
            exact addS_of (t2.same e1 e2) q14 (fun r I' J' h => CQS_01 h)
          · rw [if_pos k2]; exact ⟨rfl, t2⟩
        · rw [if_pos k1]; exact ⟨rfl, t1⟩
      · rw [if_pos c]
        unfold repS
        refine takesN_of hT (by decide) (fun k1 I1 J1 t1 n1 s1 _ => ⟨fun _ => ?_, fun z => absurd z (by decide)⟩) (fun k1 I1 J1 t1 _ => ⟨fun z => absurd rfl z, fun _ => ⟨Or.inl rfl, ?_⟩⟩)
        · rw [if_neg (fun z => z k1)]
          refine takes_of t1 (by decide) (fun k2 I2 J2 t2 _ _ s2 => ⟨fun _ => ?_, fun z => absurd z (by decide)⟩) (fun k2 I2 J2 t2 _ => ⟨fun z => absurd rfl z, fun _ => ⟨Or.inl rfl, ?_⟩⟩)
          · rw [if_neg (fun z => z k2), n1]
            have hC2 := (hC.cong s1.k s1.k s1.k s1.k s1.k).cong (I' := I2) s2.k s2.k s2.k s2.k s2.k
            refine put_of (n := 2) (i := d) rfl t2.2.2.2.1 (by omega) (fun I3 e3 => ?_)
            intro I4 e4
            rw [hC2.1] at e3
            have ek : ∀ k, k ≠ 101 → k ≠ 105 → I4 k = I2 k := fun k a b => by rw [e4, up2_key a, e3, up2_key b]
            have ef : ∀ i, i ≠ 8 → I4 101 i = I2 101 i := fun i a => by rw [e4, up2_ne (by omega), e3, up2_ne (by omega)]
            have hC4 : CC K A C n w (d + 1) (fun i => if i = d then n else O i) I4 := by
              unfold CC
              rw [ek 106 (by omega) (by omega), ek 107 (by omega) (by omega), ek 108 (by omega) (by omega), ek 109 (by omega) (by omega)]
              refine ⟨hC2.1, hC2.2.1, hC2.2.2.1, fun i hi => ?_⟩
              rw [e4, up2_ne (by omega), e3]
              dsimp only
              by_cases ci : i = d
              · rw [ci, up2_self, if_pos rfl]
              · rw [up2_ne (by omega), if_neg ci]; exact hC2.2.2.2 i (by omega)
            have hT4 : CT B E (d + 1) (tE B E (tE B E (tE B E p))) I4 := ⟨by rw [ef 2 (by omega)]; exact t2.1, by rw [ef 4 (by omega)]; exact t2.2.1, t2.2.2.1, by rw [e4, up2_self, e3, up2_ne (by omega), t2.2.2.2.1]; omega, fun i hi => by rw [ek 102 (by omega) (by omega)]; exact t2.2.2.2.2.1 i hi, t2.2.2.2.2.2.1, t2.2.2.2.2.2.2.1, by rw [ef 9 (by omega)]; exact t2.2.2.2.2.2.2.2.1, by rw [ef 10 (by omega)]; exact t2.2.2.2.2.2.2.2.2.1, by rw [ef 11 (by omega)]; exact t2.2.2.2.2.2.2.2.2.2⟩
            refine addC_of hC4 (by omega) (fun I14 q14 e1 e2 => ⟨Or.inr rfl, ?_⟩)
            exact ⟨rfl, hT4.same e1 e2, q14⟩
          · rw [if_pos k2]; exact ⟨rfl, t2⟩
        · rw [if_pos k1]; exact ⟨rfl, t1⟩
    · rw [if_pos (show 30 ≤ w by omega)]
      exact fail_of h3 h8 (fun I' hE _ => ⟨Or.inl rfl, rfl, hE⟩)
  unfold cmdS at main
  refine ⟨rgK (by omega), fun c1 => ⟨fun c2 => main c1 (fun z => c2 z.1), fun c2 => ⟨rgK (by omega), fun c3 => main c1 (fun z => by omega), fun c3 => ?_⟩⟩, fun c1 => ?_⟩
  · rw [if_neg c1, if_pos (⟨c2, by omega⟩ : kW B E p = 8 ∧ 2 ≤ d)]
    exact fail_of h3 h8 (fun I' hE _ => ⟨Or.inl rfl, rfl, hE⟩)
  · rw [if_pos c1]
    exact fail_of h3 h8 (fun I' hE _ => ⟨Or.inl rfl, rfl, hE⟩)
theorem c_scrL (hM : MS σ) (hd : ND nm (σ 0).toNat) : ∀ (f : Nat) (K A C : Nat → Int) (n w d p : Nat) (O : Nat → Nat) (c : Nat) (I : Ii) (J : Jj), PSc E n w d p → CT B E d p I → CC K A C n w d O I → RG 200 I J σ nm → E + 1 ≤ p + f → c ≤ p → L_X7_read_7 200 (fun r I' _ => CQF (scr B E nm (σ 0).toNat f (K, A, C, n, w, d, p, O)) r I') f (c : Int) I J
  | 0, K, A, C, n, w, d, p, O, c, I, J, hS, _, _, _, h1, _ => by have := hS.2.2.2; omega
  | f + 1, K, A, C, n, w, d, p, O, c, I, J, hS, hT, hC, hR, h1, h2 => by
    have hE := hT.2.2.2.2.2.1
    have hp := hS.2.2.2
    have kb := tK_b (B := B) (E := E) (p := p)
    refine ls_X7_read_7 ?_
    unfold Lb_X7_read_7
    refine ⟨rgK (by omega), fun z => by omega, fun _ => fr_X10_advance (c_advanceT hT) (fun I3 J3 q s3 => ?_)⟩
    obtain ⟨q1, q2, q3, q4, -⟩ := q
    have hC3 := hC.cong (I' := I3) s3.k s3.k s3.k s3.k s3.k
    have hR3 := hR.fr s3
    rw [q3]
    refine ⟨rgK (by omega), fun c0 => ?_, fun c0 => ?_⟩
    · have hP := oneS_PO (B := B) (nm := nm) (m := (σ 0).toNat) (K := K) (A := A) (C := C) (O := O) hS c0
      -- what goes on behind one
      have go : ∀ (r : Int) (I' : Ii) (J' : Jj), CQS B E (oneS B E nm (σ 0).toNat K A C n w d O p) r I' → RG 200 I' J' σ nm → (¬ r = 0 → L_X7_read_7 200 (fun r I' _ => CQF (scr B E nm (σ 0).toNat (f + 1) (K, A, C, n, w, d, p, O)) r I') f ((c : Int) + 1) I' J') ∧ (r = 0 → CQF (scr B E nm (σ 0).toNat (f + 1) (K, A, C, n, w, d, p, O)) 0 I') := by
        intro r I' J' h hR'
        cases hx : oneS B E nm (σ 0).toNat K A C n w d O p with
        | error e =>
          rw [hx] at h
          obtain ⟨rfl, hE'⟩ : r = 0 ∧ CE e.1 e.2.1 e.2.2 I' := h
          rw [scr_e c0 hx]
          exact ⟨fun z => absurd rfl z, fun _ => ⟨rfl, hE'⟩⟩
        | ok t =>
          rw [hx] at h hP
          obtain ⟨K', A', C', n', w', d', p', O'⟩ := t
          obtain ⟨rfl, hT', hC'⟩ : r = 1 ∧ CT B E d' p' I' ∧ CC K' A' C' n' w' d' O' I' := h
          obtain ⟨hS', hlt⟩ : PSc E n' w' d' p' ∧ p < p' := hP
          rw [scr_s c0 hx]
          refine ⟨fun _ => ?_, fun z => absurd z (by decide)⟩
          have := c_scrL hM hd f K' A' C' n' w' d' p' O' (c + 1) I' J' hS' hT' hC' hR' (by omega) (by omega)
          rwa [show (((c + 1 : Nat)) : Int) = (c : Int) + 1 by omega] at this
      refine ⟨fun c5 => ?_, fun c5 => ?_⟩
      · have e1 : oneS B E nm (σ 0).toNat K A C n w d O p = cmdS B E nm (σ 0).toNat K A C n w d O p := by unfold oneS; rw [if_neg c5]
        refine ⟨rgK (by omega), fun _ => fr_X7_readCommand (c_readCommand hM hd hR3 hS q1 q2 q3 q4 hC3) (fun r I' J' h s => ?_), fun z => absurd rfl z⟩
        rw [← e1] at h
        exact go r I' J' h (hR3.fr s)
      · have e1 : oneS B E nm (σ 0).toNat K A C n w d O p = (if d = 0 then .error (1, tS B E p, 0) else cloS B E K A C n w d O p) := by unfold oneS; rw [if_pos c5]
        obtain ⟨p1, p2, p3, -⟩ := hS
        refine ⟨rgK (by omega), fun z => absurd z (by decide), fun _ => ?_⟩
        have hn : d = 0 ∨ n < 60 := by omega
        refine fr_X7_readClose (P := fun r I' _ => CQS B E (oneS B E nm (σ 0).toNat K A C n w d O p) r I') ?_ (fun r I' J' h s => ⟨(go r I' J' h (hR3.fr s)).2, (go r I' J' h (hR3.fr s)).1⟩)
        rw [e1]
        rcases hn with hn | hn
        · subst hn
          have h8 := q1.2.2.2.1
          rw [if_pos rfl]
          refine ⟨rgK (by omega), fun z => absurd h8 z, fun _ => fail_of q2 h8 (fun I' hE _ => ⟨Or.inl rfl, rfl, hE⟩)⟩
        · exact c_readClose q1 q2 hC3 hn p3
    · rw [scr_0 c0]
      have h8 := q1.2.2.2.1
      obtain ⟨p1, p2, p3, -⟩ := hS
      refine ⟨rgK (by omega), fun z => ?_, fun z => ?_⟩
      · rw [if_pos (by omega)]
        exact ⟨rfl, q1.2.2.2.2.2.2.2, hC3⟩
      · rw [if_neg (by omega)]
        exact fail_of q2 h8 (fun I' hE _ => ⟨fun _ => ⟨rfl, hE⟩, fun z => absurd rfl z⟩)
theorem c_readScript (hM : MS σ) (hd : ND nm (σ 0).toNat) (hR : RG 200 I J σ nm) (hT : CT B E 0 0 I) : wp_X7_read 200 I J (fun r I' _ => CQF (scr B E nm (σ 0).toNat (E + 1) (K, A, C, 0, 0, 0, 0, O)) r I') := by
  refine ⟨Or.inl rfl, ?_⟩
  intro I1 e1 I2 e2
  have ek : ∀ k, k ≠ 106 → I2 k = I k := fun k a => by rw [e2, up2_key a, e1, up2_key a]
  refine ⟨E + 1, c_scrL hM hd (E + 1) K A C 0 0 0 0 O 0 I2 J ⟨by omega, by omega, by omega, Nat.zero_le _⟩ (hT.same (ek 101 (by omega)) (ek 102 (by omega))) ⟨by rw [e2, up2_ne (by omega), e1, up2_self]; rfl, by rw [e2, up2_self]; rfl, fun i hi => absurd hi (Nat.not_lt_zero _), fun i hi => absurd hi (Nat.not_lt_zero _)⟩ (hR.cong (ek 200 (by omega)) rfl (ek 202 (by omega)) (ek 203 (by omega)) (ek 204 (by omega)) (ek 205 (by omega))) (by omega) (Nat.le_refl _)⟩
end CSD
