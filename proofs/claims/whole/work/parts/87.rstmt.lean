/-! ===== statements: the reference ===== -/
theorem Tl_up {n : Nat} {f : Nat → Int} {i : Nat} {v : Int} (h : Tl n f) (hi : i < n) : Tl n (updr f i v) := fun j hj => by rw [updr_ne (by omega)]; exact h j hj
theorem TlJ_up {n : Nat} {f : Nat → Int64} {i : Nat} {v : Int64} (h : TlJ n f) (hi : i < n) : TlJ n (updr f i v) := fun j hj => by rw [updr_ne (by omega)]; exact h j hj
/-- the reference while it reads a text -/
def RT (B : Nat → Int) (E : Nat) (t : St) (I : Ii) (J : Jj) : Prop := LX B E 0 t.2.2.2 I J ∧ I 2 = t.1 ∧ J 7 = t.2.1 ∧ I 0 25 = ((4 * t.2.2.1 : Nat) : Int) ∧ Tl 350 t.1 ∧ TlJ 14 t.2.1
/-- what the reference has behind a statement -/
def RQ (B : Nat → Int) (E : Nat) (x : Except (Int × Nat) St) (I : Ii) (J : Jj) : Prop := PO x (fun c s => RF c s 0 I ∧ Tl 350 (I 2) ∧ TlJ 14 (J 7)) (fun u => RT B E u I J)
section RST
variable {I : Ii} {J : Jj} {B : Nat → Int} {E d p : Nat}
theorem LX.cong {I' : Ii} {J' : Jj} (h : LX B E d p I J) (e0 : ∀ i, i ≠ 0 → i < 11 → I' 0 i = I 0 i) (e43 : I' 0 43 = I 0 43) (e1 : I' 1 = I 1) (e14 : J' 0 14 = J 0 14) : LX B E d p I' J' := by
  obtain ⟨h8, h9, h10, hL, h3, hB, h43, hp, hE, hb⟩ := h
  refine ⟨(e0 8 (by omega) (by omega)).trans h8, (e0 9 (by omega) (by omega)).trans h9, (e0 10 (by omega) (by omega)).trans h10, ?_, (e0 3 (by omega) (by omega)).trans h3, e1.trans hB, e43.trans h43, hp, hE, hb⟩
  unfold LK
  rw [e0 5 (by omega) (by omega), e0 4 (by omega) (by omega), e0 6 (by omega) (by omega), e0 7 (by omega) (by omega), e14]
  exact hL
theorem sort1 (h : LX B E d p I J) : rg (I 0 6) ∧ (I 0 6 = 1 ↔ tK B E p = 1) ∧ (I 0 6 = 0 ↔ tK B E p = 0) ∧ (tK B E p = 1 → J 0 14 = tW B E p) := by
  have hL := h.2.2.2.1
  have kb := tK_b (B := B) (E := E) (p := p)
  have h6 := hL.2.2.1
  have sb := soK_b (tK B E p)
  rw [h6]
  exact ⟨rgK (by omega), soK_1 kb, soK_0 kb, hL.2.2.2.1⟩
section VB
variable {c : Int} {s : Nat} {Q : Ii → Jj → Prop} {k : Int}
theorem bad70 (h : RF c s d I) (hq : Q I J) : B_X12_readsVertex_70 Q k I J := bad_of h ⟨fun z => absurd rfl z, fun _ => hq⟩
theorem bad50 (h : RF c s d I) (hq : Q I J) : B_X12_readsVertex_50 Q k I J := bad_of h ⟨fun _ => bad70 h hq, fun z => absurd rfl z⟩
theorem bad30 (h : RF c s d I) (hq : Q I J) : B_X12_readsVertex_30 Q k I J := bad_of h ⟨fun _ => bad50 h hq, fun z => absurd rfl z⟩
theorem bad19 (h : RF c s d I) (hq : Q I J) : B_X12_readsVertex_19 Q k I J := bad_of h ⟨fun _ => bad30 h hq, fun z => absurd rfl z⟩
variable {a b : Int}
theorem badE90 (h : RF c s d I) (hq : Q I J) : B_X12_readsEdge_90 Q k a b I J := numberB_of h (fun v => bad_of h ⟨fun z => absurd rfl z, fun _ => hq⟩)
theorem badE79 (h : RF c s d I) (hq : Q I J) : B_X12_readsEdge_79 Q k a b I J := bad_of h ⟨fun _ => badE90 h hq, fun z => absurd rfl z⟩
theorem badE57 (h : RF c s d I) (hq : Q I J) : B_X12_readsEdge_57 Q k a b I J := bad_of h ⟨fun _ => badE79 h hq, fun z => absurd rfl z⟩
theorem badE30 (h : RF c s d I) (hM : MS (I 2)) (hq : Q I J) : B_X12_readsEdge_30 Q k I J := toldB_of h hM (fun v _ _ => seenB_of h hM (fun w _ _ => bad_of h ⟨fun _ => badE57 h hq, fun z => absurd rfl z⟩))
theorem badE19 (h : RF c s d I) (hM : MS (I 2)) (hq : Q I J) : B_X12_readsEdge_19 Q k I J := bad_of h ⟨fun _ => badE30 h hM hq, fun z => absurd rfl z⟩
end VB
variable {σ : Nat → Int} {nm : Nat → Int64} {T : Nat}
theorem s_readsVertex (hS : PSt E (σ, nm, T, p)) (hk : tK B E p = 1) (hR : RT B E (σ, nm, T, p) I J) : wp_X12_readsVertex I J (RQ B E (vtx B E σ nm T (tE B E p) (tS B E p))) := by
  obtain ⟨hP, hd, hT, hp⟩ := hS
  obtain ⟨hL, h2, h7, h25, ht, htJ⟩ := hR
  dsimp only at hP hd hT hp hL h2 h7 h25 ht htJ
  have b0 := ms_0 hP.1
  refine ⟨rgK (by rw [h2]; omega), fun c => ?_, fun c => ?_⟩
  · unfold RQ vtx
    rw [h2] at c
    rw [if_neg c]
    refine good_of hL.1 ⟨fun z => absurd z (by decide), fun _ => goOn_of hL (fun I4 J4 l4 s4 => ?_)⟩
    have e2 : I4 2 = σ := s4.k.trans h2
    have e7 : J4 7 = nm := s4.kJ.trans h7
    have e25 : I4 0 25 = ((4 * T : Nat) : Int) := s4.i.trans h25
    obtain ⟨r6, i1, -, iw⟩ := sort1 l4
    refine good_of l4.1 ⟨fun z => absurd z (by decide), fun _ => ⟨r6, fun k1 => ?_, fun k1 => ?_⟩⟩
    · have k1' := i1.mp k1
      rw [if_neg (fun z => z k1')]
      refine good_of l4.1 ⟨fun z => absurd z (by decide), fun _ => fr_X12_named (s_named (by rw [e2]; exact hP.1)) (fun v hv => ?_)⟩
      rw [e2, e7, iw k1'] at hv
      have nb := nmZ_b nm (tW B E (tE B E p)) (σ 0).toNat
      subst hv
      refine ⟨rgK (by omega), fun k2 => ?_, fun k2 => ?_⟩
      · rw [if_neg (fun z => z k2)]
        refine good_of l4.1 ⟨fun _ => ⟨by rw [h2]; omega, ?_⟩, fun z => absurd z (by decide)⟩
        intro J14 e14
        rw [h2, iw k1'] at e14
        have q7 : J14 7 = updr nm (σ 0).toNat (tW B E (tE B E p)) := by rw [e14, up2_row, e7]
        have l4' : LX B E 0 (tE B E p) I4 J14 := l4.cong (fun _ _ _ => rfl) rfl rfl (by rw [e14, up2_ne (by omega)])
        refine goOn_of l4' (fun I15 J15 l15 s15 => ?_)
        have q7' : J15 7 = updr nm (σ 0).toNat (tW B E (tE B E p)) := s15.kJ.trans q7
        have q2 : I15 2 = σ := s15.k.trans e2
        refine number_of l15 (by decide) (fun kn I17 J17 l17 s17 => ?_) (fun kn v I17 q17 s17 => ?_)
        · rw [if_neg (fun z => z kn)]
          refine good_of l17.1 ⟨fun _ => ⟨by rw [h2]; omega, ?_⟩, fun z => absurd z (by decide)⟩
          intro I19 e19
          refine ⟨by rw [h2]; omega, ?_⟩
          intro I21 e21 I22 e22 I23 e23
          have f2 : I17 2 = σ := s17.k.trans q2
          have a1 : (7 + I 2 0).toNat = 7 + (σ 0).toNat := by rw [h2]; omega
          have a2 : (35 + I 2 0).toNat = 35 + (σ 0).toNat := by rw [h2]; omega
          rw [a1] at e19
          rw [a2, h2] at e21
          have g19 : I19 2 = updr σ (7 + (σ 0).toNat) (tN B E (tE B E (tE B E p))) := by rw [e19, up2_row, f2]
          have g21 : I21 2 = updr (updr σ (7 + (σ 0).toNat) (tN B E (tE B E (tE B E p)))) (35 + (σ 0).toNat) (σ 0) := by rw [e21, up2_row, g19]
          have g22 : I22 2 = updr (updr (updr σ (7 + (σ 0).toNat) (tN B E (tE B E (tE B E p)))) (35 + (σ 0).toNat) (σ 0)) 0 (σ 0 + 1) := by
            rw [e22, up2_row, g21, updr_ne (by omega), updr_ne (by omega)]
          have g23 : I23 2 = addV σ (tN B E (tE B E (tE B E p))) := by
            rw [e23, up2_row, g22, updr_ne (by omega), updr_ne (by omega), updr_ne (by omega)]; rfl
          have ek : ∀ k, k ≠ 2 → I23 k = I17 k := fun k a => by rw [e23, up2_key a, e22, up2_key a, e21, up2_key a, e19, up2_key a]
          refine ⟨l17.cong (fun i _ _ => by rw [ek 0 (by omega)]) (by rw [ek 0 (by omega)]) (ek 1 (by omega)) rfl, g23, s17.kJ.trans q7', ?_, ?_, ?_⟩
          · show I23 0 25 = ((4 * T : Nat) : Int)
            rw [ek 0 (by omega), ← e25]; exact s17.i.trans s15.i
          · show Tl 350 (addV σ _)
            unfold addV
            exact Tl_up (Tl_up (Tl_up (Tl_up ht (by omega)) (by omega)) (by omega)) (by omega)
          · exact TlJ_up htJ (by omega)
        · rw [if_pos kn]
          refine bad_of q17 ⟨fun z => absurd rfl z, fun _ => ⟨q17, ?_, ?_⟩⟩
          · rw [s17.k, q2]; exact ht
          · rw [q7']; exact TlJ_up htJ (by omega)
      · rw [if_pos k2]
        refine wrong_of l4 (c := 3) (by decide) (by rw [if_neg (by omega)]) (fun I' q s => bad70 q ⟨q, ?_, ?_⟩)
        · rw [s.k, e2]; exact ht
        · rw [e7]; exact htJ
    · have k1' : tK B E (tE B E p) ≠ 1 := fun z => k1 (i1.mpr z)
      rw [if_pos k1']
      refine wrong_of l4 (c := 1) (by decide) (by split <;> rfl) (fun I' q s => bad50 q ⟨q, ?_, ?_⟩)
      · rw [s.k, e2]; exact ht
      · rw [e7]; exact htJ
  · unfold RQ vtx
    rw [h2] at c
    rw [if_pos c]
    refine wrong_of hL (c := 6) (by decide) (by rw [if_neg (by omega)]) (fun I' q s => bad19 q ⟨q, ?_, ?_⟩)
    · rw [s.k, h2]; exact ht
    · rw [h7]; exact htJ
theorem s_readsEdge (hS : PSt E (σ, nm, T, p)) (hk : tK B E p = 1) (hR : RT B E (σ, nm, T, p) I J) : wp_X12_readsEdge I J (RQ B E (edg B E σ nm T (tE B E p) (tS B E p))) := by
  obtain ⟨hP, hd, hT, hp⟩ := hS
  obtain ⟨hL, h2, h7, h25, ht, htJ⟩ := hR
  dsimp only at hP hd hT hp hL h2 h7 h25 ht htJ
  have b0 := ms_0 hP.1
  have b1 := ms_1 hP.1
  refine ⟨rgK (by rw [h2]; omega), fun c => ?_, fun c => ?_⟩
  · unfold RQ edg
    rw [h2] at c
    rw [if_neg c]
    refine good_of hL.1 ⟨fun z => absurd z (by decide), fun _ => goOn_of hL (fun I4 J4 l4 s4 => ?_)⟩
    have e2 : I4 2 = σ := s4.k.trans h2
    have e7 : J4 7 = nm := s4.kJ.trans h7
    have e25 : I4 0 25 = ((4 * T : Nat) : Int) := s4.i.trans h25
    refine told_of l4 (by rw [e2]; exact hP.1) (fun k1 n1 I5 J5 l5 s5 => ?_) (fun c' hc' hn v I5 v1 v2 q5 s5 => ?_)
    · rw [e2, e7] at n1 ⊢
      rw [if_neg (fun z => z k1), if_neg n1]
      have f2 : I5 2 = σ := s5.k.trans e2
      have f7 : J5 7 = nm := s5.kJ.trans e7
      have nb := nmZ_b nm (tW B E (tE B E p)) (σ 0).toNat
      refine seen_of l5 (by rw [f2]; exact hP.1) (fun k2 n2 => ?_) (fun c' hc' hn v I6 v1 v2 q6 s6 => ?_)
      · rw [f2, f7] at n2 ⊢
        rw [if_neg (fun z => z k2), if_neg n2]
        have nb2 := nmZ_b nm (tW B E (tE B E (tE B E p))) (σ 0).toNat
        refine good_of l5.1 ⟨fun z => absurd z (by decide), fun _ => ⟨rgK (by omega), rgK (by omega), fun n3 => ?_, fun n3 => ?_⟩⟩
        · rw [if_neg (fun z => n3 z.symm)]
          refine good_of l5.1 ⟨fun z => absurd z (by decide), fun _ => fr_X12_edgeOf (s_edgeOf (by rw [f2]; exact hP.1) (rgK (by omega)) (rgK (by omega))) (fun v hv => ?_)⟩
          rw [f2] at hv
          have eb := edgeZ_b σ (nmZ nm (tW B E (tE B E p)) (σ 0).toNat) (nmZ nm (tW B E (tE B E (tE B E p))) (σ 0).toNat) (σ 1).toNat
          subst hv
          refine ⟨rgK (by omega), fun k4 => ?_, fun k4 => ?_⟩
          · rw [if_neg (fun z => z k4)]
            refine good_of l5.1 ⟨fun z => absurd z (by decide), fun _ => goOn_of l5 (fun I16 J16 l16 s16 => ?_)⟩
            refine number_of l16 (by decide) (fun kn I17 J17 l17 s17 => ?_) (fun kn v I17 q17 s17 => ?_)
            · rw [if_neg (fun z => z kn)]
              refine good_of l17.1 ⟨fun _ => ⟨by rw [h2]; omega, ?_⟩, fun z => absurd z (by decide)⟩
              intro I20 e20
              refine ⟨by rw [h2]; omega, ?_⟩
              intro I22 e22
              refine ⟨by rw [h2]; omega, ?_⟩
              intro I24 e24 I25 e25'
              have g2 : I17 2 = σ := s17.k.trans (s16.k.trans f2)
              rw [show (110 + I 2 1).toNat = 110 + (σ 1).toNat by rw [h2]; omega] at e20
              rw [show (150 + I 2 1).toNat = 150 + (σ 1).toNat by rw [h2]; omega] at e22
              rw [show (190 + I 2 1).toNat = 190 + (σ 1).toNat by rw [h2]; omega] at e24
              have g25 : I25 2 = addE σ (nmZ nm (tW B E (tE B E p)) (σ 0).toNat) (nmZ nm (tW B E (tE B E (tE B E p))) (σ 0).toNat) (tN B E (tE B E (tE B E (tE B E p)))) := by
                rw [e25', up2_row, e24, up2_row, e22, up2_row, e20, up2_row, g2, updr_ne (by omega), updr_ne (by omega), updr_ne (by omega)]; rfl
              have ek : ∀ k, k ≠ 2 → I25 k = I17 k := fun k a => by rw [e25', up2_key a, e24, up2_key a, e22, up2_key a, e20, up2_key a]
              refine ⟨l17.cong (fun i _ _ => by rw [ek 0 (by omega)]) (by rw [ek 0 (by omega)]) (ek 1 (by omega)) rfl, g25, s17.kJ.trans (s16.kJ.trans f7), ?_, ?_, htJ⟩
              · show I25 0 25 = ((4 * T : Nat) : Int)
                rw [ek 0 (by omega), ← e25]; exact s17.i.trans (s16.i.trans s5.i)
              · show Tl 350 (addE σ _ _ _)
                unfold addE
                exact Tl_up (Tl_up (Tl_up (Tl_up ht (by omega)) (by omega)) (by omega)) (by omega)
            · rw [if_pos kn]
              refine bad_of q17 ⟨fun z => absurd rfl z, fun _ => ⟨q17, ?_, ?_⟩⟩
              · rw [s17.k, s16.k, f2]; exact ht
              · rw [s16.kJ, f7]; exact htJ
          · rw [if_pos k4]
            refine wrong_of l5 (c := 4) (by decide) (by rw [if_neg (by omega)]) (fun I' q s => badE79 q ⟨q, ?_, ?_⟩)
            · rw [s.k, f2]; exact ht
            · rw [f7]; exact htJ
        · rw [if_pos n3.symm]
          refine wrong_of l5 (c := 3) (by decide) (by rw [if_neg (by omega)]) (fun I' q s => badE57 q ⟨q, ?_, ?_⟩)
          · rw [s.k, f2]; exact ht
          · rw [f7]; exact htJ
      · have fin : RF c' (tS B E (tE B E (tE B E p))) 0 I6 ∧ Tl 350 (I6 2) ∧ TlJ 14 (J5 7) := ⟨q6, by rw [s6.k, f2]; exact ht, by rw [f7]; exact htJ⟩
        rw [f2, f7] at hn
        refine bad_of q6 ⟨fun _ => badE57 q6 ?_, fun z => absurd rfl z⟩
        by_cases k2 : tK B E (tE B E (tE B E p)) = 1
        · rw [if_neg (fun z => z k2), if_pos (hn k2)]
          rw [if_pos k2] at hc'
          rw [hc'] at fin; exact fin
        · rw [if_pos k2]
          rw [if_neg k2] at hc'
          rw [hc'] at fin; exact fin
    · have fin : RF c' (tS B E (tE B E p)) 0 I5 ∧ Tl 350 (I5 2) ∧ TlJ 14 (J4 7) := ⟨q5, by rw [s5.k, e2]; exact ht, by rw [e7]; exact htJ⟩
      have f2 : I5 2 = σ := s5.k.trans e2
      rw [e2, e7] at hn
      refine seenB_of q5 (by rw [f2]; exact hP.1) (fun w _ _ => bad_of q5 ⟨fun _ => badE57 q5 ?_, fun z => absurd rfl z⟩)
      by_cases k1 : tK B E (tE B E p) = 1
      · rw [if_neg (fun z => z k1), if_pos (hn k1)]
        rw [if_pos k1] at hc'
        rw [hc'] at fin; exact fin
      · rw [if_pos k1]
        rw [if_neg k1] at hc'
        rw [hc'] at fin; exact fin
  · unfold RQ edg
    rw [h2] at c
    rw [if_pos c]
    refine wrong_of hL (c := 6) (by decide) (by rw [if_neg (by omega)]) (fun I' q s => badE19 q (by rw [s.k, h2]; exact hP.1) ⟨q, ?_, ?_⟩)
    · rw [s.k, h2]; exact ht
    · rw [h7]; exact htJ
end RST
