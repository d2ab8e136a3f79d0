/-! ===== what the commands of a script do: the reference ===== -/
section DOE
variable {I : Ii} {J : Jj} {σ τ : Nat → Int} {k a c x y : Int} {Q : Int → Ii → Jj → Prop}
theorem q108 (hk : rg k) (h : k ≠ 7) (hq : Q 1 I J) : B_X12_does_108 k x y Q I J := ⟨hk, fun _ => hq, fun z => absurd z h⟩
theorem q92 (hk : rg k) (h : k ≠ 6) (hq : B_X12_does_108 k x y Q I J) : B_X12_does_92 k x y Q I J := ⟨hk, fun _ => hq, fun z => absurd z h⟩
theorem q79 (hk : rg k) (h : k ≠ 5) (hq : B_X12_does_92 k x y Q I J) : B_X12_does_79 k x y Q I J := ⟨hk, fun _ => hq, fun z => absurd z h⟩
theorem q65 (hk : rg k) (h : k ≠ 4) (hq : B_X12_does_79 k x y Q I J) : B_X12_does_65 k x y Q I J := ⟨hk, fun _ => hq, fun z => absurd z h⟩
theorem q52 (hk : rg k) (h : k ≠ 3) (hq : B_X12_does_65 k x y Q I J) : B_X12_does_52 k x y Q I J := ⟨hk, fun _ => hq, fun z => absurd z h⟩
theorem q37 (hk : rg k) (h : k ≠ 2) (hq : B_X12_does_52 k x y Q I J) : B_X12_does_37 k x y Q I J := ⟨hk, fun _ => hq, fun z => absurd z h⟩
theorem q24 (hk : rg k) (h : k ≠ 1) (hq : B_X12_does_37 k x y Q I J) : B_X12_does_24 k x y Q I J := ⟨hk, fun _ => hq, fun z => absurd z h⟩
theorem s_may (hV : VS (I 2)) (hO : OKC (I 2) k a c) (hx : one1 k → x = a) (hy : two2 k → y = c) : wp_X12_may k x y I J (fun r _ _ => Bo r (CAN (I 2) k a c)) := by
  have hM := hV.M
  have b0 := ms_0 hM
  have b2 := ms_2 hM
  have b5 := ms_5 hM
  have gr := grs_b hM
  obtain ⟨hk, ha, hc, hv⟩ := hO
  refine ⟨rgK (by omega), fun z => ?_, fun z => ?_, fun z => ?_, fun z => ?_, fun z => ?_, fun z => ?_, fun z => ?_, fun z => ?_⟩
  · have z7 : k = 7 := by omega
    subst z7
    have := hx (by omega)
    subst this
    refine fr_X12_isIn (s_isInB (rgK (by omega)) (rgK (by omega)) (rgK (by omega))) (fun v hv => ⟨hv.b, hv.iff ⟨fun q => ⟨fun z => absurd z (by decide), fun z => absurd z (by decide), fun z => absurd z (by decide), fun z => absurd z (by decide), fun z => absurd z (by decide), fun z => absurd z (by decide), fun z => absurd z (by decide), fun _ => q⟩, fun q => q.2.2.2.2.2.2.2 rfl⟩⟩)
  · subst z
    refine fr_X12_whyShrink (s_whyShrink hV) (fun v I' J' hv _ => ?_)
    subst hv
    by_cases c4 : I 2 5 = 4
    · rw [if_pos c4]; exact ⟨rgK (by omega), fun _ => Bo.zero (fun z => (z.1 rfl).1 c4), fun z => absurd z (by decide)⟩
    · rw [if_neg c4]
      by_cases c5 : pairZ (I 2) = 0
      · rw [if_pos c5]; exact ⟨rgK (by omega), fun _ => Bo.zero (fun z => (z.1 rfl).2 c5), fun z => absurd z (by decide)⟩
      · rw [if_neg c5]; exact ⟨rgK (by omega), fun z => absurd rfl z, fun _ => Bo.one ⟨fun _ => ⟨c4, c5⟩, fun z => absurd z (by decide), fun z => absurd z (by decide), fun z => absurd z (by decide), fun z => absurd z (by decide), fun z => absurd z (by decide), fun z => absurd z (by decide), fun z => absurd z (by decide)⟩⟩
  · subst z
    exact ⟨rgK (by omega), fun y => Bo.zero (fun z => by have := z.2.1 rfl; omega), fun y => Bo.one ⟨fun z => absurd z (by decide), fun _ => by omega, fun z => absurd z (by decide), fun z => absurd z (by decide), fun z => absurd z (by decide), fun z => absurd z (by decide), fun z => absurd z (by decide), fun z => absurd z (by decide)⟩⟩
  · subst z
    have e1 := hx (by omega)
    have e2 := hy (by omega)
    subst e1 e2
    refine fr_X12_areThere (s_areThere hM (rgK (by omega)) (rgK (by omega))) (fun v hv => ?_)
    rcases hv with ⟨rfl, q⟩ | ⟨rfl, q⟩
    · refine ⟨fun z => absurd z (by decide), fun _ => ?_⟩
      refine fr_X12_whyMove (s_whyMove hM (rgK (by omega)) (rgK (by omega)) (hV.GV.has hM q.1.1 q.1.2)) (fun v hv => ?_)
      have wb := wmZ_b (I 2) x y
      subst hv
      exact ⟨rgK (by omega), fun w => Bo.zero (fun z => w (z.2.2.1 rfl).2), fun w => Bo.one ⟨fun z => absurd z (by decide), fun z => absurd z (by decide), fun _ => ⟨q, w⟩, fun z => absurd z (by decide), fun z => absurd z (by decide), fun z => absurd z (by decide), fun z => absurd z (by decide), fun z => absurd z (by decide)⟩⟩
    · exact ⟨fun _ => Bo.zero (fun z => q (z.2.2.1 rfl).1), fun z => absurd rfl z⟩
  · subst z
    refine fr_X12_nextNow (s_nextNow hM hV.GV) (fun v hv => ?_)
    have nb := nxZ_b hM
    subst hv
    exact ⟨rgK (by omega), fun y => Bo.zero (fun z => z.2.2.2.1 rfl y), fun y => Bo.one ⟨fun z => absurd z (by decide), fun z => absurd z (by decide), fun z => absurd z (by decide), fun _ => y, fun z => absurd z (by decide), fun z => absurd z (by decide), fun z => absurd z (by decide), fun z => absurd z (by decide)⟩⟩
  · subst z
    have := hx (by omega)
    subst this
    refine fr_X12_isIn (s_isInB (rgK (by omega)) (rgK (by omega)) (rgK (by omega))) (fun v hv => ⟨hv.b, hv.iff ⟨fun q => ⟨fun z => absurd z (by decide), fun z => absurd z (by decide), fun z => absurd z (by decide), fun z => absurd z (by decide), fun _ => q, fun z => absurd z (by decide), fun z => absurd z (by decide), fun z => absurd z (by decide)⟩, fun q => q.2.2.2.2.1 rfl⟩⟩)
  · subst z
    refine fr_X12_groups (s_groups hM) (fun w hw => ?_)
    subst hw
    exact ⟨rgK (by omega), fun y => Bo.zero (fun z => by have := z.2.2.2.2.2.1 rfl; omega), fun y => Bo.one ⟨fun z => absurd z (by decide), fun z => absurd z (by decide), fun z => absurd z (by decide), fun z => absurd z (by decide), fun z => absurd z (by decide), fun _ => by omega, fun z => absurd z (by decide), fun z => absurd z (by decide)⟩⟩
  · subst z
    have e1 := hx (by omega)
    have e2 := hy (by omega)
    subst e1 e2
    refine ⟨rgK (by omega), rgK (by omega), fun w => Bo.zero (fun z => (z.2.2.2.2.2.2.1 rfl).1 w), fun w => ?_⟩
    refine ⟨rgK (by omega), fun y2 => ⟨fun _ => Bo.zero (fun z => by have := z.2.2.2.2.2.2.1 rfl; omega), fun z => absurd rfl z⟩, fun y2 => ?_⟩
    refine ⟨rgK (by omega), fun y3 => ⟨fun _ => Bo.zero (fun z => by have := z.2.2.2.2.2.2.1 rfl; omega), fun z => absurd rfl z⟩, fun y3 => ?_⟩
    exact ⟨fun z => absurd z (by decide), fun _ => Bo.one ⟨fun z => absurd z (by decide), fun z => absurd z (by decide), fun z => absurd z (by decide), fun z => absurd z (by decide), fun z => absurd z (by decide), fun z => absurd z (by decide), fun _ => ⟨w, by omega, by omega⟩, fun z => absurd z (by decide)⟩⟩
theorem s_does (hV : VS (I 2)) (hO : OKC (I 2) k a c) (hx : one1 k → x = a) (hy : two2 k → y = c) (h6 : I 2 6 + 99 ≤ 1000000000) (hτ : CAN (I 2) k a c → PF (I 2) k a c τ) : wp_X12_does k x y I J (fun r I' _ => (CAN (I 2) k a c ∧ r = 1 ∧ I' 2 = τ) ∨ (¬ CAN (I 2) k a c ∧ r = 0 ∧ I' 2 = I 2)) := by
  have hM := hV.M
  have b5 := ms_5 hM
  have hO' := hO
  obtain ⟨hk, ha, hc, hv⟩ := hO'
  have rk : rg k := rgK (by omega)
  refine fr_X12_may (s_may hV hO hx hy) (fun r1 I1 J1 h1 s1 => ?_)
  have f2 : I1 2 = I 2 := s1.k
  rcases h1 with ⟨rfl, hC⟩ | ⟨rfl, hC⟩
  · have hP := hτ hC
    have hC' := hC
    obtain ⟨c0, c1, c2, c3, c4, c5, c6, c7⟩ := hC'
    have fin : ∀ (I' : Ii) (J' : Jj) (v : Int) (I4 : Ii), I' 2 = τ → I4 = up2 I' 0 44 v → (CAN (I 2) k a c ∧ (1 : Int) = 1 ∧ I4 2 = τ) ∨ (¬ CAN (I 2) k a c ∧ (1 : Int) = 0 ∧ I4 2 = I 2) := fun I' J' v I4 h e => Or.inl ⟨hC, rfl, by rw [e, up2_key (by omega)]; exact h⟩
    refine ⟨fun _ => ?_, fun z => absurd z (by decide)⟩
    rw [← f2] at hP hV hM h6 c0 c1 c2 c3 c5 c6 hv b5
    rcases hP with ⟨rfl, rfl⟩ | ⟨rfl, rfl⟩ | ⟨rfl, rfl⟩ | ⟨rfl, rfl⟩ | ⟨rfl, rfl⟩ | ⟨rfl, b, hb, rfl⟩ | ⟨rfl, T, s, hF, rfl⟩ | ⟨rfl, rfl⟩
    · have h4 := c0 rfl
      refine ⟨rk, fun z => absurd rfl z, fun _ => fr_X12_shrinks (s_shrinks hV (by omega)) (fun v I3 J3 h3 _ I4 e4 => ?_)⟩
      exact q24 rk (by decide) (q37 rk (by decide) (q52 rk (by decide) (q65 rk (by decide) (q79 rk (by decide) (q92 rk (by decide) (q108 rk (by decide) (fin I3 J3 v I4 h3.2 e4)))))))
    · refine ⟨rk, fun _ => ⟨rk, fun z => absurd rfl z, fun _ => fr_X12_grows (s_grows hV (c1 rfl)) (fun v I3 J3 h3 _ I4 e4 => ?_)⟩, fun z => absurd z (by decide)⟩
      exact q37 rk (by decide) (q52 rk (by decide) (q65 rk (by decide) (q79 rk (by decide) (q92 rk (by decide) (q108 rk (by decide) (fin I3 J3 v I4 h3.2 e4))))))
    · have h2 := c2 rfl
      have e1 := hx (by omega)
      have e2 := hy (by omega)
      have gr := grs_b hM
      have b2 := ms_2 hM
      subst e1 e2
      refine ⟨rk, fun _ => q24 rk (by decide) ⟨rk, fun z => absurd rfl z, fun _ => fr_X12_moves (s_moves hM (by omega) (by omega) (hV.GV.has hM h2.1.1.1 h2.1.1.2) (by omega)) (fun v I3 J3 h3 _ I4 e4 => ?_)⟩, fun z => absurd z (by decide)⟩
      exact q52 rk (by decide) (q65 rk (by decide) (q79 rk (by decide) (q92 rk (by decide) (q108 rk (by decide) (fin I3 J3 v I4 h3.2 e4)))))
    · refine ⟨rk, fun _ => q24 rk (by decide) (q37 rk (by decide) ⟨rk, fun z => absurd rfl z, fun _ => fr_X12_stepNow (s_stepNow hM hV.GV (by omega)) (fun v I3 J3 h3 _ I4 e4 => ?_)⟩), fun z => absurd z (by decide)⟩
      have n3 := c3 rfl
      have e3 : I3 2 = (stpZ 1 (I1 2)).2 := by
        rw [(h3.2 n3).2]
        unfold stpZ
        rw [if_neg n3]
        rfl
      exact q65 rk (by decide) (q79 rk (by decide) (q92 rk (by decide) (q108 rk (by decide) (fin I3 J3 v I4 e3 e4))))
    · have h4 := c4 rfl
      have e1 := hx (by omega)
      subst e1
      have hs := s_stepsNow (I := I1) (J := J1) (m := x.toNat) hM hV.GV (by omega) (by omega)
      rw [show ((x.toNat : Nat) : Int) = x by omega] at hs
      refine ⟨rk, fun _ => q24 rk (by decide) (q37 rk (by decide) (q52 rk (by decide) ⟨rk, fun z => absurd rfl z, fun _ => fr_X12_stepsNow hs (fun v I3 J3 h3 _ I4 e4 => ?_)⟩)), fun z => absurd z (by decide)⟩
      exact q79 rk (by decide) (q92 rk (by decide) (q108 rk (by decide) (fin I3 J3 v I4 h3.2 e4)))
    · refine ⟨rk, fun _ => q24 rk (by decide) (q37 rk (by decide) (q52 rk (by decide) (q65 rk (by decide) ⟨rk, fun z => absurd rfl z, fun _ => fr_X12_placesBest (s_placesBest hV (c5 rfl) (by omega)) (fun v I3 J3 h3 _ I4 e4 => ?_)⟩))), fun z => absurd z (by decide)⟩
      obtain ⟨b', hb', -, e3⟩ := h3
      have e3' : I3 2 = (plZ (I1 2) (fun g => (b g : Int)) (grs (I1 2)).toNat).1 := by
        rw [e3, plZ_cong (b := fun g => (b' g : Int)) (c := fun g => (b g : Int)) (fun g hg => by rw [(FB_one hb' hb).1 g hg])]
      exact q92 rk (by decide) (q108 rk (by decide) (fin I3 J3 v I4 e3' e4))
    · have h6' := c6 rfl
      have hv' := hv rfl
      have e1 := hx (by omega)
      have e2 := hy (by omega)
      subst e1 e2
      refine ⟨rk, fun _ => q24 rk (by decide) (q37 rk (by decide) (q52 rk (by decide) (q65 rk (by decide) (q79 rk (by decide) ⟨rk, fun z => absurd rfl z, fun _ => fr_X12_placesApart (s_placesApart hV h6'.2.1 h6'.2.2 (by omega) (v := x.toNat) (w := y.toNat) (by omega) (by omega) (by omega) (by omega) hF) (fun v I3 J3 h3 _ I4 e4 => ?_)⟩)))), fun z => absurd z (by decide)⟩
      exact q108 rk (by decide) (fin I3 J3 v I4 h3.2 e4)
    · have e1 := hx (by omega)
      subst e1
      refine ⟨rk, fun _ => q24 rk (by decide) (q37 rk (by decide) (q52 rk (by decide) (q65 rk (by decide) (q79 rk (by decide) (q92 rk (by decide) ⟨rk, fun z => absurd rfl z, fun _ I3 e3 I4 e4 => ?_⟩))))), fun z => absurd z (by decide)⟩
      exact fin I3 J1 _ I4 (by rw [e3, up2_row]) e4
  · exact ⟨fun z => absurd rfl z, fun _ => Or.inr ⟨hC, rfl, f2⟩⟩
end DOE
