/-! ===== steps that are tried, events ===== -/
/-- how many steps there are to the end; -1 if more than m -/
def endZ (σ : Nat → Int) (m : Nat) : Int := if nxZ (stpZ m σ).2 = -1 then ((stpZ m σ).1 : Int) else -1
/-- an event's number -/
def evtZ (σ : Nat → Int) (x y : Int) : Int := σ (230 + 4 * ((σ 6 - 1 - x) % 30).toNat + y.toNat)
section ASQ
variable {I : Ii} {J : Jj} {σ : Nat → Int} {nm : Nat → Int64} {x y : Int}
theorem c_trySteps {m : Nat} (hm : m ≤ 200) (hV : VS σ) (hR : RG 200 I J σ nm) (hS : RS 300 I σ) (h6 : σ 6 + 200 ≤ 1000000000) : wp_X11_trySteps (m : Int) I J (fun r I' J' => r = ((stpZ m σ).1 : Int) ∧ RS 310 I' (stpZ m σ).2 ∧ RG 200 I' J' (stpZ m σ).2 nm) := by
  refine fr_X8_copyFrom (c_copyS sK310 sK300 (by omega) (by omega) hV hS) (fun I1 J1 h1 s1 => ?_)
  have hR1 : RG 200 I1 J1 σ nm := hR.fr s1
  refine fr_X11_makeSteps (c_makeSteps (Or.inr rfl) hm hV hR1 h1 (by omega)) (fun v I4 J4 h4 s4 => ⟨h4.1, h4.2, ?_⟩)
  have hs := VS_stp m hV (by omega)
  exact (hR1.fr s4).ge hs.2 hV.M
theorem c_stepsToEnd {m : Nat} (hx : x = (m : Int)) (hm : m ≤ 200) (hV : VS σ) (hR : RG 200 I J σ nm) (hS : RS 300 I σ) (h6 : σ 6 + 200 ≤ 1000000000) : wp_X11_stepsToEnd x I J (fun r _ _ => r = endZ σ m) := by
  subst hx
  have hs := VS_stp m hV (by omega)
  have nb := nxZ_b hs.1.M
  unfold endZ
  refine ⟨rgK (by omega), fun z => by omega, fun _ => ⟨fun _ => ?_, fun z => by omega⟩⟩
  refine fr_X11_trySteps (c_trySteps hm hV hR hS h6) (fun v I2 J2 h2 s2 => ?_)
  obtain ⟨rfl, hS2, hR2⟩ := h2
  refine fr_X4_take (c_take sK310 hs.1 hR2 hS2) (fun I3 J3 hE _ => chosenStep_of hs.1 hE ⟨rgK (by omega), fun c => ?_, fun c => ?_⟩)
  · rw [if_neg c]
  · rw [if_pos c]
theorem c_cutBehind {m : Nat} (hx : x = (m : Int)) (hm : m ≤ 200) (hV : VS σ) (hR : RG 200 I J σ nm) (hS : RS 300 I σ) (h6 : σ 6 + 200 ≤ 1000000000) : wp_X11_cutBehind x I J (fun r _ _ => r = cutZ (stpZ m σ).2) := by
  subst hx
  have hs := VS_stp m hV (by omega)
  refine ⟨rgK (by omega), fun z => by omega, fun _ => ⟨fun _ => ?_, fun z => by omega⟩⟩
  refine fr_X11_trySteps (c_trySteps hm hV hR hS h6) (fun v I2 J2 h2 s2 => ?_)
  obtain ⟨rfl, hS2, hR2⟩ := h2
  exact fr_X4_take (c_take sK310 hs.1 hR2 hS2) (fun I3 J3 hE _ => hE.2.2.2.2.2.1)
theorem c_events (hS : RS 300 I σ) : wp_X11_events I J (fun r _ _ => r = kev σ) := hS.e
theorem c_event (hV : VS σ) (hS : RS 300 I σ) (hx : 0 ≤ x ∧ x < kev σ) (hy : 0 ≤ y ∧ y ≤ 3) : wp_X11_event x y I J (fun r _ _ => r = evtZ σ x y) := by
  have kb := kev_b hV.M
  have he := hS.e
  refine ⟨rgK (by omega), fun z => by omega, fun _ => ⟨rgK (by omega), fun _ => ⟨rgK (by omega), fun z => by omega, fun _ => ⟨fun _ => ?_, fun z => by omega⟩⟩, fun z => by omega⟩⟩
  refine at_of (n := 120) (i := 4 * x.toNat + y.toNat) rfl (by omega) (by omega) ?_
  rw [hS.ev (i := x.toNat) (w := y.toNat) (by omega) (by omega), show ((x.toNat : Nat) : Int) = x by omega]
  rfl
theorem s_keptEvents (hM : MS (I 2)) : wp_X12_keptEvents I J (fun r _ _ => r = kev (I 2)) := by
  have b6 := ms_6 hM
  unfold kev
  exact ⟨rgK (by omega), fun c => by rw [if_neg (by omega)], fun c => by rw [if_pos (by omega)]⟩
theorem s_events (hM : MS (I 2)) : wp_X12_events I J (fun r I' _ => r = kev (I 2) ∧ I' = up2 I 0 0 0) := by
  intro I1 e1
  have e2 : I1 2 = I 2 := by rw [e1, up2_key (by omega)]
  exact fr_X12_keptEvents (s_keptEvents (by rw [e2]; exact hM)) (fun r hr => ⟨by rw [hr, e2], e1⟩)
theorem s_event (hM : MS (I 2)) (hx : rg x) (hy : rg y) : wp_X12_event x y I J (fun r I' _ => AN2 (0 ≤ x ∧ x < kev (I 2)) (0 ≤ y ∧ y ≤ 3) (evtZ (I 2) x y) r I I') := by
  have kb := kev_b hM
  have b6 := ms_6 hM
  refine fr_X12_keptEvents (s_keptEvents hM) (fun k hk => ?_)
  subst hk
  refine fr_X12_isIn (s_isInA hx (rgK (by omega)) (rgK (by omega))) (fun v hv => fr_X12_isIn (s_isInB hy (rgK (by omega)) (rgK (by omega))) (fun w hw => ?_))
  have hv : Bo v (0 ≤ x ∧ x < kev (I 2)) := hv.iff ⟨fun q => by omega, fun q => by omega⟩
  refine both_of hv hw (fun hP hR I' e => ?_) (fun hP I' e => ⟨fun _ => Or.inr (Or.inl ⟨hP, rfl, e⟩), fun z => absurd rfl z⟩) (fun hP hR I' e => ⟨fun _ => Or.inr (Or.inr ⟨hP, hR, rfl, e⟩), fun z => absurd rfl z⟩)
  have e2 : I' 2 = I 2 := by rw [e, up2_key (by omega)]
  have kl : kev (I 2) ≤ I 2 6 := by unfold kev; split <;> omega
  rw [e2]
  have hm1 : 0 ≤ (I 2 6 - 1 - x) % 30 ∧ (I 2 6 - 1 - x) % 30 < 30 := by omega
  refine ⟨fun z => absurd z (by decide), fun _ => ⟨⟨⟨by omega, by omega⟩, by omega⟩, ⟨by omega, by omega⟩, Or.inl ⟨hP, hR, ?_, e⟩⟩⟩
  unfold evtZ
  congr 1
  omega
theorem s_cutBehind (hV : VS (I 2)) (hx : rg x) (h2 : Tl 350 (I 2)) (h6 : Tl 350 (I 6)) (hs : I 2 6 + 200 ≤ 1000000000) : wp_X12_cutBehind x I J (fun r I' _ => ((0 ≤ x ∧ x ≤ 200) ∧ r = cutZ (stpZ x.toNat (I 2)).2 ∧ I' 0 0 = 0 ∧ I' 2 = I 2 ∧ I' 6 = I 2) ∨ (¬ (0 ≤ x ∧ x ≤ 200) ∧ r = 0 ∧ I' = up2 I 0 0 1)) := by
  refine fr_X12_isIn (s_isInB hx (rgK (by omega)) (rgK (by omega))) (fun v hv => goes_of hv (fun hP I' e => ⟨fun _ => ?_, fun z => absurd z (by decide)⟩) (fun hP I' e => ⟨fun z => absurd rfl z, fun _ => Or.inr ⟨hP, rfl, e⟩⟩))
  have e2 : I' 2 = I 2 := by rw [e, up2_key (by omega)]
  have e6 : I' 6 = I 6 := by rw [e, up2_key (by omega)]
  have e0 : I' 0 0 = 0 := by rw [e, up2_self]
  refine fr_X12_thinks (s_thinks (by rw [e2]; exact h2) (by rw [e6]; exact h6)) (fun I3 J3 h3 s3 => ?_)
  have q2 : I3 2 = I 2 := s3.k.trans e2
  have q0 : I3 0 0 = 0 := s3.i.trans e0
  have q6 : I3 6 = I 2 := h3.trans e2
  have xx : x = ((x.toNat : Nat) : Int) := by omega
  have sn := s_stepsNow (I := I3) (J := J3) (m := x.toNat) (by rw [q2]; exact hV.M) (by rw [q2]; exact hV.GV) (by omega) (by rw [q2]; omega)
  rw [← xx, q2] at sn
  have vs := VS_stp x.toNat hV (by omega)
  refine fr_X12_stepsNow sn (fun r4 I4 J4 h4 s4 => ?_)
  have f6 : I4 6 = I 2 := s4.k.trans q6
  refine fr_X12_cutNow (s_cutNow (by rw [h4.2]; exact vs.1.M)) (fun r5 h5 => ?_)
  refine fr_X12_thinksNoMore (s_thinksNoMore (by rw [h4.2]; exact stpZ_Tl x.toNat hV (by omega) h2) (by rw [f6]; exact h2)) (fun I7 J7 h7 s7 => Or.inl ⟨hP, by rw [h5, h4.2], ?_, h7.trans f6, ?_⟩)
  · exact s7.i.trans (s4.i.trans q0)
  · exact s7.k.trans f6
theorem s_stepsToEnd (hV : VS (I 2)) (hx : rg x) (h2 : Tl 350 (I 2)) (h6 : Tl 350 (I 6)) (hs : I 2 6 + 200 ≤ 1000000000) : wp_X12_stepsToEnd x I J (fun r I' _ => ((0 ≤ x ∧ x ≤ 200) ∧ r = endZ (I 2) x.toNat ∧ I' 0 0 = 0 ∧ I' 2 = I 2 ∧ I' 6 = I 2) ∨ (¬ (0 ≤ x ∧ x ≤ 200) ∧ r = 0 ∧ I' = up2 I 0 0 1)) := by
  refine fr_X12_isIn (s_isInB hx (rgK (by omega)) (rgK (by omega))) (fun v hv => goes_of hv (fun hP I' e => ⟨fun _ => ?_, fun z => absurd z (by decide)⟩) (fun hP I' e => ⟨fun z => absurd rfl z, fun _ => Or.inr ⟨hP, rfl, e⟩⟩))
  have e2 : I' 2 = I 2 := by rw [e, up2_key (by omega)]
  have e6 : I' 6 = I 6 := by rw [e, up2_key (by omega)]
  have e0 : I' 0 0 = 0 := by rw [e, up2_self]
  refine fr_X12_thinks (s_thinks (by rw [e2]; exact h2) (by rw [e6]; exact h6)) (fun I3 J3 h3 s3 => ?_)
  have q2 : I3 2 = I 2 := s3.k.trans e2
  have q0 : I3 0 0 = 0 := s3.i.trans e0
  have q6 : I3 6 = I 2 := h3.trans e2
  obtain ⟨m, xx⟩ : ∃ m : Nat, x = (m : Int) := ⟨x.toNat, by omega⟩
  subst xx
  rw [Int.toNat_natCast]
  generalize hQ : (fun (r : Int) (I' : Ii) (_ : Jj) => ((0 ≤ (m : Int) ∧ (m : Int) ≤ 200) ∧ r = endZ (I 2) m ∧ I' 0 0 = 0 ∧ I' 2 = I 2 ∧ I' 6 = I 2) ∨ (¬ (0 ≤ (m : Int) ∧ (m : Int) ≤ 200) ∧ r = 0 ∧ I' = up2 I 0 0 1)) = Q
  have hQ' : ∀ (r : Int) (a : Ii) (b : Jj), r = endZ (I 2) m → a 0 0 = 0 → a 2 = I 2 → a 6 = I 2 → Q r a b := fun r a b z1 z2 z3 z4 => by rw [← hQ]; exact Or.inl ⟨hP, z1, z2, z3, z4⟩
  clear hQ
  have key : ∀ (n made : Nat) (more : Int) (a : Ii) (b : Jj) (left : Nat), m = made + left → left + 1 ≤ n → VS (a 2) → a 2 6 + (left : Int) ≤ 1000000000 → Tl 350 (a 2) → a 6 = I 2 → a 0 0 = 0 → more = (if nxZ (a 2) = -1 then 0 else 1) → stpZ m (I 2) = ((stpZ left (a 2)).1 + made, (stpZ left (a 2)).2) → L_X12_stepsToEnd_38 (m : Int) Q n (made : Int) more a b := by
    intro n
    induction n with
    | zero => intro made more a b left g1 g2; omega
    | succ n ih =>
      intro made more a b left g1 g2 g3 g4 g5 g6 g7 g8 g9
      have m01 : more = 0 ∨ more = 1 := by rw [g8]; split <;> omega
      have fin : stpZ left (a 2) = (0, a 2) → B_X12_stepsToEnd_73 (m : Int) Q (made : Int) more a b := fun z => by
        rw [z] at g9
        unfold B_X12_stepsToEnd_73
        refine fr_X12_thinksNoMore (s_thinksNoMore g5 (by rw [g6]; exact h2)) (fun I7 J7 h7 s7 => ⟨rgK (by omega), fun c => hQ' _ _ _ ?_ (s7.i.trans g7) (h7.trans g6) (s7.k.trans g6), fun c => hQ' _ _ _ ?_ (s7.i.trans g7) (h7.trans g6) (s7.k.trans g6)⟩)
        · unfold endZ
          rw [g9]
          dsimp only
          have hn : nxZ (a 2) = -1 := by
            by_cases q : nxZ (a 2) = -1
            · exact q
            · rw [if_neg q] at g8; omega
          rw [if_pos hn, Nat.zero_add]
        · unfold endZ
          rw [g9]
          dsimp only
          have hn : ¬ nxZ (a 2) = -1 := fun q => by rw [if_pos q] at g8; omega
          rw [if_neg hn]
      refine ls_X12_stepsToEnd_38 ?_
      unfold Lb_X12_stepsToEnd_38
      refine ⟨rgK (by omega), rgK (by omega), fun c => fin ?_, fun c => ⟨rgK (by omega), fun c2 => fin ?_, fun c2 => ?_⟩⟩
      · have : left = 0 := by omega
        subst this; rfl
      · have hn : nxZ (a 2) = -1 := by
          by_cases q : nxZ (a 2) = -1
          · exact q
          · rw [if_neg q] at g8; omega
        cases left with
        | zero => rfl
        | succ l => unfold stpZ; rw [if_pos hn]
      · obtain ⟨l, rfl⟩ : ∃ l, left = l + 1 := ⟨left - 1, by omega⟩
        have hn : ¬ nxZ (a 2) = -1 := fun q => by rw [if_pos q] at g8; omega
        have hin := nxZ_in g3.M hn
        refine fr_X12_stepNow (s_stepNow g3.M g3.GV (by omega)) (fun r9 I9 J9 h9 s9 => ?_)
        have a9 := (h9.2 hn).2
        have v9 : VS (I9 2) := by rw [a9]; exact VS_comes g3 hin.1 hin.2 (by omega)
        have sk := step_keeps g3.M g3.GV (by omega) hn
        rw [← a9] at sk
        have t9 : Tl 350 (I9 2) := by rw [a9]; exact comesZ_Tl g3.M g5
        have n9 := nxZ_b v9.M
        have go : ∀ more' : Int, more' = (if nxZ (I9 2) = -1 then 0 else 1) → L_X12_stepsToEnd_38 (m : Int) Q n ((made : Int) + 1) more' I9 J9 := fun more' hm' => by
          have := ih (made + 1) more' I9 J9 l (by omega) (by omega) v9 (by omega) t9 (s9.k.trans g6) (s9.i.trans g7) hm' (by
            rw [g9]
            conv => lhs; unfold stpZ
            rw [if_neg hn, ← a9]
            simp only [Prod.mk.injEq, and_true]
            omega)
          rwa [show (((made + 1 : Nat)) : Int) = (made : Int) + 1 by omega] at this
        refine fr_X12_nextNow (s_nextNow v9.M v9.GV) (fun r10 h10 => ?_)
        subst h10
        exact ⟨rgK (by omega), fun c3 => go 0 (by rw [if_pos c3]), fun c3 => go 1 (by rw [if_neg c3])⟩
  have go : ∀ more' : Int, more' = (if nxZ (I3 2) = -1 then 0 else 1) → ∃ n : Nat, L_X12_stepsToEnd_38 (m : Int) Q n 0 more' I3 J3 := fun more' hm' => ⟨m + 1, key (m + 1) 0 more' I3 J3 m (by omega) (by omega) (by rw [q2]; exact hV) (by rw [q2]; omega) (by rw [q2]; exact h2) q6 q0 hm' (by rw [q2]; rfl)⟩
  have n3 := nxZ_b (σ := I3 2) (by rw [q2]; exact hV.M)
  refine fr_X12_nextNow (s_nextNow (by rw [q2]; exact hV.M) (by rw [q2]; exact hV.GV)) (fun r4 h4 => ?_)
  subst h4
  exact ⟨rgK (by omega), fun c3 => go 0 (by rw [if_pos c3]), fun c3 => go 1 (by rw [if_neg c3])⟩
end ASQ
