/-! ===== acts: placing ===== -/
theorem plZ_cong {σ : Nat → Int} {b b' : Nat → Int} : ∀ {m : Nat}, (∀ g, g < m → b g = b' g) → plZ σ b m = plZ σ b' m
  | 0, _ => rfl
  | m + 1, h => by rw [plZ_succ, plZ_succ, plZ_cong (fun g hg => h g (by omega)), h m (by omega)]
theorem FLW_one {σ : Nat → Int} {a b : Nat} {T T' : Int} {s s' : Nat} (h : FLW σ a b T s) (h' : FLW σ a b T' s') : T = T' ∧ s = s' := by
  obtain ⟨h1, h2, h3, h4, h5⟩ := h
  obtain ⟨g1, g2, g3, g4, g5⟩ := h'
  have e1 := h5 s' g2 g3
  have e2 := g5 s h2 h3
  have eT : T = T' := by omega
  refine ⟨eT, Nat.eq_of_testBit_eq (fun i => ?_)⟩
  have q1 := e1.2 (by omega) i
  have q2 := e2.2 (by omega) i
  cases c : s.testBit i
  · cases c2 : s'.testBit i
    · rfl
    · rw [q2 c2] at c; cases c
  · exact (q1 c).symm
section ACP
variable {σ : Nat → Int} {nm : Nat → Int64} {u nw : Nat} {pf : Nat → Nat → Int} {I : Ii} {J : Jj} {sL : Nat} {xs : Nat → Int} {l3 : Int} {Q : Int → Ii → Jj → Prop}
theorem a_best (h : LWS σ nm u nw pf I J) (h6 : σ 6 ≤ 150) (hN : I 999 0 ≤ 400000) (hq : AQ σ nm I Q) : wp_X12_groups I J (fun v25 I25 J25 => rg v25 ∧ (v25 ≤ 6 → wp_X12_best I25 J25 (fun v27 I27 J27 => ∃ n : Nat, n ≤ 12 ∧ L_L_acts_310 sL xs l3 Q n v27 0 0 I27 J27)) ∧ (¬ v25 ≤ 6 → Q 1 I25 J25)) := by
  have hV := h.2.2.1.1.1
  have hM := hV.M
  have h9 := h.2.2.2.2.1
  have gr := grs_b hM
  refine w_groups h.2.2.1 ⟨⟨by omega, by omega⟩, fun c => ?_, fun _ => hq σ u nw pf I J h (GE.refl σ) (by omega) (by omega)⟩
  refine w_best h.2.2.1 ⟨h9, by omega⟩ (by omega) (fun I27 K w27 x27 n27 hK dK lK hb => ?_)
  obtain ⟨b, hF, hr⟩ := hb
  have f27 := x27.WF
  have hbb : ∀ g : Nat, (g : Int) < grs σ → 0 ≤ (b g : Int) ∧ (b g : Int) < σ 2 := fun g hg => by
    have := hF.1 g (by omega)
    omega
  have key : ∀ d g : Nat, g + d = (grs σ).toNat → ∀ I1 : Ii, WO (plZ σ (fun g => (b g : Int)) g).1 I1 → WF I27 I1 → I1 999 0 ≤ I27 999 0 + 2 * g → L_L_acts_310 sL xs l3 Q (d + 1) K (((plZ σ (fun g => (b g : Int)) g).2 : Nat) : Int) (g : Int) I1 J := by
    intro d
    induction d with
    | zero =>
      intro g hg I1 w1 f1 n1
      have kp := plZ_keeps hV hbb (by omega) g (by omega)
      have f01 : WF I I1 := f27.trans f1
      have cs := h.cs.w f01
      show Lb_L_acts_310 sL xs l3 Q _ K _ (g : Int) I1 J
      unfold Lb_L_acts_310
      refine w_groups w1 ?_
      rw [kp.2.2.1]
      refine ⟨⟨by omega, by omega⟩, ⟨by omega, by omega⟩, fun _ => ?_, fun z => absurd (by omega) z⟩
      refine fr_X11_placeBest (c_placeBest hV cs.1 cs.2.1 cs.2.2.1.1 (by omega) (by omega)) (fun v64 I64 J64 e64 s64 => ?_)
      obtain ⟨b2, hF2, r1, r2, r3⟩ := e64
      have hone := FB_one hF hF2
      have hpl : plZ σ (fun g => (b2 g : Int)) (grs σ).toNat = plZ σ (fun g => (b g : Int)) (grs σ).toNat := plZ_cong (fun g hg => by
        show (b2 g : Int) = (b g : Int)
        rw [hone.1 g hg])
      rw [hpl] at r1 r2
      have eg : g = (grs σ).toNat := by omega
      rw [eg] at w1 kp ⊢
      obtain ⟨hf, hk⟩ := cs.hf s64 r2 r3
      have w64 := w1.cls cs.2.2.2.1 hk
      have n64 : I64 999 0 = I1 999 0 := by rw [hk 999 (by omega)]
      obtain ⟨u', nw', pf', hL, -, -, -⟩ := hf.ls hV kp.2.1 w64
      exact ⟨by rw [r1]; exact ⟨by omega, by omega⟩, ⟨by omega, by omega⟩, fun z => absurd r1 z, fun _ => hq _ u' nw' pf' I64 J64 hL kp.2.1 (by omega) (by omega)⟩
    | succ d ih =>
      intro g hg I1 w1 f1 n1
      have kp := plZ_keeps hV hbb (by omega) g (by omega)
      show Lb_L_acts_310 sL xs l3 Q _ K _ (g : Int) I1 J
      unfold Lb_L_acts_310
      refine w_groups w1 ?_
      rw [kp.2.2.1]
      have dd := ExW.ds f1 (k := K) (by omega) (by omega)
      have iK : I1 K = I27 K := (f1.2 K (by omega) (by omega)).1 (fun q => by
        rcases q with q | q
        · omega
        · rw [dK] at q; cases q)
      have f9 := f1.1
      have f91 := f27.1
      refine ⟨⟨by omega, by omega⟩, ⟨by omega, by omega⟩, fun z => by omega, fun _ => ⟨⟨by rw [dd.1]; exact dK, by omega, by rw [dd.2, lK]; omega⟩, ?_⟩⟩
      have hbg := hbb g (by omega)
      rw [Int.toNat_natCast, iK, hr g (by omega)]
      refine w_comes w1 ⟨by omega, by omega⟩ (by omega) (by omega) (by rw [kp.2.2.1]; omega) (by rw [kp.2.1 2 (by omega)]; exact hbg) (fun I68 w68 f68 n68 => ?_)
      have nx := ih (g + 1) (by omega) I68 w68 (f1.trans f68) (by omega)
      rw [plZ_succ] at nx
      rw [show ((g : Int) + 1) = ((g + 1 : Nat) : Int) by omega]
      by_cases c : gPt (plZ σ (fun g => (b g : Int)) g).1 (g : Int) = (b g : Int)
      · rw [if_pos c] at nx ⊢
        refine ⟨fun _ => ?_, fun z => absurd rfl z⟩
        rw [Int.add_zero]
        exact nx
      · rw [if_neg c] at nx ⊢
        refine ⟨fun z => absurd z (by decide), fun _ => ?_⟩
        exact nx
  exact ⟨(grs σ).toNat + 1, by omega, key (grs σ).toNat 0 (by omega) I27 w27 (WF.rf I27) (by omega)⟩
theorem a_apart {a b : Nat} {x y : Int} (h : LWS σ nm u nw pf I J) (h6 : σ 6 ≤ 150) (hN : I 999 0 ≤ 400000) (hT : ∀ a, a < (σ 0).toNat → outZ σ (2 ^ a) ≤ 110) (h2 : σ 2 = 2) (hx : x = (a : Int)) (hy : y = (b : Int)) (ha : a < (σ 0).toNat) (hb : b < (σ 0).toNat) (hab : a ≠ b) (hq : AQ σ nm I Q) : wp_Jx4a65c_size_8abf5 1020 I J (fun v33 I33 J33 => rg v33 ∧ (v33 ≤ 1 → wp_X12_flow x y I33 J33 (fun v35 I35 J35 => (dS I35 v35 = 1 ∧ (0 : Int) ≤ 1 ∧ (1 : Int) < dL I35 v35) ∧ ∃ n : Nat, n ≤ 12 ∧ L_L_acts_438 sL xs l3 Q n x y (I35 v35 ((1 : Int).toNat)) 0 0 I35 J35)) ∧ (¬ v33 ≤ 1 → Q 1 I33 J33)) := by
  have hV := h.2.2.1.1.1
  have hM := hV.M
  have b5 := ms_5 hM
  have b10 := h.2.2.1.1.2
  have h9 := h.2.2.2.2.1
  obtain ⟨L, hL⟩ := h.2.2.1.2.2.1
  refine AL_size hL.1 ⟨⟨by omega, by omega⟩, fun c => ?_, fun _ => hq σ u nw pf I J h (GE.refl σ) (by omega) (by omega)⟩
  have h5 : σ 5 = 0 := by omega
  have hg0 : grs σ = σ 0 := by
    unfold grs
    rw [h5]
    exact hV.n0
  refine w_flow h.2.2.1 ⟨h9, by omega⟩ hx hy ha hb hab (hT a ha) (fun I35 K T s w35 x35 n35 dK lK k0 k1 hF => ⟨⟨dK, by decide, by rw [lK]; decide⟩, ?_⟩)
  rw [show ((1 : Int).toNat) = 1 from rfl, k1]
  have f35 := x35.WF
  have hs14 : s < 1024 := Nat.lt_of_lt_of_le hF.1 (Nat.le_trans (Nat.pow_le_pow_right (by decide) (by omega)) (by decide : 2 ^ 10 ≤ 1024))
  have hbb : ∀ g : Nat, (g : Int) < grs σ → 0 ≤ (if s.testBit g = true then (0 : Int) else 1) ∧ (if s.testBit g = true then (0 : Int) else 1) < σ 2 := fun g hg => by
    split <;> omega
  generalize hB : (fun g : Nat => if s.testBit g = true then (0 : Int) else 1) = B
  have eB : ∀ g, B g = if s.testBit g = true then (0 : Int) else 1 := fun g => by rw [← hB]
  have hbb : ∀ g : Nat, (g : Int) < grs σ → 0 ≤ B g ∧ B g < σ 2 := fun g hg => by rw [eB]; exact hbb g hg
  have key : ∀ d g : Nat, g + d = (σ 0).toNat → ∀ I1 : Ii, WO (plZ σ B g).1 I1 → WF I35 I1 → I1 999 0 ≤ I35 999 0 + 2 * g → L_L_acts_438 sL xs l3 Q (d + 1) x y (s : Int) (((plZ σ B g).2 : Nat) : Int) (g : Int) I1 J := by
    intro d
    induction d with
    | zero =>
      intro g hg I1 w1 f1 n1
      have kp := plZ_keeps hV hbb (by omega) g (by omega)
      have f01 : WF I I1 := f35.trans f1
      have cs := h.cs.w f01
      show Lb_L_acts_438 sL xs l3 Q _ x y (s : Int) _ (g : Int) I1 J
      unfold Lb_L_acts_438
      rw [w1.n, kp.2.1 0 (by omega)]
      refine ⟨⟨by omega, by omega⟩, ⟨by omega, by omega⟩, fun _ => ?_, fun z => absurd (by omega) z⟩
      refine fr_X11_placeApart (c_placeApart hV cs.1 cs.2.1 cs.2.2.1.1 (x := x) (y := y) (by omega) (by omega) (by omega) h2 h5 (by omega)) (fun v71 I71 J71 e71 s71 => ?_)
      obtain ⟨T2, s2, hF2, r1, r2, r3⟩ := e71
      rw [hx, hy, Int.toNat_natCast, Int.toNat_natCast] at hF2
      have es := (FLW_one hF hF2).2
      subst es
      have hB2 : (fun g : Nat => if s.testBit g = true then (0 : Int) else 1) = B := hB
      rw [hB2] at r1 r2
      have eg : g = (σ 0).toNat := by omega
      rw [eg] at w1 kp ⊢
      obtain ⟨hf, hk⟩ := cs.hf s71 r2 r3
      have w71 := w1.cls cs.2.2.2.1 hk
      have n71 : I71 999 0 = I1 999 0 := by rw [hk 999 (by omega)]
      obtain ⟨u', nw', pf', hL', -, -, -⟩ := hf.ls hV kp.2.1 w71
      exact ⟨by rw [r1]; exact ⟨by omega, by omega⟩, ⟨by omega, by omega⟩, fun z => absurd r1 z, fun _ => hq _ u' nw' pf' I71 J71 hL' kp.2.1 (by omega) (by omega)⟩
    | succ d ih =>
      intro g hg I1 w1 f1 n1
      have kp := plZ_keeps hV hbb (by omega) g (by omega)
      show Lb_L_acts_438 sL xs l3 Q _ x y (s : Int) _ (g : Int) I1 J
      unfold Lb_L_acts_438
      rw [w1.n, kp.2.1 0 (by omega)]
      have f9 := f1.1
      have f91 := f35.1
      have hbg := hbb g (by omega)
      have com : ∀ t : Int, t = B g → B_L_acts_468 sL xs l3 Q (L_L_acts_438 sL xs l3 Q (d + 1)) x y (s : Int) (g : Int) (((plZ σ B g).2 : Nat) : Int) (g : Int) t I1 J := fun t et => by
        unfold B_L_acts_468
        rw [et]
        refine w_comes w1 ⟨by omega, by omega⟩ (by omega) (by omega) (by rw [kp.2.2.1]; omega) (by rw [kp.2.1 2 (by omega)]; exact hbg) (fun I68 w68 f68 n68 => ?_)
        have nx := ih (g + 1) (by omega) I68 w68 (f1.trans f68) (by omega)
        rw [plZ_succ] at nx
        rw [show ((g : Int) + 1) = ((g + 1 : Nat) : Int) by omega]
        by_cases c : gPt (plZ σ B g).1 (g : Int) = B g
        · rw [if_pos c] at nx ⊢
          refine ⟨fun _ => ?_, fun z => absurd rfl z⟩
          rw [Int.add_zero]
          exact nx
        · rw [if_neg c] at nx ⊢
          exact ⟨fun z => absurd z (by decide), fun _ => nx⟩
      refine ⟨⟨by omega, by omega⟩, ⟨by omega, by omega⟩, fun z => by omega, fun _ => ?_⟩
      rw [bit1 (by omega) (by omega)]
      by_cases q : s.testBit g = true
      · rw [if_pos q]
        exact ⟨fun z => absurd rfl z, fun _ => com 0 (by rw [eB, if_pos q])⟩
      · rw [if_neg q]
        exact ⟨fun _ => com 1 (by rw [eB, if_neg q]), fun z => absurd z (by decide)⟩
  exact ⟨(σ 0).toNat + 1, by omega, key (σ 0).toNat 0 (by omega) I35 w35 (WF.rf I35) (by omega)⟩
/-- one change -/
theorem c_acts (h : LWS σ nm u nw pf I J) (hi : 0 ≤ l3 ∧ l3 < 14) (h6 : σ 6 ≤ 150) (hN : I 999 0 ≤ 400000) (hT : ∀ a, a < (σ 0).toNat → outZ σ (2 ^ a) ≤ 110) (hq : AQ σ nm I Q) : wp_L_acts sL xs l3 I J Q := by
  have hV := h.2.2.1.1.1
  have hM := hV.M
  have b2 := ms_2 hM
  have gr := grs_b hM
  have b10 := h.2.2.1.1.2
  have hw := h.2.2.1
  have i0 : I 1000 0 = σ 0 := hw.2.1.1.1
  have i1 : I 1000 1 = σ 2 := hw.2.1.1.2.1
  unfold wp_L_acts
  refine c_pick (by omega) (by omega) (fun v _ hv => w_groups hw ?_)
  have g1 : 1 ≤ grs σ := by
    have := hV.g (v := 0) (by omega)
    omega
  refine c_pick (by omega) (by omega) (fun g _ hg => ?_)
  rw [i1]
  refine c_pick (by omega) (by omega) (fun p _ hp => c_pick (by omega) (by omega) (fun k _ hk => ?_))
  refine ⟨⟨by omega, by omega⟩, fun _ => a_credit h hv hq, fun _ => a_shrink h hN hq, fun _ => a_shrink h hN hq, fun _ => a_grow h hN hq, fun _ => a_move h h6 hN hg hp hq, fun _ => a_move h h6 hN hg hp hq, fun _ => a_step h h6 hN hq, fun _ => a_step h h6 hN hq, fun _ => a_steps h h6 hN hv hq, fun _ => a_best h h6 hN hq, fun _ => ?_⟩
  rw [i0]
  have hn : σ 0 = 2 ∨ σ 0 = 3 ∨ σ 0 = 4 ∨ σ 0 = 5 ∨ σ 0 = 6 ∨ σ 0 = 7 ∨ σ 0 = 8 ∨ σ 0 = 9 ∨ σ 0 = 10 := by omega
  have hab : (0 ≤ v % σ 0 ∧ v % σ 0 < σ 0) ∧ (0 ≤ (v % σ 0 + 1 + v / 20 % (σ 0 - 1)) % σ 0 ∧ (v % σ 0 + 1 + v / 20 % (σ 0 - 1)) % σ 0 < σ 0) ∧ v % σ 0 ≠ (v % σ 0 + 1 + v / 20 % (σ 0 - 1)) % σ 0 ∧ 0 ≤ v / 20 ∧ v / 20 < 4000 ∧ 0 ≤ v % σ 0 + 1 + v / 20 % (σ 0 - 1) ∧ v % σ 0 + 1 + v / 20 % (σ 0 - 1) < 100 := by
    have hw2 : 0 ≤ v / 20 ∧ v / 20 < 4000 := by omega
    generalize v / 20 = w at hw2 ⊢
    rcases hn with e | e | e | e | e | e | e | e | e <;> rw [e] <;> omega
  generalize v % σ 0 = A at hab ⊢
  generalize (A + 1 + v / 20 % (σ 0 - 1)) % σ 0 = B at hab ⊢
  refine ⟨⟨by omega, by omega⟩, ⟨by omega, by omega⟩, ⟨by omega, by omega⟩, ⟨by omega, by omega⟩, ⟨by omega, by omega⟩, fun _ => hq σ u nw pf I J h (GE.refl σ) (by omega) (by omega), fun c => ?_⟩
  exact a_apart h h6 hN hT (i1.symm.trans c) (a := A.toNat) (b := B.toNat) (by omega) (by omega) (by omega) (by omega) (by omega) hq
end ACP
